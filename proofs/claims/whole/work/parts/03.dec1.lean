theorem dX0_init_0 : decode cX0_init 0 = .ok (.aload_n 0, 1) := by decide +kernel
theorem dX0_init_1 : decode cX0_init 1 = .ok (.invokespecial 1, 3) := by decide +kernel
theorem dX0_init_4 : decode cX0_init 4 = .ok (.return_, 1) := by decide +kernel
theorem dX0_leansMore_0 : decode cX0_leansMore 0 = .ok (.iconst 1, 1) := by decide +kernel
theorem dX0_leansMore_1 : decode cX0_leansMore 1 = .ok (.ireturn, 1) := by decide +kernel
theorem dX0_bears_0 : decode cX0_bears 0 = .ok (.bipush 95, 2) := by decide +kernel
theorem dX0_bears_2 : decode cX0_bears 2 = .ok (.ireturn, 1) := by decide +kernel
theorem dX0_tips_0 : decode cX0_tips 0 = .ok (.aload_n 0, 1) := by decide +kernel
theorem dX0_tips_1 : decode cX0_tips 1 = .ok (.bipush 20, 2) := by decide +kernel
theorem dX0_tips_3 : decode cX0_tips 3 = .ok (.invokevirtual 7, 3) := by decide +kernel
theorem dX0_tips_6 : decode cX0_tips 6 = .ok (.aload_n 0, 1) := by decide +kernel
theorem dX0_tips_7 : decode cX0_tips 7 = .ok (.iload_n 1, 1) := by decide +kernel
theorem dX0_tips_8 : decode cX0_tips 8 = .ok (.invokespecial 13, 3) := by decide +kernel
theorem dX0_tips_11 : decode cX0_tips 11 = .ok (.bipush 30, 2) := by decide +kernel
theorem dX0_tips_13 : decode cX0_tips 13 = .ok (.ixor, 1) := by decide +kernel
theorem dX0_tips_14 : decode cX0_tips 14 = .ok (.ireturn, 1) := by decide +kernel
theorem dX1_init_0 : decode cX1_init 0 = .ok (.aload_n 0, 1) := by decide +kernel
theorem dX1_init_1 : decode cX1_init 1 = .ok (.invokespecial 1, 3) := by decide +kernel
theorem dX1_init_4 : decode cX1_init 4 = .ok (.return_, 1) := by decide +kernel
theorem dX1_leansMore_0 : decode cX1_leansMore 0 = .ok (.aload_n 0, 1) := by decide +kernel
theorem dX1_leansMore_1 : decode cX1_leansMore 1 = .ok (.iload_n 1, 1) := by decide +kernel
theorem dX1_leansMore_2 : decode cX1_leansMore 2 = .ok (.iload_n 2, 1) := by decide +kernel
theorem dX1_leansMore_3 : decode cX1_leansMore 3 = .ok (.iload_n 3, 1) := by decide +kernel
theorem dX1_leansMore_4 : decode cX1_leansMore 4 = .ok (.invokespecial 7, 3) := by decide +kernel
theorem dX1_leansMore_7 : decode cX1_leansMore 7 = .ok (.iload_n 3, 1) := by decide +kernel
theorem dX1_leansMore_8 : decode cX1_leansMore 8 = .ok (.bipush 6, 2) := by decide +kernel
theorem dX1_leansMore_10 : decode cX1_leansMore 10 = .ok (.idiv, 1) := by decide +kernel
theorem dX1_leansMore_11 : decode cX1_leansMore 11 = .ok (.iadd, 1) := by decide +kernel
theorem dX1_leansMore_12 : decode cX1_leansMore 12 = .ok (.ireturn, 1) := by decide +kernel
theorem dX1_bears_0 : decode cX1_bears 0 = .ok (.aload_n 0, 1) := by decide +kernel
theorem dX1_bears_1 : decode cX1_bears 1 = .ok (.iload_n 1, 1) := by decide +kernel
theorem dX1_bears_2 : decode cX1_bears 2 = .ok (.iload_n 2, 1) := by decide +kernel
theorem dX1_bears_3 : decode cX1_bears 3 = .ok (.invokespecial 11, 3) := by decide +kernel
theorem dX1_bears_6 : decode cX1_bears 6 = .ok (.iload_n 1, 1) := by decide +kernel
theorem dX1_bears_7 : decode cX1_bears 7 = .ok (.iadd, 1) := by decide +kernel
theorem dX1_bears_8 : decode cX1_bears 8 = .ok (.ireturn, 1) := by decide +kernel
theorem dX1_tips_0 : decode cX1_tips 0 = .ok (.aload_n 0, 1) := by decide +kernel
theorem dX1_tips_1 : decode cX1_tips 1 = .ok (.bipush 50, 2) := by decide +kernel
theorem dX1_tips_3 : decode cX1_tips 3 = .ok (.invokevirtual 15, 3) := by decide +kernel
theorem dX1_tips_6 : decode cX1_tips 6 = .ok (.aload_n 0, 1) := by decide +kernel
theorem dX1_tips_7 : decode cX1_tips 7 = .ok (.iload_n 1, 1) := by decide +kernel
theorem dX1_tips_8 : decode cX1_tips 8 = .ok (.bipush 14, 2) := by decide +kernel
theorem dX1_tips_10 : decode cX1_tips 10 = .ok (.isub, 1) := by decide +kernel
theorem dX1_tips_11 : decode cX1_tips 11 = .ok (.invokespecial 21, 3) := by decide +kernel
theorem dX1_tips_14 : decode cX1_tips 14 = .ok (.ireturn, 1) := by decide +kernel
theorem dX1_turns_0 : decode cX1_turns 0 = .ok (.aload_n 0, 1) := by decide +kernel
theorem dX1_turns_1 : decode cX1_turns 1 = .ok (.bipush 51, 2) := by decide +kernel
theorem dX1_turns_3 : decode cX1_turns 3 = .ok (.invokevirtual 15, 3) := by decide +kernel
theorem dX1_turns_6 : decode cX1_turns 6 = .ok (.aload_n 0, 1) := by decide +kernel
theorem dX1_turns_7 : decode cX1_turns 7 = .ok (.iload_n 1, 1) := by decide +kernel
theorem dX1_turns_8 : decode cX1_turns 8 = .ok (.invokespecial 25, 3) := by decide +kernel
theorem dX1_turns_11 : decode cX1_turns 11 = .ok (.aload_n 0, 1) := by decide +kernel
theorem dX1_turns_12 : decode cX1_turns 12 = .ok (.aload_n 0, 1) := by decide +kernel
theorem dX1_turns_13 : decode cX1_turns 13 = .ok (.getfield 28, 3) := by decide +kernel
theorem dX1_turns_16 : decode cX1_turns 16 = .ok (.invokevirtual 32, 3) := by decide +kernel
theorem dX1_turns_19 : decode cX1_turns 19 = .ok (.isub, 1) := by decide +kernel
theorem dX1_turns_20 : decode cX1_turns 20 = .ok (.ireturn, 1) := by decide +kernel
theorem dX2_init_0 : decode cX2_init 0 = .ok (.aload_n 0, 1) := by decide +kernel
theorem dX2_init_1 : decode cX2_init 1 = .ok (.invokespecial 1, 3) := by decide +kernel
theorem dX2_init_4 : decode cX2_init 4 = .ok (.return_, 1) := by decide +kernel
theorem dX2_leansMore_0 : decode cX2_leansMore 0 = .ok (.iconst 2, 1) := by decide +kernel
theorem dX2_leansMore_1 : decode cX2_leansMore 1 = .ok (.aload_n 0, 1) := by decide +kernel
theorem dX2_leansMore_2 : decode cX2_leansMore 2 = .ok (.iload_n 1, 1) := by decide +kernel
theorem dX2_leansMore_3 : decode cX2_leansMore 3 = .ok (.iload_n 2, 1) := by decide +kernel
theorem dX2_leansMore_4 : decode cX2_leansMore 4 = .ok (.iload_n 3, 1) := by decide +kernel
theorem dX2_leansMore_5 : decode cX2_leansMore 5 = .ok (.invokespecial 7, 3) := by decide +kernel
theorem dX2_leansMore_8 : decode cX2_leansMore 8 = .ok (.imul, 1) := by decide +kernel
theorem dX2_leansMore_9 : decode cX2_leansMore 9 = .ok (.ireturn, 1) := by decide +kernel
theorem dX2_bears_0 : decode cX2_bears 0 = .ok (.aload_n 0, 1) := by decide +kernel
theorem dX2_bears_1 : decode cX2_bears 1 = .ok (.iload_n 1, 1) := by decide +kernel
theorem dX2_bears_2 : decode cX2_bears 2 = .ok (.iload_n 2, 1) := by decide +kernel
theorem dX2_bears_3 : decode cX2_bears 3 = .ok (.invokespecial 11, 3) := by decide +kernel
theorem dX2_bears_6 : decode cX2_bears 6 = .ok (.bipush 8, 2) := by decide +kernel
theorem dX2_bears_8 : decode cX2_bears 8 = .ok (.isub, 1) := by decide +kernel
theorem dX2_bears_9 : decode cX2_bears 9 = .ok (.ireturn, 1) := by decide +kernel
theorem dX2_taps_0 : decode cX2_taps 0 = .ok (.aload_n 0, 1) := by decide +kernel
theorem dX2_taps_1 : decode cX2_taps 1 = .ok (.bipush 30, 2) := by decide +kernel
theorem dX2_taps_3 : decode cX2_taps 3 = .ok (.invokevirtual 15, 3) := by decide +kernel
theorem dX2_taps_6 : decode cX2_taps 6 = .ok (.aload_n 0, 1) := by decide +kernel
theorem dX2_taps_7 : decode cX2_taps 7 = .ok (.iload_n 1, 1) := by decide +kernel
theorem dX2_taps_8 : decode cX2_taps 8 = .ok (.invokespecial 21, 3) := by decide +kernel
theorem dX2_taps_11 : decode cX2_taps 11 = .ok (.iconst 2, 1) := by decide +kernel
theorem dX2_taps_12 : decode cX2_taps 12 = .ok (.imul, 1) := by decide +kernel
theorem dX2_taps_13 : decode cX2_taps 13 = .ok (.ireturn, 1) := by decide +kernel
theorem dX3_init_0 : decode cX3_init 0 = .ok (.aload_n 0, 1) := by decide +kernel
theorem dX3_init_1 : decode cX3_init 1 = .ok (.invokespecial 1, 3) := by decide +kernel
theorem dX3_init_4 : decode cX3_init 4 = .ok (.return_, 1) := by decide +kernel
theorem dX3_leansMore_0 : decode cX3_leansMore 0 = .ok (.iconst 0, 1) := by decide +kernel
theorem dX3_leansMore_1 : decode cX3_leansMore 1 = .ok (.aload_n 0, 1) := by decide +kernel
theorem dX3_leansMore_2 : decode cX3_leansMore 2 = .ok (.iload_n 1, 1) := by decide +kernel
theorem dX3_leansMore_3 : decode cX3_leansMore 3 = .ok (.iload_n 2, 1) := by decide +kernel
theorem dX3_leansMore_4 : decode cX3_leansMore 4 = .ok (.iload_n 3, 1) := by decide +kernel
theorem dX3_leansMore_5 : decode cX3_leansMore 5 = .ok (.invokespecial 7, 3) := by decide +kernel
theorem dX3_leansMore_8 : decode cX3_leansMore 8 = .ok (.iload_n 2, 1) := by decide +kernel
theorem dX3_leansMore_9 : decode cX3_leansMore 9 = .ok (.isub, 1) := by decide +kernel
theorem dX3_leansMore_10 : decode cX3_leansMore 10 = .ok (.invokestatic 11, 3) := by decide +kernel
theorem dX3_leansMore_13 : decode cX3_leansMore 13 = .ok (.ireturn, 1) := by decide +kernel
theorem dX3_bears_0 : decode cX3_bears 0 = .ok (.aload_n 0, 1) := by decide +kernel
theorem dX3_bears_1 : decode cX3_bears 1 = .ok (.iload_n 1, 1) := by decide +kernel
theorem dX3_bears_2 : decode cX3_bears 2 = .ok (.iload_n 2, 1) := by decide +kernel
theorem dX3_bears_3 : decode cX3_bears 3 = .ok (.invokespecial 17, 3) := by decide +kernel
theorem dX3_bears_6 : decode cX3_bears 6 = .ok (.bipush 10, 2) := by decide +kernel
theorem dX3_bears_8 : decode cX3_bears 8 = .ok (.iadd, 1) := by decide +kernel
theorem dX3_bears_9 : decode cX3_bears 9 = .ok (.ireturn, 1) := by decide +kernel
theorem dX3_halves_0 : decode cX3_halves 0 = .ok (.aload_n 0, 1) := by decide +kernel
theorem dX3_halves_1 : decode cX3_halves 1 = .ok (.bipush 40, 2) := by decide +kernel
theorem dX3_halves_3 : decode cX3_halves 3 = .ok (.invokevirtual 20, 3) := by decide +kernel
theorem dX3_halves_6 : decode cX3_halves 6 = .ok (.aload_n 0, 1) := by decide +kernel
theorem dX3_halves_7 : decode cX3_halves 7 = .ok (.iload_n 1, 1) := by decide +kernel
theorem dX3_halves_8 : decode cX3_halves 8 = .ok (.invokespecial 26, 3) := by decide +kernel
theorem dX3_halves_11 : decode cX3_halves 11 = .ok (.iconst 5, 1) := by decide +kernel
theorem dX3_halves_12 : decode cX3_halves 12 = .ok (.iadd, 1) := by decide +kernel
theorem dX3_halves_13 : decode cX3_halves 13 = .ok (.ireturn, 1) := by decide +kernel
theorem dX4_init_0 : decode cX4_init 0 = .ok (.aload_n 0, 1) := by decide +kernel
theorem dX4_init_1 : decode cX4_init 1 = .ok (.invokespecial 3, 3) := by decide +kernel
theorem dX4_init_4 : decode cX4_init 4 = .ok (.aload_n 0, 1) := by decide +kernel
theorem dX4_init_5 : decode cX4_init 5 = .ok (.iconst 0, 1) := by decide +kernel
theorem dX4_init_6 : decode cX4_init 6 = .ok (.putfield 9, 3) := by decide +kernel
theorem dX4_init_9 : decode cX4_init 9 = .ok (.aload_n 0, 1) := by decide +kernel
theorem dX4_init_10 : decode cX4_init 10 = .ok (.iconst 0, 1) := by decide +kernel
theorem dX4_init_11 : decode cX4_init 11 = .ok (.putfield 15, 3) := by decide +kernel
theorem dX4_init_14 : decode cX4_init 14 = .ok (.aload_n 0, 1) := by decide +kernel
theorem dX4_init_15 : decode cX4_init 15 = .ok (.bipush 6, 2) := by decide +kernel
theorem dX4_init_17 : decode cX4_init 17 = .ok (.newarray .int, 2) := by decide +kernel
theorem dX4_init_19 : decode cX4_init 19 = .ok (.putfield 18, 3) := by decide +kernel
theorem dX4_init_22 : decode cX4_init 22 = .ok (.return_, 1) := by decide +kernel
theorem dX4_take_0 : decode cX4_take 0 = .ok (.aload_n 0, 1) := by decide +kernel
theorem dX4_take_1 : decode cX4_take 1 = .ok (.aload_n 1, 1) := by decide +kernel
theorem dX4_take_2 : decode cX4_take 2 = .ok (.getfield 9, 3) := by decide +kernel
theorem dX4_take_5 : decode cX4_take 5 = .ok (.putfield 9, 3) := by decide +kernel
theorem dX4_take_8 : decode cX4_take 8 = .ok (.aload_n 0, 1) := by decide +kernel
theorem dX4_take_9 : decode cX4_take 9 = .ok (.aload_n 1, 1) := by decide +kernel
theorem dX4_take_10 : decode cX4_take 10 = .ok (.getfield 15, 3) := by decide +kernel
theorem dX4_take_13 : decode cX4_take 13 = .ok (.putfield 15, 3) := by decide +kernel
theorem dX4_take_16 : decode cX4_take 16 = .ok (.aload_n 1, 1) := by decide +kernel
theorem dX4_take_17 : decode cX4_take 17 = .ok (.getfield 18, 3) := by decide +kernel
theorem dX4_take_20 : decode cX4_take 20 = .ok (.iconst 0, 1) := by decide +kernel
theorem dX4_take_21 : decode cX4_take 21 = .ok (.aload_n 0, 1) := by decide +kernel
theorem dX4_take_22 : decode cX4_take 22 = .ok (.getfield 18, 3) := by decide +kernel
theorem dX4_take_25 : decode cX4_take 25 = .ok (.iconst 0, 1) := by decide +kernel
theorem dX4_take_26 : decode cX4_take 26 = .ok (.bipush 6, 2) := by decide +kernel
theorem dX4_take_28 : decode cX4_take 28 = .ok (.invokestatic 22, 3) := by decide +kernel
theorem dX4_take_31 : decode cX4_take 31 = .ok (.return_, 1) := by decide +kernel
theorem dX4_isFallen_0 : decode cX4_isFallen 0 = .ok (.aload_n 0, 1) := by decide +kernel
theorem dX4_isFallen_1 : decode cX4_isFallen 1 = .ok (.getfield 15, 3) := by decide +kernel
theorem dX4_isFallen_4 : decode cX4_isFallen 4 = .ok (.iload_n 1, 1) := by decide +kernel
theorem dX4_isFallen_5 : decode cX4_isFallen 5 = .ok (.ishr, 1) := by decide +kernel
theorem dX4_isFallen_6 : decode cX4_isFallen 6 = .ok (.iconst 1, 1) := by decide +kernel
theorem dX4_isFallen_7 : decode cX4_isFallen 7 = .ok (.iand, 1) := by decide +kernel
theorem dX4_isFallen_8 : decode cX4_isFallen 8 = .ok (.ifCond .eq 7, 3) := by decide +kernel
theorem dX4_isFallen_11 : decode cX4_isFallen 11 = .ok (.iconst 1, 1) := by decide +kernel
theorem dX4_isFallen_12 : decode cX4_isFallen 12 = .ok (.goto 4, 3) := by decide +kernel
theorem dX4_isFallen_15 : decode cX4_isFallen 15 = .ok (.iconst 0, 1) := by decide +kernel
theorem dX4_isFallen_16 : decode cX4_isFallen 16 = .ok (.ireturn, 1) := by decide +kernel
theorem dX4_setFallen_0 : decode cX4_setFallen 0 = .ok (.aload_n 0, 1) := by decide +kernel
theorem dX4_setFallen_1 : decode cX4_setFallen 1 = .ok (.getfield 15, 3) := by decide +kernel
theorem dX4_setFallen_4 : decode cX4_setFallen 4 = .ok (.iload_n 1, 1) := by decide +kernel
theorem dX4_setFallen_5 : decode cX4_setFallen 5 = .ok (.ishr, 1) := by decide +kernel
theorem dX4_setFallen_6 : decode cX4_setFallen 6 = .ok (.iconst 1, 1) := by decide +kernel
theorem dX4_setFallen_7 : decode cX4_setFallen 7 = .ok (.iand, 1) := by decide +kernel
theorem dX4_setFallen_8 : decode cX4_setFallen 8 = .ok (.istore_n 3, 1) := by decide +kernel
theorem dX4_setFallen_9 : decode cX4_setFallen 9 = .ok (.aload_n 0, 1) := by decide +kernel
theorem dX4_setFallen_10 : decode cX4_setFallen 10 = .ok (.aload_n 0, 1) := by decide +kernel
theorem dX4_setFallen_11 : decode cX4_setFallen 11 = .ok (.getfield 15, 3) := by decide +kernel
theorem dX4_setFallen_14 : decode cX4_setFallen 14 = .ok (.iconst 1, 1) := by decide +kernel
theorem dX4_setFallen_15 : decode cX4_setFallen 15 = .ok (.iload_n 1, 1) := by decide +kernel
theorem dX4_setFallen_16 : decode cX4_setFallen 16 = .ok (.ishl, 1) := by decide +kernel
theorem dX4_setFallen_17 : decode cX4_setFallen 17 = .ok (.iconst (-1), 1) := by decide +kernel
theorem dX4_setFallen_18 : decode cX4_setFallen 18 = .ok (.ixor, 1) := by decide +kernel
theorem dX4_setFallen_19 : decode cX4_setFallen 19 = .ok (.iand, 1) := by decide +kernel
theorem dX4_setFallen_20 : decode cX4_setFallen 20 = .ok (.iload_n 2, 1) := by decide +kernel
theorem dX4_setFallen_21 : decode cX4_setFallen 21 = .ok (.iload_n 1, 1) := by decide +kernel
theorem dX4_setFallen_22 : decode cX4_setFallen 22 = .ok (.ishl, 1) := by decide +kernel
theorem dX4_setFallen_23 : decode cX4_setFallen 23 = .ok (.ior, 1) := by decide +kernel
theorem dX4_setFallen_24 : decode cX4_setFallen 24 = .ok (.putfield 15, 3) := by decide +kernel
theorem dX4_setFallen_27 : decode cX4_setFallen 27 = .ok (.iload_n 3, 1) := by decide +kernel
theorem dX4_setFallen_28 : decode cX4_setFallen 28 = .ok (.ireturn, 1) := by decide +kernel
theorem dX4_leanMore_0 : decode cX4_leanMore 0 = .ok (.aload_n 0, 1) := by decide +kernel
theorem dX4_leanMore_1 : decode cX4_leanMore 1 = .ok (.getfield 18, 3) := by decide +kernel
theorem dX4_leanMore_4 : decode cX4_leanMore 4 = .ok (.iload_n 1, 1) := by decide +kernel
theorem dX4_leanMore_5 : decode cX4_leanMore 5 = .ok (.bipush 99, 2) := by decide +kernel
theorem dX4_leanMore_7 : decode cX4_leanMore 7 = .ok (.aload_n 0, 1) := by decide +kernel
theorem dX4_leanMore_8 : decode cX4_leanMore 8 = .ok (.getfield 18, 3) := by decide +kernel
theorem dX4_leanMore_11 : decode cX4_leanMore 11 = .ok (.iload_n 1, 1) := by decide +kernel
theorem dX4_leanMore_12 : decode cX4_leanMore 12 = .ok (.iaload, 1) := by decide +kernel
theorem dX4_leanMore_13 : decode cX4_leanMore 13 = .ok (.iload_n 2, 1) := by decide +kernel
theorem dX4_leanMore_14 : decode cX4_leanMore 14 = .ok (.iadd, 1) := by decide +kernel
theorem dX4_leanMore_15 : decode cX4_leanMore 15 = .ok (.invokestatic 28, 3) := by decide +kernel
theorem dX4_leanMore_18 : decode cX4_leanMore 18 = .ok (.iastore, 1) := by decide +kernel
theorem dX4_leanMore_19 : decode cX4_leanMore 19 = .ok (.return_, 1) := by decide +kernel
theorem dX5_init_0 : decode cX5_init 0 = .ok (.aload_n 0, 1) := by decide +kernel
theorem dX5_init_1 : decode cX5_init 1 = .ok (.invokespecial 3, 3) := by decide +kernel
theorem dX5_init_4 : decode cX5_init 4 = .ok (.aload_n 0, 1) := by decide +kernel
theorem dX5_init_5 : decode cX5_init 5 = .ok (.bipush 30, 2) := by decide +kernel
theorem dX5_init_7 : decode cX5_init 7 = .ok (.newarray .int, 2) := by decide +kernel
theorem dX5_init_9 : decode cX5_init 9 = .ok (.putfield 9, 3) := by decide +kernel
theorem dX5_init_12 : decode cX5_init 12 = .ok (.aload_n 0, 1) := by decide +kernel
theorem dX5_init_13 : decode cX5_init 13 = .ok (.iconst 0, 1) := by decide +kernel
theorem dX5_init_14 : decode cX5_init 14 = .ok (.putfield 15, 3) := by decide +kernel
theorem dX5_init_17 : decode cX5_init 17 = .ok (.aload_n 0, 1) := by decide +kernel
theorem dX5_init_18 : decode cX5_init 18 = .ok (.iconst 0, 1) := by decide +kernel
theorem dX5_init_19 : decode cX5_init 19 = .ok (.putfield 19, 3) := by decide +kernel
theorem dX5_init_22 : decode cX5_init 22 = .ok (.aload_n 0, 1) := by decide +kernel
theorem dX5_init_23 : decode cX5_init 23 = .ok (.iconst 0, 1) := by decide +kernel
theorem dX5_init_24 : decode cX5_init 24 = .ok (.putfield 23, 3) := by decide +kernel
theorem dX5_init_27 : decode cX5_init 27 = .ok (.aload_n 0, 1) := by decide +kernel
theorem dX5_init_28 : decode cX5_init 28 = .ok (.iconst 0, 1) := by decide +kernel
theorem dX5_init_29 : decode cX5_init 29 = .ok (.putfield 26, 3) := by decide +kernel
theorem dX5_init_32 : decode cX5_init 32 = .ok (.return_, 1) := by decide +kernel
theorem dX5_leansMore_0 : decode cX5_leansMore 0 = .ok (.iconst 2, 1) := by decide +kernel
theorem dX5_leansMore_1 : decode cX5_leansMore 1 = .ok (.iload_n 1, 1) := by decide +kernel
theorem dX5_leansMore_2 : decode cX5_leansMore 2 = .ok (.iadd, 1) := by decide +kernel
theorem dX5_leansMore_3 : decode cX5_leansMore 3 = .ok (.ireturn, 1) := by decide +kernel
theorem dX5_bears_0 : decode cX5_bears 0 = .ok (.bipush 40, 2) := by decide +kernel
theorem dX5_bears_2 : decode cX5_bears 2 = .ok (.iconst 2, 1) := by decide +kernel
theorem dX5_bears_3 : decode cX5_bears 3 = .ok (.iload_n 1, 1) := by decide +kernel
theorem dX5_bears_4 : decode cX5_bears 4 = .ok (.imul, 1) := by decide +kernel
theorem dX5_bears_5 : decode cX5_bears 5 = .ok (.isub, 1) := by decide +kernel
theorem dX5_bears_6 : decode cX5_bears 6 = .ok (.ireturn, 1) := by decide +kernel
theorem dX5_becomes_0 : decode cX5_becomes 0 = .ok (.aload_n 0, 1) := by decide +kernel
theorem dX5_becomes_1 : decode cX5_becomes 1 = .ok (.iload_n 1, 1) := by decide +kernel
theorem dX5_becomes_2 : decode cX5_becomes 2 = .ok (.putfield 23, 3) := by decide +kernel
theorem dX5_becomes_5 : decode cX5_becomes 5 = .ok (.aload_n 0, 1) := by decide +kernel
theorem dX5_becomes_6 : decode cX5_becomes 6 = .ok (.iload_n 2, 1) := by decide +kernel
theorem dX5_becomes_7 : decode cX5_becomes 7 = .ok (.putfield 26, 3) := by decide +kernel
theorem dX5_becomes_10 : decode cX5_becomes 10 = .ok (.aload_n 0, 1) := by decide +kernel
theorem dX5_becomes_11 : decode cX5_becomes 11 = .ok (.iconst 0, 1) := by decide +kernel
theorem dX5_becomes_12 : decode cX5_becomes 12 = .ok (.putfield 15, 3) := by decide +kernel
theorem dX5_becomes_15 : decode cX5_becomes 15 = .ok (.aload_n 0, 1) := by decide +kernel
theorem dX5_becomes_16 : decode cX5_becomes 16 = .ok (.iconst 0, 1) := by decide +kernel
theorem dX5_becomes_17 : decode cX5_becomes 17 = .ok (.putfield 19, 3) := by decide +kernel
theorem dX5_becomes_20 : decode cX5_becomes 20 = .ok (.return_, 1) := by decide +kernel
theorem dX5_began_0 : decode cX5_began 0 = .ok (.aload_n 0, 1) := by decide +kernel
theorem dX5_began_1 : decode cX5_began 1 = .ok (.getfield 19, 3) := by decide +kernel
theorem dX5_began_4 : decode cX5_began 4 = .ok (.ifCond .ne 12, 3) := by decide +kernel
theorem dX5_began_7 : decode cX5_began 7 = .ok (.aload_n 0, 1) := by decide +kernel
theorem dX5_began_8 : decode cX5_began 8 = .ok (.getfield 15, 3) := by decide +kernel
theorem dX5_began_11 : decode cX5_began 11 = .ok (.bipush 30, 2) := by decide +kernel
theorem dX5_began_13 : decode cX5_began 13 = .ok (.if_icmp .lt 4, 3) := by decide +kernel
theorem dX5_began_16 : decode cX5_began 16 = .ok (.return_, 1) := by decide +kernel
theorem dX5_began_17 : decode cX5_began 17 = .ok (.aload_n 0, 1) := by decide +kernel
theorem dX5_began_18 : decode cX5_began 18 = .ok (.getfield 9, 3) := by decide +kernel
theorem dX5_began_21 : decode cX5_began 21 = .ok (.aload_n 0, 1) := by decide +kernel
theorem dX5_began_22 : decode cX5_began 22 = .ok (.getfield 15, 3) := by decide +kernel
theorem dX5_began_25 : decode cX5_began 25 = .ok (.iload_n 1, 1) := by decide +kernel
theorem dX5_began_26 : decode cX5_began 26 = .ok (.iastore, 1) := by decide +kernel
theorem dX5_began_27 : decode cX5_began 27 = .ok (.aload_n 0, 1) := by decide +kernel
theorem dX5_began_28 : decode cX5_began 28 = .ok (.dup, 1) := by decide +kernel
theorem dX5_began_29 : decode cX5_began 29 = .ok (.getfield 15, 3) := by decide +kernel
theorem dX5_began_32 : decode cX5_began 32 = .ok (.iconst 1, 1) := by decide +kernel
theorem dX5_began_33 : decode cX5_began 33 = .ok (.iadd, 1) := by decide +kernel
theorem dX5_began_34 : decode cX5_began 34 = .ok (.putfield 15, 3) := by decide +kernel
theorem dX5_began_37 : decode cX5_began 37 = .ok (.return_, 1) := by decide +kernel
theorem dX5_tips_0 : decode cX5_tips 0 = .ok (.aload_n 0, 1) := by decide +kernel
theorem dX5_tips_1 : decode cX5_tips 1 = .ok (.bipush 10, 2) := by decide +kernel
theorem dX5_tips_3 : decode cX5_tips 3 = .ok (.invokevirtual 29, 3) := by decide +kernel
theorem dX5_tips_6 : decode cX5_tips 6 = .ok (.iload_n 1, 1) := by decide +kernel
theorem dX5_tips_7 : decode cX5_tips 7 = .ok (.bipush 10, 2) := by decide +kernel
theorem dX5_tips_9 : decode cX5_tips 9 = .ok (.imul, 1) := by decide +kernel
theorem dX5_tips_10 : decode cX5_tips 10 = .ok (.aload_n 0, 1) := by decide +kernel
theorem dX5_tips_11 : decode cX5_tips 11 = .ok (.getfield 23, 3) := by decide +kernel
theorem dX5_tips_14 : decode cX5_tips 14 = .ok (.isub, 1) := by decide +kernel
theorem dX5_tips_15 : decode cX5_tips 15 = .ok (.ireturn, 1) := by decide +kernel
theorem dX5_taps_0 : decode cX5_taps 0 = .ok (.aload_n 0, 1) := by decide +kernel
theorem dX5_taps_1 : decode cX5_taps 1 = .ok (.bipush 11, 2) := by decide +kernel
theorem dX5_taps_3 : decode cX5_taps 3 = .ok (.invokevirtual 29, 3) := by decide +kernel
theorem dX5_taps_6 : decode cX5_taps 6 = .ok (.aload_n 0, 1) := by decide +kernel
theorem dX5_taps_7 : decode cX5_taps 7 = .ok (.iload_n 1, 1) := by decide +kernel
theorem dX5_taps_8 : decode cX5_taps 8 = .ok (.invokevirtual 33, 3) := by decide +kernel
theorem dX5_taps_11 : decode cX5_taps 11 = .ok (.iconst 3, 1) := by decide +kernel
theorem dX5_taps_12 : decode cX5_taps 12 = .ok (.aload_n 0, 1) := by decide +kernel
theorem dX5_taps_13 : decode cX5_taps 13 = .ok (.getfield 26, 3) := by decide +kernel
theorem dX5_taps_16 : decode cX5_taps 16 = .ok (.imul, 1) := by decide +kernel
theorem dX5_taps_17 : decode cX5_taps 17 = .ok (.iadd, 1) := by decide +kernel
theorem dX5_taps_18 : decode cX5_taps 18 = .ok (.ireturn, 1) := by decide +kernel
theorem dX5_halves_0 : decode cX5_halves 0 = .ok (.aload_n 0, 1) := by decide +kernel
theorem dX5_halves_1 : decode cX5_halves 1 = .ok (.bipush 12, 2) := by decide +kernel
theorem dX5_halves_3 : decode cX5_halves 3 = .ok (.invokevirtual 29, 3) := by decide +kernel
theorem dX5_halves_6 : decode cX5_halves 6 = .ok (.aload_n 0, 1) := by decide +kernel
theorem dX5_halves_7 : decode cX5_halves 7 = .ok (.getfield 26, 3) := by decide +kernel
theorem dX5_halves_10 : decode cX5_halves 10 = .ok (.aload_n 0, 1) := by decide +kernel
theorem dX5_halves_11 : decode cX5_halves 11 = .ok (.getfield 23, 3) := by decide +kernel
theorem dX5_halves_14 : decode cX5_halves 14 = .ok (.isub, 1) := by decide +kernel
theorem dX5_halves_15 : decode cX5_halves 15 = .ok (.iconst 4, 1) := by decide +kernel
theorem dX5_halves_16 : decode cX5_halves 16 = .ok (.iadd, 1) := by decide +kernel
theorem dX5_halves_17 : decode cX5_halves 17 = .ok (.istore_n 2, 1) := by decide +kernel
theorem dX5_halves_18 : decode cX5_halves 18 = .ok (.iload_n 2, 1) := by decide +kernel
theorem dX5_halves_19 : decode cX5_halves 19 = .ok (.ifCond .ne 10, 3) := by decide +kernel
theorem dX5_halves_22 : decode cX5_halves 22 = .ok (.aload_n 0, 1) := by decide +kernel
theorem dX5_halves_23 : decode cX5_halves 23 = .ok (.iconst 1, 1) := by decide +kernel
theorem dX5_halves_24 : decode cX5_halves 24 = .ok (.putfield 19, 3) := by decide +kernel
theorem dX5_halves_27 : decode cX5_halves 27 = .ok (.iconst 0, 1) := by decide +kernel
theorem dX5_halves_28 : decode cX5_halves 28 = .ok (.ireturn, 1) := by decide +kernel
theorem dX5_halves_29 : decode cX5_halves 29 = .ok (.iload_n 1, 1) := by decide +kernel
theorem dX5_halves_30 : decode cX5_halves 30 = .ok (.iload_n 2, 1) := by decide +kernel
theorem dX5_halves_31 : decode cX5_halves 31 = .ok (.idiv, 1) := by decide +kernel
theorem dX5_halves_32 : decode cX5_halves 32 = .ok (.ireturn, 1) := by decide +kernel
theorem dX5_turns_0 : decode cX5_turns 0 = .ok (.aload_n 0, 1) := by decide +kernel
theorem dX5_turns_1 : decode cX5_turns 1 = .ok (.bipush 13, 2) := by decide +kernel
theorem dX5_turns_3 : decode cX5_turns 3 = .ok (.invokevirtual 29, 3) := by decide +kernel
theorem dX5_turns_6 : decode cX5_turns 6 = .ok (.aload_n 0, 1) := by decide +kernel
theorem dX5_turns_7 : decode cX5_turns 7 = .ok (.iload_n 1, 1) := by decide +kernel
theorem dX5_turns_8 : decode cX5_turns 8 = .ok (.invokevirtual 37, 3) := by decide +kernel
theorem dX5_turns_11 : decode cX5_turns 11 = .ok (.aload_n 0, 1) := by decide +kernel
theorem dX5_turns_12 : decode cX5_turns 12 = .ok (.iload_n 1, 1) := by decide +kernel
theorem dX5_turns_13 : decode cX5_turns 13 = .ok (.invokevirtual 40, 3) := by decide +kernel
theorem dX5_turns_16 : decode cX5_turns 16 = .ok (.ixor, 1) := by decide +kernel
theorem dX5_turns_17 : decode cX5_turns 17 = .ok (.ireturn, 1) := by decide +kernel
theorem dX6_init_0 : decode cX6_init 0 = .ok (.aload_n 0, 1) := by decide +kernel
theorem dX6_init_1 : decode cX6_init 1 = .ok (.invokespecial 3, 3) := by decide +kernel
theorem dX6_init_4 : decode cX6_init 4 = .ok (.aload_n 0, 1) := by decide +kernel
theorem dX6_init_5 : decode cX6_init 5 = .ok (.iconst 5, 1) := by decide +kernel
theorem dX6_init_6 : decode cX6_init 6 = .ok (.anewarray 9, 3) := by decide +kernel
theorem dX6_init_9 : decode cX6_init 9 = .ok (.putfield 11, 3) := by decide +kernel
theorem dX6_init_12 : decode cX6_init 12 = .ok (.aload_n 0, 1) := by decide +kernel
theorem dX6_init_13 : decode cX6_init 13 = .ok (.iconst 5, 1) := by decide +kernel
theorem dX6_init_14 : decode cX6_init 14 = .ok (.iconst 4, 1) := by decide +kernel
theorem dX6_init_15 : decode cX6_init 15 = .ok (.multianewarray 17 2, 4) := by decide +kernel
theorem dX6_init_19 : decode cX6_init 19 = .ok (.putfield 19, 3) := by decide +kernel
theorem dX6_init_22 : decode cX6_init 22 = .ok (.aload_n 0, 1) := by decide +kernel
theorem dX6_init_23 : decode cX6_init 23 = .ok (.iconst 5, 1) := by decide +kernel
theorem dX6_init_24 : decode cX6_init 24 = .ok (.newarray .int, 2) := by decide +kernel
theorem dX6_init_26 : decode cX6_init 26 = .ok (.putfield 22, 3) := by decide +kernel
theorem dX6_init_29 : decode cX6_init 29 = .ok (.aload_n 0, 1) := by decide +kernel
theorem dX6_init_30 : decode cX6_init 30 = .ok (.aload_n 1, 1) := by decide +kernel
theorem dX6_init_31 : decode cX6_init 31 = .ok (.putfield 26, 3) := by decide +kernel
theorem dX6_init_34 : decode cX6_init 34 = .ok (.iconst 0, 1) := by decide +kernel
theorem dX6_init_35 : decode cX6_init 35 = .ok (.istore_n 2, 1) := by decide +kernel
theorem dX6_init_36 : decode cX6_init 36 = .ok (.iload_n 2, 1) := by decide +kernel
theorem dX6_init_37 : decode cX6_init 37 = .ok (.iconst 4, 1) := by decide +kernel
theorem dX6_init_38 : decode cX6_init 38 = .ok (.if_icmp .gt 22, 3) := by decide +kernel
theorem dX6_init_41 : decode cX6_init 41 = .ok (.aload_n 0, 1) := by decide +kernel
theorem dX6_init_42 : decode cX6_init 42 = .ok (.getfield 11, 3) := by decide +kernel
theorem dX6_init_45 : decode cX6_init 45 = .ok (.iload_n 2, 1) := by decide +kernel
theorem dX6_init_46 : decode cX6_init 46 = .ok (.new 9, 3) := by decide +kernel
theorem dX6_init_49 : decode cX6_init 49 = .ok (.dup, 1) := by decide +kernel
theorem dX6_init_50 : decode cX6_init 50 = .ok (.invokespecial 30, 3) := by decide +kernel
theorem dX6_init_53 : decode cX6_init 53 = .ok (.aastore, 1) := by decide +kernel
theorem dX6_init_54 : decode cX6_init 54 = .ok (.iinc 2 1, 3) := by decide +kernel
theorem dX6_init_57 : decode cX6_init 57 = .ok (.goto (-21), 3) := by decide +kernel
theorem dX6_init_60 : decode cX6_init 60 = .ok (.return_, 1) := by decide +kernel
theorem dX6_start_0 : decode cX6_start 0 = .ok (.aload_n 0, 1) := by decide +kernel
theorem dX6_start_1 : decode cX6_start 1 = .ok (.getfield 11, 3) := by decide +kernel
theorem dX6_start_4 : decode cX6_start 4 = .ok (.iconst 0, 1) := by decide +kernel
theorem dX6_start_5 : decode cX6_start 5 = .ok (.aaload, 1) := by decide +kernel
theorem dX6_start_6 : decode cX6_start 6 = .ok (.aload_n 0, 1) := by decide +kernel
theorem dX6_start_7 : decode cX6_start 7 = .ok (.getfield 26, 3) := by decide +kernel
theorem dX6_start_10 : decode cX6_start 10 = .ok (.getfield 31, 3) := by decide +kernel
theorem dX6_start_13 : decode cX6_start 13 = .ok (.invokevirtual 37, 3) := by decide +kernel
theorem dX6_start_16 : decode cX6_start 16 = .ok (.return_, 1) := by decide +kernel
theorem dX6_isLast_0 : decode cX6_isLast 0 = .ok (.iload_n 1, 1) := by decide +kernel
theorem dX6_isLast_1 : decode cX6_isLast 1 = .ok (.iload_n 2, 1) := by decide +kernel
theorem dX6_isLast_2 : decode cX6_isLast 2 = .ok (.if_icmp .ge 24, 3) := by decide +kernel
theorem dX6_isLast_5 : decode cX6_isLast 5 = .ok (.iload_n 1, 1) := by decide +kernel
theorem dX6_isLast_6 : decode cX6_isLast 6 = .ok (.iconst 4, 1) := by decide +kernel
theorem dX6_isLast_7 : decode cX6_isLast 7 = .ok (.if_icmp .ge 19, 3) := by decide +kernel
theorem dX6_isLast_10 : decode cX6_isLast 10 = .ok (.aload_n 0, 1) := by decide +kernel
theorem dX6_isLast_11 : decode cX6_isLast 11 = .ok (.getfield 26, 3) := by decide +kernel
theorem dX6_isLast_14 : decode cX6_isLast 14 = .ok (.aload_n 0, 1) := by decide +kernel
theorem dX6_isLast_15 : decode cX6_isLast 15 = .ok (.getfield 11, 3) := by decide +kernel
theorem dX6_isLast_18 : decode cX6_isLast 18 = .ok (.iload_n 1, 1) := by decide +kernel
theorem dX6_isLast_19 : decode cX6_isLast 19 = .ok (.aaload, 1) := by decide +kernel
theorem dX6_isLast_20 : decode cX6_isLast 20 = .ok (.invokevirtual 41, 3) := by decide +kernel
theorem dX6_isLast_23 : decode cX6_isLast 23 = .ok (.ifCond .eq 7, 3) := by decide +kernel
theorem dX6_isLast_26 : decode cX6_isLast 26 = .ok (.iconst 1, 1) := by decide +kernel
theorem dX6_isLast_27 : decode cX6_isLast 27 = .ok (.goto 4, 3) := by decide +kernel
theorem dX6_isLast_30 : decode cX6_isLast 30 = .ok (.iconst 0, 1) := by decide +kernel
theorem dX6_isLast_31 : decode cX6_isLast 31 = .ok (.ireturn, 1) := by decide +kernel
theorem dX6_goDeeper_0 : decode cX6_goDeeper 0 = .ok (.aload_n 0, 1) := by decide +kernel
theorem dX6_goDeeper_1 : decode cX6_goDeeper 1 = .ok (.getfield 11, 3) := by decide +kernel
theorem dX6_goDeeper_4 : decode cX6_goDeeper 4 = .ok (.iload_n 1, 1) := by decide +kernel
theorem dX6_goDeeper_5 : decode cX6_goDeeper 5 = .ok (.iconst 1, 1) := by decide +kernel
theorem dX6_goDeeper_6 : decode cX6_goDeeper 6 = .ok (.iadd, 1) := by decide +kernel
theorem dX6_goDeeper_7 : decode cX6_goDeeper 7 = .ok (.aaload, 1) := by decide +kernel
theorem dX6_goDeeper_8 : decode cX6_goDeeper 8 = .ok (.astore_n 3, 1) := by decide +kernel
theorem dX6_goDeeper_9 : decode cX6_goDeeper 9 = .ok (.aload_n 3, 1) := by decide +kernel
theorem dX6_goDeeper_10 : decode cX6_goDeeper 10 = .ok (.aload_n 0, 1) := by decide +kernel
theorem dX6_goDeeper_11 : decode cX6_goDeeper 11 = .ok (.getfield 11, 3) := by decide +kernel
theorem dX6_goDeeper_14 : decode cX6_goDeeper 14 = .ok (.iload_n 1, 1) := by decide +kernel
theorem dX6_goDeeper_15 : decode cX6_goDeeper 15 = .ok (.aaload, 1) := by decide +kernel
theorem dX6_goDeeper_16 : decode cX6_goDeeper 16 = .ok (.invokevirtual 37, 3) := by decide +kernel
theorem dX6_goDeeper_19 : decode cX6_goDeeper 19 = .ok (.aload_n 0, 1) := by decide +kernel
theorem dX6_goDeeper_20 : decode cX6_goDeeper 20 = .ok (.getfield 26, 3) := by decide +kernel
theorem dX6_goDeeper_23 : decode cX6_goDeeper 23 = .ok (.aload_n 3, 1) := by decide +kernel
theorem dX6_goDeeper_24 : decode cX6_goDeeper 24 = .ok (.iload_n 2, 1) := by decide +kernel
theorem dX6_goDeeper_25 : decode cX6_goDeeper 25 = .ok (.invokevirtual 45, 3) := by decide +kernel
theorem dX6_goDeeper_28 : decode cX6_goDeeper 28 = .ok (.ireturn, 1) := by decide +kernel
theorem dX6_bestFrom_0 : decode cX6_bestFrom 0 = .ok (.aload_n 0, 1) := by decide +kernel
theorem dX6_bestFrom_1 : decode cX6_bestFrom 1 = .ok (.iload_n 1, 1) := by decide +kernel
theorem dX6_bestFrom_2 : decode cX6_bestFrom 2 = .ok (.iload_n 2, 1) := by decide +kernel
theorem dX6_bestFrom_3 : decode cX6_bestFrom 3 = .ok (.invokevirtual 49, 3) := by decide +kernel
theorem dX6_bestFrom_6 : decode cX6_bestFrom 6 = .ok (.ifCond .eq 12, 3) := by decide +kernel
theorem dX6_bestFrom_9 : decode cX6_bestFrom 9 = .ok (.aload_n 0, 1) := by decide +kernel
theorem dX6_bestFrom_10 : decode cX6_bestFrom 10 = .ok (.getfield 22, 3) := by decide +kernel
theorem dX6_bestFrom_13 : decode cX6_bestFrom 13 = .ok (.iload_n 1, 1) := by decide +kernel
theorem dX6_bestFrom_14 : decode cX6_bestFrom 14 = .ok (.iconst 1, 1) := by decide +kernel
theorem dX6_bestFrom_15 : decode cX6_bestFrom 15 = .ok (.iastore, 1) := by decide +kernel
theorem dX6_bestFrom_16 : decode cX6_bestFrom 16 = .ok (.iconst 0, 1) := by decide +kernel
theorem dX6_bestFrom_17 : decode cX6_bestFrom 17 = .ok (.ireturn, 1) := by decide +kernel
theorem dX6_bestFrom_18 : decode cX6_bestFrom 18 = .ok (.aload_n 0, 1) := by decide +kernel
theorem dX6_bestFrom_19 : decode cX6_bestFrom 19 = .ok (.iload_n 1, 1) := by decide +kernel
theorem dX6_bestFrom_20 : decode cX6_bestFrom 20 = .ok (.iconst 0, 1) := by decide +kernel
theorem dX6_bestFrom_21 : decode cX6_bestFrom 21 = .ok (.invokevirtual 53, 3) := by decide +kernel
theorem dX6_bestFrom_24 : decode cX6_bestFrom 24 = .ok (.aload_n 0, 1) := by decide +kernel
theorem dX6_bestFrom_25 : decode cX6_bestFrom 25 = .ok (.iload_n 1, 1) := by decide +kernel
theorem dX6_bestFrom_26 : decode cX6_bestFrom 26 = .ok (.iconst 1, 1) := by decide +kernel
theorem dX6_bestFrom_27 : decode cX6_bestFrom 27 = .ok (.iadd, 1) := by decide +kernel
theorem dX6_bestFrom_28 : decode cX6_bestFrom 28 = .ok (.iload_n 2, 1) := by decide +kernel
theorem dX6_bestFrom_29 : decode cX6_bestFrom 29 = .ok (.invokevirtual 57, 3) := by decide +kernel
theorem dX6_bestFrom_32 : decode cX6_bestFrom 32 = .ok (.iadd, 1) := by decide +kernel
theorem dX6_bestFrom_33 : decode cX6_bestFrom 33 = .ok (.istore_n 3, 1) := by decide +kernel
theorem dX6_bestFrom_34 : decode cX6_bestFrom 34 = .ok (.aload_n 0, 1) := by decide +kernel
theorem dX6_bestFrom_35 : decode cX6_bestFrom 35 = .ok (.getfield 22, 3) := by decide +kernel
theorem dX6_bestFrom_38 : decode cX6_bestFrom 38 = .ok (.iload_n 1, 1) := by decide +kernel
theorem dX6_bestFrom_39 : decode cX6_bestFrom 39 = .ok (.iconst 1, 1) := by decide +kernel
theorem dX6_bestFrom_40 : decode cX6_bestFrom 40 = .ok (.iadd, 1) := by decide +kernel
theorem dX6_bestFrom_41 : decode cX6_bestFrom 41 = .ok (.iaload, 1) := by decide +kernel
theorem dX6_bestFrom_42 : decode cX6_bestFrom 42 = .ok (.istore 4, 2) := by decide +kernel
theorem dX6_bestFrom_44 : decode cX6_bestFrom 44 = .ok (.iload_n 3, 1) := by decide +kernel
theorem dX6_bestFrom_45 : decode cX6_bestFrom 45 = .ok (.istore 5, 2) := by decide +kernel
theorem dX6_bestFrom_47 : decode cX6_bestFrom 47 = .ok (.iload 4, 2) := by decide +kernel
theorem dX6_bestFrom_49 : decode cX6_bestFrom 49 = .ok (.istore 6, 2) := by decide +kernel
theorem dX6_bestFrom_51 : decode cX6_bestFrom 51 = .ok (.aload_n 0, 1) := by decide +kernel
theorem dX6_bestFrom_52 : decode cX6_bestFrom 52 = .ok (.iload_n 1, 1) := by decide +kernel
theorem dX6_bestFrom_53 : decode cX6_bestFrom 53 = .ok (.iconst 0, 1) := by decide +kernel
theorem dX6_bestFrom_54 : decode cX6_bestFrom 54 = .ok (.invokevirtual 60, 3) := by decide +kernel
theorem dX6_bestFrom_57 : decode cX6_bestFrom 57 = .ok (.iconst 0, 1) := by decide +kernel
theorem dX6_bestFrom_58 : decode cX6_bestFrom 58 = .ok (.istore 7, 2) := by decide +kernel
theorem dX6_bestFrom_60 : decode cX6_bestFrom 60 = .ok (.iconst 1, 1) := by decide +kernel
theorem dX6_bestFrom_61 : decode cX6_bestFrom 61 = .ok (.istore 8, 2) := by decide +kernel
theorem dX6_bestFrom_63 : decode cX6_bestFrom 63 = .ok (.iload 8, 2) := by decide +kernel
theorem dX6_bestFrom_65 : decode cX6_bestFrom 65 = .ok (.aload_n 0, 1) := by decide +kernel
theorem dX6_bestFrom_66 : decode cX6_bestFrom 66 = .ok (.getfield 26, 3) := by decide +kernel
theorem dX6_bestFrom_69 : decode cX6_bestFrom 69 = .ok (.getfield 64, 3) := by decide +kernel
theorem dX6_bestFrom_72 : decode cX6_bestFrom 72 = .ok (.if_icmp .gt 104, 3) := by decide +kernel
theorem dX6_bestFrom_75 : decode cX6_bestFrom 75 = .ok (.aload_n 0, 1) := by decide +kernel
theorem dX6_bestFrom_76 : decode cX6_bestFrom 76 = .ok (.getfield 26, 3) := by decide +kernel
theorem dX6_bestFrom_79 : decode cX6_bestFrom 79 = .ok (.aload_n 0, 1) := by decide +kernel
theorem dX6_bestFrom_80 : decode cX6_bestFrom 80 = .ok (.getfield 11, 3) := by decide +kernel
theorem dX6_bestFrom_83 : decode cX6_bestFrom 83 = .ok (.iload_n 1, 1) := by decide +kernel
theorem dX6_bestFrom_84 : decode cX6_bestFrom 84 = .ok (.aaload, 1) := by decide +kernel
theorem dX6_bestFrom_85 : decode cX6_bestFrom 85 = .ok (.iload 8, 2) := by decide +kernel
theorem dX6_bestFrom_87 : decode cX6_bestFrom 87 = .ok (.iconst 1, 1) := by decide +kernel
theorem dX6_bestFrom_88 : decode cX6_bestFrom 88 = .ok (.isub, 1) := by decide +kernel
theorem dX6_bestFrom_89 : decode cX6_bestFrom 89 = .ok (.invokevirtual 68, 3) := by decide +kernel
theorem dX6_bestFrom_92 : decode cX6_bestFrom 92 = .ok (.ifCond .eq 9, 3) := by decide +kernel
theorem dX6_bestFrom_95 : decode cX6_bestFrom 95 = .ok (.iinc 7 1, 3) := by decide +kernel
theorem dX6_bestFrom_98 : decode cX6_bestFrom 98 = .ok (.goto 72, 3) := by decide +kernel
theorem dX6_bestFrom_101 : decode cX6_bestFrom 101 = .ok (.aload_n 0, 1) := by decide +kernel
theorem dX6_bestFrom_102 : decode cX6_bestFrom 102 = .ok (.iload_n 1, 1) := by decide +kernel
theorem dX6_bestFrom_103 : decode cX6_bestFrom 103 = .ok (.iload 8, 2) := by decide +kernel
theorem dX6_bestFrom_105 : decode cX6_bestFrom 105 = .ok (.invokevirtual 53, 3) := by decide +kernel
theorem dX6_bestFrom_108 : decode cX6_bestFrom 108 = .ok (.aload_n 0, 1) := by decide +kernel
theorem dX6_bestFrom_109 : decode cX6_bestFrom 109 = .ok (.iload_n 1, 1) := by decide +kernel
theorem dX6_bestFrom_110 : decode cX6_bestFrom 110 = .ok (.iconst 1, 1) := by decide +kernel
theorem dX6_bestFrom_111 : decode cX6_bestFrom 111 = .ok (.iadd, 1) := by decide +kernel
theorem dX6_bestFrom_112 : decode cX6_bestFrom 112 = .ok (.iload_n 2, 1) := by decide +kernel
theorem dX6_bestFrom_113 : decode cX6_bestFrom 113 = .ok (.invokevirtual 57, 3) := by decide +kernel
theorem dX6_bestFrom_116 : decode cX6_bestFrom 116 = .ok (.iadd, 1) := by decide +kernel
theorem dX6_bestFrom_117 : decode cX6_bestFrom 117 = .ok (.istore 9, 2) := by decide +kernel
theorem dX6_bestFrom_119 : decode cX6_bestFrom 119 = .ok (.iload 9, 2) := by decide +kernel
theorem dX6_bestFrom_121 : decode cX6_bestFrom 121 = .ok (.iload 5, 2) := by decide +kernel
theorem dX6_bestFrom_123 : decode cX6_bestFrom 123 = .ok (.if_icmp .le 27, 3) := by decide +kernel
theorem dX6_bestFrom_126 : decode cX6_bestFrom 126 = .ok (.iload 9, 2) := by decide +kernel
theorem dX6_bestFrom_128 : decode cX6_bestFrom 128 = .ok (.istore 5, 2) := by decide +kernel
theorem dX6_bestFrom_130 : decode cX6_bestFrom 130 = .ok (.aload_n 0, 1) := by decide +kernel
theorem dX6_bestFrom_131 : decode cX6_bestFrom 131 = .ok (.getfield 22, 3) := by decide +kernel
theorem dX6_bestFrom_134 : decode cX6_bestFrom 134 = .ok (.iload_n 1, 1) := by decide +kernel
theorem dX6_bestFrom_135 : decode cX6_bestFrom 135 = .ok (.iconst 1, 1) := by decide +kernel
theorem dX6_bestFrom_136 : decode cX6_bestFrom 136 = .ok (.iadd, 1) := by decide +kernel
theorem dX6_bestFrom_137 : decode cX6_bestFrom 137 = .ok (.iaload, 1) := by decide +kernel
theorem dX6_bestFrom_138 : decode cX6_bestFrom 138 = .ok (.istore 6, 2) := by decide +kernel
theorem dX6_bestFrom_140 : decode cX6_bestFrom 140 = .ok (.aload_n 0, 1) := by decide +kernel
theorem dX6_bestFrom_141 : decode cX6_bestFrom 141 = .ok (.iload_n 1, 1) := by decide +kernel
theorem dX6_bestFrom_142 : decode cX6_bestFrom 142 = .ok (.iload 8, 2) := by decide +kernel
theorem dX6_bestFrom_144 : decode cX6_bestFrom 144 = .ok (.invokevirtual 60, 3) := by decide +kernel
theorem dX6_bestFrom_147 : decode cX6_bestFrom 147 = .ok (.goto 23, 3) := by decide +kernel
theorem dX6_bestFrom_150 : decode cX6_bestFrom 150 = .ok (.iload 9, 2) := by decide +kernel
theorem dX6_bestFrom_152 : decode cX6_bestFrom 152 = .ok (.iload 5, 2) := by decide +kernel
theorem dX6_bestFrom_154 : decode cX6_bestFrom 154 = .ok (.if_icmp .ne 16, 3) := by decide +kernel
theorem dX6_bestFrom_157 : decode cX6_bestFrom 157 = .ok (.iload 6, 2) := by decide +kernel
theorem dX6_bestFrom_159 : decode cX6_bestFrom 159 = .ok (.aload_n 0, 1) := by decide +kernel
theorem dX6_bestFrom_160 : decode cX6_bestFrom 160 = .ok (.getfield 22, 3) := by decide +kernel
theorem dX6_bestFrom_163 : decode cX6_bestFrom 163 = .ok (.iload_n 1, 1) := by decide +kernel
theorem dX6_bestFrom_164 : decode cX6_bestFrom 164 = .ok (.iconst 1, 1) := by decide +kernel
theorem dX6_bestFrom_165 : decode cX6_bestFrom 165 = .ok (.iadd, 1) := by decide +kernel
theorem dX6_bestFrom_166 : decode cX6_bestFrom 166 = .ok (.iaload, 1) := by decide +kernel
theorem dX6_bestFrom_167 : decode cX6_bestFrom 167 = .ok (.iadd, 1) := by decide +kernel
theorem dX6_bestFrom_168 : decode cX6_bestFrom 168 = .ok (.istore 6, 2) := by decide +kernel
theorem dX6_bestFrom_170 : decode cX6_bestFrom 170 = .ok (.iinc 8 1, 3) := by decide +kernel
theorem dX6_bestFrom_173 : decode cX6_bestFrom 173 = .ok (.goto (-110), 3) := by decide +kernel
theorem dX6_bestFrom_176 : decode cX6_bestFrom 176 = .ok (.iload_n 3, 1) := by decide +kernel
theorem dX6_bestFrom_177 : decode cX6_bestFrom 177 = .ok (.iload 5, 2) := by decide +kernel
theorem dX6_bestFrom_179 : decode cX6_bestFrom 179 = .ok (.if_icmp .ne 13, 3) := by decide +kernel
theorem dX6_bestFrom_182 : decode cX6_bestFrom 182 = .ok (.iload 6, 2) := by decide +kernel
theorem dX6_bestFrom_184 : decode cX6_bestFrom 184 = .ok (.iload 7, 2) := by decide +kernel
theorem dX6_bestFrom_186 : decode cX6_bestFrom 186 = .ok (.iload 4, 2) := by decide +kernel
theorem dX6_bestFrom_188 : decode cX6_bestFrom 188 = .ok (.imul, 1) := by decide +kernel
theorem dX6_bestFrom_189 : decode cX6_bestFrom 189 = .ok (.iadd, 1) := by decide +kernel
theorem dX6_bestFrom_190 : decode cX6_bestFrom 190 = .ok (.istore 6, 2) := by decide +kernel
theorem dX6_bestFrom_192 : decode cX6_bestFrom 192 = .ok (.aload_n 0, 1) := by decide +kernel
theorem dX6_bestFrom_193 : decode cX6_bestFrom 193 = .ok (.getfield 22, 3) := by decide +kernel
theorem dX6_bestFrom_196 : decode cX6_bestFrom 196 = .ok (.iload_n 1, 1) := by decide +kernel
theorem dX6_bestFrom_197 : decode cX6_bestFrom 197 = .ok (.iload 6, 2) := by decide +kernel
theorem dX6_bestFrom_199 : decode cX6_bestFrom 199 = .ok (.iastore, 1) := by decide +kernel
theorem dX6_bestFrom_200 : decode cX6_bestFrom 200 = .ok (.iload 5, 2) := by decide +kernel
theorem dX6_bestFrom_202 : decode cX6_bestFrom 202 = .ok (.ireturn, 1) := by decide +kernel
theorem dX6_noteFirst_0 : decode cX6_noteFirst 0 = .ok (.aload_n 0, 1) := by decide +kernel
theorem dX6_noteFirst_1 : decode cX6_noteFirst 1 = .ok (.getfield 19, 3) := by decide +kernel
theorem dX6_noteFirst_4 : decode cX6_noteFirst 4 = .ok (.iload_n 1, 1) := by decide +kernel
theorem dX6_noteFirst_5 : decode cX6_noteFirst 5 = .ok (.aaload, 1) := by decide +kernel
theorem dX6_noteFirst_6 : decode cX6_noteFirst 6 = .ok (.iload_n 1, 1) := by decide +kernel
theorem dX6_noteFirst_7 : decode cX6_noteFirst 7 = .ok (.iload_n 2, 1) := by decide +kernel
theorem dX6_noteFirst_8 : decode cX6_noteFirst 8 = .ok (.iastore, 1) := by decide +kernel
theorem dX6_noteFirst_9 : decode cX6_noteFirst 9 = .ok (.iload_n 1, 1) := by decide +kernel
theorem dX6_noteFirst_10 : decode cX6_noteFirst 10 = .ok (.iconst 1, 1) := by decide +kernel
theorem dX6_noteFirst_11 : decode cX6_noteFirst 11 = .ok (.iadd, 1) := by decide +kernel
theorem dX6_noteFirst_12 : decode cX6_noteFirst 12 = .ok (.istore_n 3, 1) := by decide +kernel
theorem dX6_noteFirst_13 : decode cX6_noteFirst 13 = .ok (.iload_n 3, 1) := by decide +kernel
theorem dX6_noteFirst_14 : decode cX6_noteFirst 14 = .ok (.iconst 4, 1) := by decide +kernel
theorem dX6_noteFirst_15 : decode cX6_noteFirst 15 = .ok (.if_icmp .ge 27, 3) := by decide +kernel
theorem dX6_noteFirst_18 : decode cX6_noteFirst 18 = .ok (.aload_n 0, 1) := by decide +kernel
theorem dX6_noteFirst_19 : decode cX6_noteFirst 19 = .ok (.getfield 19, 3) := by decide +kernel
theorem dX6_noteFirst_22 : decode cX6_noteFirst 22 = .ok (.iload_n 1, 1) := by decide +kernel
theorem dX6_noteFirst_23 : decode cX6_noteFirst 23 = .ok (.aaload, 1) := by decide +kernel
theorem dX6_noteFirst_24 : decode cX6_noteFirst 24 = .ok (.iload_n 3, 1) := by decide +kernel
theorem dX6_noteFirst_25 : decode cX6_noteFirst 25 = .ok (.aload_n 0, 1) := by decide +kernel
theorem dX6_noteFirst_26 : decode cX6_noteFirst 26 = .ok (.getfield 19, 3) := by decide +kernel
theorem dX6_noteFirst_29 : decode cX6_noteFirst 29 = .ok (.iload_n 1, 1) := by decide +kernel
theorem dX6_noteFirst_30 : decode cX6_noteFirst 30 = .ok (.iconst 1, 1) := by decide +kernel
theorem dX6_noteFirst_31 : decode cX6_noteFirst 31 = .ok (.iadd, 1) := by decide +kernel
theorem dX6_noteFirst_32 : decode cX6_noteFirst 32 = .ok (.aaload, 1) := by decide +kernel
theorem dX6_noteFirst_33 : decode cX6_noteFirst 33 = .ok (.iload_n 3, 1) := by decide +kernel
theorem dX6_noteFirst_34 : decode cX6_noteFirst 34 = .ok (.iaload, 1) := by decide +kernel
theorem dX6_noteFirst_35 : decode cX6_noteFirst 35 = .ok (.iastore, 1) := by decide +kernel
theorem dX6_noteFirst_36 : decode cX6_noteFirst 36 = .ok (.iinc 3 1, 3) := by decide +kernel
theorem dX6_noteFirst_39 : decode cX6_noteFirst 39 = .ok (.goto (-26), 3) := by decide +kernel
theorem dX6_noteFirst_42 : decode cX6_noteFirst 42 = .ok (.return_, 1) := by decide +kernel
theorem dX6_fewestFrom_0 : decode cX6_fewestFrom 0 = .ok (.aload_n 0, 1) := by decide +kernel
theorem dX6_fewestFrom_1 : decode cX6_fewestFrom 1 = .ok (.getfield 11, 3) := by decide +kernel
theorem dX6_fewestFrom_4 : decode cX6_fewestFrom 4 = .ok (.iload_n 1, 1) := by decide +kernel
theorem dX6_fewestFrom_5 : decode cX6_fewestFrom 5 = .ok (.aaload, 1) := by decide +kernel
theorem dX6_fewestFrom_6 : decode cX6_fewestFrom 6 = .ok (.getfield 72, 3) := by decide +kernel
theorem dX6_fewestFrom_9 : decode cX6_fewestFrom 9 = .ok (.iload_n 3, 1) := by decide +kernel
theorem dX6_fewestFrom_10 : decode cX6_fewestFrom 10 = .ok (.iand, 1) := by decide +kernel
theorem dX6_fewestFrom_11 : decode cX6_fewestFrom 11 = .ok (.iload_n 3, 1) := by decide +kernel
theorem dX6_fewestFrom_12 : decode cX6_fewestFrom 12 = .ok (.if_icmp .ne 5, 3) := by decide +kernel
theorem dX6_fewestFrom_15 : decode cX6_fewestFrom 15 = .ok (.iconst 0, 1) := by decide +kernel
theorem dX6_fewestFrom_16 : decode cX6_fewestFrom 16 = .ok (.ireturn, 1) := by decide +kernel
theorem dX6_fewestFrom_17 : decode cX6_fewestFrom 17 = .ok (.aload_n 0, 1) := by decide +kernel
theorem dX6_fewestFrom_18 : decode cX6_fewestFrom 18 = .ok (.iload_n 1, 1) := by decide +kernel
theorem dX6_fewestFrom_19 : decode cX6_fewestFrom 19 = .ok (.iload_n 2, 1) := by decide +kernel
theorem dX6_fewestFrom_20 : decode cX6_fewestFrom 20 = .ok (.invokevirtual 49, 3) := by decide +kernel
theorem dX6_fewestFrom_23 : decode cX6_fewestFrom 23 = .ok (.ifCond .eq 6, 3) := by decide +kernel
theorem dX6_fewestFrom_26 : decode cX6_fewestFrom 26 = .ok (.bipush 99, 2) := by decide +kernel
theorem dX6_fewestFrom_28 : decode cX6_fewestFrom 28 = .ok (.ireturn, 1) := by decide +kernel
theorem dX6_fewestFrom_29 : decode cX6_fewestFrom 29 = .ok (.aload_n 0, 1) := by decide +kernel
theorem dX6_fewestFrom_30 : decode cX6_fewestFrom 30 = .ok (.iload_n 1, 1) := by decide +kernel
theorem dX6_fewestFrom_31 : decode cX6_fewestFrom 31 = .ok (.iconst 0, 1) := by decide +kernel
theorem dX6_fewestFrom_32 : decode cX6_fewestFrom 32 = .ok (.invokevirtual 53, 3) := by decide +kernel
theorem dX6_fewestFrom_35 : decode cX6_fewestFrom 35 = .ok (.pop, 1) := by decide +kernel
theorem dX6_fewestFrom_36 : decode cX6_fewestFrom 36 = .ok (.aload_n 0, 1) := by decide +kernel
theorem dX6_fewestFrom_37 : decode cX6_fewestFrom 37 = .ok (.iload_n 1, 1) := by decide +kernel
theorem dX6_fewestFrom_38 : decode cX6_fewestFrom 38 = .ok (.iconst 1, 1) := by decide +kernel
theorem dX6_fewestFrom_39 : decode cX6_fewestFrom 39 = .ok (.iadd, 1) := by decide +kernel
theorem dX6_fewestFrom_40 : decode cX6_fewestFrom 40 = .ok (.iload_n 2, 1) := by decide +kernel
theorem dX6_fewestFrom_41 : decode cX6_fewestFrom 41 = .ok (.iload_n 3, 1) := by decide +kernel
theorem dX6_fewestFrom_42 : decode cX6_fewestFrom 42 = .ok (.invokevirtual 75, 3) := by decide +kernel
theorem dX6_fewestFrom_45 : decode cX6_fewestFrom 45 = .ok (.istore 4, 2) := by decide +kernel
theorem dX6_fewestFrom_47 : decode cX6_fewestFrom 47 = .ok (.iconst 1, 1) := by decide +kernel
theorem dX6_fewestFrom_48 : decode cX6_fewestFrom 48 = .ok (.istore 5, 2) := by decide +kernel
theorem dX6_fewestFrom_50 : decode cX6_fewestFrom 50 = .ok (.iload 5, 2) := by decide +kernel
theorem dX6_fewestFrom_52 : decode cX6_fewestFrom 52 = .ok (.aload_n 0, 1) := by decide +kernel
theorem dX6_fewestFrom_53 : decode cX6_fewestFrom 53 = .ok (.getfield 26, 3) := by decide +kernel
theorem dX6_fewestFrom_56 : decode cX6_fewestFrom 56 = .ok (.getfield 64, 3) := by decide +kernel
theorem dX6_fewestFrom_59 : decode cX6_fewestFrom 59 = .ok (.if_icmp .gt 63, 3) := by decide +kernel
theorem dX6_fewestFrom_62 : decode cX6_fewestFrom 62 = .ok (.iload 4, 2) := by decide +kernel
theorem dX6_fewestFrom_64 : decode cX6_fewestFrom 64 = .ok (.ifCond .le 58, 3) := by decide +kernel
theorem dX6_fewestFrom_67 : decode cX6_fewestFrom 67 = .ok (.aload_n 0, 1) := by decide +kernel
theorem dX6_fewestFrom_68 : decode cX6_fewestFrom 68 = .ok (.getfield 26, 3) := by decide +kernel
theorem dX6_fewestFrom_71 : decode cX6_fewestFrom 71 = .ok (.aload_n 0, 1) := by decide +kernel
theorem dX6_fewestFrom_72 : decode cX6_fewestFrom 72 = .ok (.getfield 11, 3) := by decide +kernel
theorem dX6_fewestFrom_75 : decode cX6_fewestFrom 75 = .ok (.iload_n 1, 1) := by decide +kernel
theorem dX6_fewestFrom_76 : decode cX6_fewestFrom 76 = .ok (.aaload, 1) := by decide +kernel
theorem dX6_fewestFrom_77 : decode cX6_fewestFrom 77 = .ok (.iload 5, 2) := by decide +kernel
theorem dX6_fewestFrom_79 : decode cX6_fewestFrom 79 = .ok (.iconst 1, 1) := by decide +kernel
theorem dX6_fewestFrom_80 : decode cX6_fewestFrom 80 = .ok (.isub, 1) := by decide +kernel
theorem dX6_fewestFrom_81 : decode cX6_fewestFrom 81 = .ok (.invokevirtual 68, 3) := by decide +kernel
theorem dX6_fewestFrom_84 : decode cX6_fewestFrom 84 = .ok (.ifCond .eq 6, 3) := by decide +kernel
theorem dX6_fewestFrom_87 : decode cX6_fewestFrom 87 = .ok (.goto 29, 3) := by decide +kernel
theorem dX6_fewestFrom_90 : decode cX6_fewestFrom 90 = .ok (.aload_n 0, 1) := by decide +kernel
theorem dX6_fewestFrom_91 : decode cX6_fewestFrom 91 = .ok (.iload_n 1, 1) := by decide +kernel
theorem dX6_fewestFrom_92 : decode cX6_fewestFrom 92 = .ok (.iload 5, 2) := by decide +kernel
theorem dX6_fewestFrom_94 : decode cX6_fewestFrom 94 = .ok (.invokevirtual 53, 3) := by decide +kernel
theorem dX6_fewestFrom_97 : decode cX6_fewestFrom 97 = .ok (.pop, 1) := by decide +kernel
theorem dX6_fewestFrom_98 : decode cX6_fewestFrom 98 = .ok (.iload 4, 2) := by decide +kernel
theorem dX6_fewestFrom_100 : decode cX6_fewestFrom 100 = .ok (.iconst 1, 1) := by decide +kernel
theorem dX6_fewestFrom_101 : decode cX6_fewestFrom 101 = .ok (.aload_n 0, 1) := by decide +kernel
theorem dX6_fewestFrom_102 : decode cX6_fewestFrom 102 = .ok (.iload_n 1, 1) := by decide +kernel
theorem dX6_fewestFrom_103 : decode cX6_fewestFrom 103 = .ok (.iconst 1, 1) := by decide +kernel
theorem dX6_fewestFrom_104 : decode cX6_fewestFrom 104 = .ok (.iadd, 1) := by decide +kernel
theorem dX6_fewestFrom_105 : decode cX6_fewestFrom 105 = .ok (.iload_n 2, 1) := by decide +kernel
theorem dX6_fewestFrom_106 : decode cX6_fewestFrom 106 = .ok (.iload_n 3, 1) := by decide +kernel
theorem dX6_fewestFrom_107 : decode cX6_fewestFrom 107 = .ok (.invokevirtual 75, 3) := by decide +kernel
theorem dX6_fewestFrom_110 : decode cX6_fewestFrom 110 = .ok (.iadd, 1) := by decide +kernel
theorem dX6_fewestFrom_111 : decode cX6_fewestFrom 111 = .ok (.invokestatic 79, 3) := by decide +kernel
theorem dX6_fewestFrom_114 : decode cX6_fewestFrom 114 = .ok (.istore 4, 2) := by decide +kernel
theorem dX6_fewestFrom_116 : decode cX6_fewestFrom 116 = .ok (.iinc 5 1, 3) := by decide +kernel
theorem dX6_fewestFrom_119 : decode cX6_fewestFrom 119 = .ok (.goto (-69), 3) := by decide +kernel
theorem dX6_fewestFrom_122 : decode cX6_fewestFrom 122 = .ok (.iload 4, 2) := by decide +kernel
theorem dX6_fewestFrom_124 : decode cX6_fewestFrom 124 = .ok (.bipush 99, 2) := by decide +kernel
theorem dX6_fewestFrom_126 : decode cX6_fewestFrom 126 = .ok (.invokestatic 79, 3) := by decide +kernel
theorem dX6_fewestFrom_129 : decode cX6_fewestFrom 129 = .ok (.ireturn, 1) := by decide +kernel
theorem dX6_reachFrom_0 : decode cX6_reachFrom 0 = .ok (.aload_n 0, 1) := by decide +kernel
theorem dX6_reachFrom_1 : decode cX6_reachFrom 1 = .ok (.getfield 11, 3) := by decide +kernel
theorem dX6_reachFrom_4 : decode cX6_reachFrom 4 = .ok (.iload_n 1, 1) := by decide +kernel
theorem dX6_reachFrom_5 : decode cX6_reachFrom 5 = .ok (.aaload, 1) := by decide +kernel
theorem dX6_reachFrom_6 : decode cX6_reachFrom 6 = .ok (.getfield 72, 3) := by decide +kernel
theorem dX6_reachFrom_9 : decode cX6_reachFrom 9 = .ok (.istore_n 3, 1) := by decide +kernel
theorem dX6_reachFrom_10 : decode cX6_reachFrom 10 = .ok (.aload_n 0, 1) := by decide +kernel
theorem dX6_reachFrom_11 : decode cX6_reachFrom 11 = .ok (.iload_n 1, 1) := by decide +kernel
theorem dX6_reachFrom_12 : decode cX6_reachFrom 12 = .ok (.iload_n 2, 1) := by decide +kernel
theorem dX6_reachFrom_13 : decode cX6_reachFrom 13 = .ok (.invokevirtual 49, 3) := by decide +kernel
theorem dX6_reachFrom_16 : decode cX6_reachFrom 16 = .ok (.ifCond .eq 5, 3) := by decide +kernel
theorem dX6_reachFrom_19 : decode cX6_reachFrom 19 = .ok (.iload_n 3, 1) := by decide +kernel
theorem dX6_reachFrom_20 : decode cX6_reachFrom 20 = .ok (.ireturn, 1) := by decide +kernel
theorem dX6_reachFrom_21 : decode cX6_reachFrom 21 = .ok (.aload_n 0, 1) := by decide +kernel
theorem dX6_reachFrom_22 : decode cX6_reachFrom 22 = .ok (.iload_n 1, 1) := by decide +kernel
theorem dX6_reachFrom_23 : decode cX6_reachFrom 23 = .ok (.iconst 0, 1) := by decide +kernel
theorem dX6_reachFrom_24 : decode cX6_reachFrom 24 = .ok (.invokevirtual 53, 3) := by decide +kernel
theorem dX6_reachFrom_27 : decode cX6_reachFrom 27 = .ok (.pop, 1) := by decide +kernel
theorem dX6_reachFrom_28 : decode cX6_reachFrom 28 = .ok (.iload_n 3, 1) := by decide +kernel
theorem dX6_reachFrom_29 : decode cX6_reachFrom 29 = .ok (.aload_n 0, 1) := by decide +kernel
theorem dX6_reachFrom_30 : decode cX6_reachFrom 30 = .ok (.iload_n 1, 1) := by decide +kernel
theorem dX6_reachFrom_31 : decode cX6_reachFrom 31 = .ok (.iconst 1, 1) := by decide +kernel
theorem dX6_reachFrom_32 : decode cX6_reachFrom 32 = .ok (.iadd, 1) := by decide +kernel
theorem dX6_reachFrom_33 : decode cX6_reachFrom 33 = .ok (.iload_n 2, 1) := by decide +kernel
theorem dX6_reachFrom_34 : decode cX6_reachFrom 34 = .ok (.invokevirtual 84, 3) := by decide +kernel
theorem dX6_reachFrom_37 : decode cX6_reachFrom 37 = .ok (.ior, 1) := by decide +kernel
theorem dX6_reachFrom_38 : decode cX6_reachFrom 38 = .ok (.istore_n 3, 1) := by decide +kernel
theorem dX6_reachFrom_39 : decode cX6_reachFrom 39 = .ok (.iconst 1, 1) := by decide +kernel
theorem dX6_reachFrom_40 : decode cX6_reachFrom 40 = .ok (.istore 4, 2) := by decide +kernel
theorem dX6_reachFrom_42 : decode cX6_reachFrom 42 = .ok (.iload 4, 2) := by decide +kernel
theorem dX6_reachFrom_44 : decode cX6_reachFrom 44 = .ok (.aload_n 0, 1) := by decide +kernel
theorem dX6_reachFrom_45 : decode cX6_reachFrom 45 = .ok (.getfield 26, 3) := by decide +kernel
theorem dX6_reachFrom_48 : decode cX6_reachFrom 48 = .ok (.getfield 64, 3) := by decide +kernel
theorem dX6_reachFrom_51 : decode cX6_reachFrom 51 = .ok (.if_icmp .gt 51, 3) := by decide +kernel
theorem dX6_reachFrom_54 : decode cX6_reachFrom 54 = .ok (.aload_n 0, 1) := by decide +kernel
theorem dX6_reachFrom_55 : decode cX6_reachFrom 55 = .ok (.getfield 26, 3) := by decide +kernel
theorem dX6_reachFrom_58 : decode cX6_reachFrom 58 = .ok (.aload_n 0, 1) := by decide +kernel
theorem dX6_reachFrom_59 : decode cX6_reachFrom 59 = .ok (.getfield 11, 3) := by decide +kernel
theorem dX6_reachFrom_62 : decode cX6_reachFrom 62 = .ok (.iload_n 1, 1) := by decide +kernel
theorem dX6_reachFrom_63 : decode cX6_reachFrom 63 = .ok (.aaload, 1) := by decide +kernel
theorem dX6_reachFrom_64 : decode cX6_reachFrom 64 = .ok (.iload 4, 2) := by decide +kernel
theorem dX6_reachFrom_66 : decode cX6_reachFrom 66 = .ok (.iconst 1, 1) := by decide +kernel
theorem dX6_reachFrom_67 : decode cX6_reachFrom 67 = .ok (.isub, 1) := by decide +kernel
theorem dX6_reachFrom_68 : decode cX6_reachFrom 68 = .ok (.invokevirtual 68, 3) := by decide +kernel
theorem dX6_reachFrom_71 : decode cX6_reachFrom 71 = .ok (.ifCond .eq 6, 3) := by decide +kernel
theorem dX6_reachFrom_74 : decode cX6_reachFrom 74 = .ok (.goto 22, 3) := by decide +kernel
theorem dX6_reachFrom_77 : decode cX6_reachFrom 77 = .ok (.aload_n 0, 1) := by decide +kernel
theorem dX6_reachFrom_78 : decode cX6_reachFrom 78 = .ok (.iload_n 1, 1) := by decide +kernel
theorem dX6_reachFrom_79 : decode cX6_reachFrom 79 = .ok (.iload 4, 2) := by decide +kernel
theorem dX6_reachFrom_81 : decode cX6_reachFrom 81 = .ok (.invokevirtual 53, 3) := by decide +kernel
theorem dX6_reachFrom_84 : decode cX6_reachFrom 84 = .ok (.pop, 1) := by decide +kernel
theorem dX6_reachFrom_85 : decode cX6_reachFrom 85 = .ok (.iload_n 3, 1) := by decide +kernel
theorem dX6_reachFrom_86 : decode cX6_reachFrom 86 = .ok (.aload_n 0, 1) := by decide +kernel
theorem dX6_reachFrom_87 : decode cX6_reachFrom 87 = .ok (.iload_n 1, 1) := by decide +kernel
theorem dX6_reachFrom_88 : decode cX6_reachFrom 88 = .ok (.iconst 1, 1) := by decide +kernel
theorem dX6_reachFrom_89 : decode cX6_reachFrom 89 = .ok (.iadd, 1) := by decide +kernel
theorem dX6_reachFrom_90 : decode cX6_reachFrom 90 = .ok (.iload_n 2, 1) := by decide +kernel
theorem dX6_reachFrom_91 : decode cX6_reachFrom 91 = .ok (.invokevirtual 84, 3) := by decide +kernel
theorem dX6_reachFrom_94 : decode cX6_reachFrom 94 = .ok (.ior, 1) := by decide +kernel
theorem dX6_reachFrom_95 : decode cX6_reachFrom 95 = .ok (.istore_n 3, 1) := by decide +kernel
theorem dX6_reachFrom_96 : decode cX6_reachFrom 96 = .ok (.iinc 4 1, 3) := by decide +kernel
theorem dX6_reachFrom_99 : decode cX6_reachFrom 99 = .ok (.goto (-57), 3) := by decide +kernel
theorem dX6_reachFrom_102 : decode cX6_reachFrom 102 = .ok (.iload_n 3, 1) := by decide +kernel
theorem dX6_reachFrom_103 : decode cX6_reachFrom 103 = .ok (.ireturn, 1) := by decide +kernel
theorem dX6_gameFrom_0 : decode cX6_gameFrom 0 = .ok (.aload_n 0, 1) := by decide +kernel
theorem dX6_gameFrom_1 : decode cX6_gameFrom 1 = .ok (.iload_n 1, 1) := by decide +kernel
theorem dX6_gameFrom_2 : decode cX6_gameFrom 2 = .ok (.iload_n 2, 1) := by decide +kernel
theorem dX6_gameFrom_3 : decode cX6_gameFrom 3 = .ok (.invokevirtual 49, 3) := by decide +kernel
theorem dX6_gameFrom_6 : decode cX6_gameFrom 6 = .ok (.ifCond .eq 5, 3) := by decide +kernel
theorem dX6_gameFrom_9 : decode cX6_gameFrom 9 = .ok (.iconst 0, 1) := by decide +kernel
theorem dX6_gameFrom_10 : decode cX6_gameFrom 10 = .ok (.ireturn, 1) := by decide +kernel
theorem dX6_gameFrom_11 : decode cX6_gameFrom 11 = .ok (.iload_n 1, 1) := by decide +kernel
theorem dX6_gameFrom_12 : decode cX6_gameFrom 12 = .ok (.iconst 1, 1) := by decide +kernel
theorem dX6_gameFrom_13 : decode cX6_gameFrom 13 = .ok (.iand, 1) := by decide +kernel
theorem dX6_gameFrom_14 : decode cX6_gameFrom 14 = .ok (.ifCond .ne 7, 3) := by decide +kernel
theorem dX6_gameFrom_17 : decode cX6_gameFrom 17 = .ok (.iconst 1, 1) := by decide +kernel
theorem dX6_gameFrom_18 : decode cX6_gameFrom 18 = .ok (.goto 4, 3) := by decide +kernel
theorem dX6_gameFrom_21 : decode cX6_gameFrom 21 = .ok (.iconst 0, 1) := by decide +kernel
theorem dX6_gameFrom_22 : decode cX6_gameFrom 22 = .ok (.istore_n 3, 1) := by decide +kernel
theorem dX6_gameFrom_23 : decode cX6_gameFrom 23 = .ok (.aload_n 0, 1) := by decide +kernel
theorem dX6_gameFrom_24 : decode cX6_gameFrom 24 = .ok (.iload_n 1, 1) := by decide +kernel
theorem dX6_gameFrom_25 : decode cX6_gameFrom 25 = .ok (.iconst 0, 1) := by decide +kernel
theorem dX6_gameFrom_26 : decode cX6_gameFrom 26 = .ok (.invokevirtual 53, 3) := by decide +kernel
theorem dX6_gameFrom_29 : decode cX6_gameFrom 29 = .ok (.aload_n 0, 1) := by decide +kernel
theorem dX6_gameFrom_30 : decode cX6_gameFrom 30 = .ok (.iload_n 1, 1) := by decide +kernel
theorem dX6_gameFrom_31 : decode cX6_gameFrom 31 = .ok (.iconst 1, 1) := by decide +kernel
theorem dX6_gameFrom_32 : decode cX6_gameFrom 32 = .ok (.iadd, 1) := by decide +kernel
theorem dX6_gameFrom_33 : decode cX6_gameFrom 33 = .ok (.iload_n 2, 1) := by decide +kernel
theorem dX6_gameFrom_34 : decode cX6_gameFrom 34 = .ok (.invokevirtual 87, 3) := by decide +kernel
theorem dX6_gameFrom_37 : decode cX6_gameFrom 37 = .ok (.iadd, 1) := by decide +kernel
theorem dX6_gameFrom_38 : decode cX6_gameFrom 38 = .ok (.istore 4, 2) := by decide +kernel
theorem dX6_gameFrom_40 : decode cX6_gameFrom 40 = .ok (.iconst 0, 1) := by decide +kernel
theorem dX6_gameFrom_41 : decode cX6_gameFrom 41 = .ok (.istore 5, 2) := by decide +kernel
theorem dX6_gameFrom_43 : decode cX6_gameFrom 43 = .ok (.iconst 1, 1) := by decide +kernel
theorem dX6_gameFrom_44 : decode cX6_gameFrom 44 = .ok (.istore 6, 2) := by decide +kernel
theorem dX6_gameFrom_46 : decode cX6_gameFrom 46 = .ok (.iload 6, 2) := by decide +kernel
theorem dX6_gameFrom_48 : decode cX6_gameFrom 48 = .ok (.aload_n 0, 1) := by decide +kernel
theorem dX6_gameFrom_49 : decode cX6_gameFrom 49 = .ok (.getfield 26, 3) := by decide +kernel
theorem dX6_gameFrom_52 : decode cX6_gameFrom 52 = .ok (.getfield 64, 3) := by decide +kernel
theorem dX6_gameFrom_55 : decode cX6_gameFrom 55 = .ok (.if_icmp .gt 79, 3) := by decide +kernel
theorem dX6_gameFrom_58 : decode cX6_gameFrom 58 = .ok (.aload_n 0, 1) := by decide +kernel
theorem dX6_gameFrom_59 : decode cX6_gameFrom 59 = .ok (.getfield 26, 3) := by decide +kernel
theorem dX6_gameFrom_62 : decode cX6_gameFrom 62 = .ok (.aload_n 0, 1) := by decide +kernel
theorem dX6_gameFrom_63 : decode cX6_gameFrom 63 = .ok (.getfield 11, 3) := by decide +kernel
theorem dX6_gameFrom_66 : decode cX6_gameFrom 66 = .ok (.iload_n 1, 1) := by decide +kernel
theorem dX6_gameFrom_67 : decode cX6_gameFrom 67 = .ok (.aaload, 1) := by decide +kernel
theorem dX6_gameFrom_68 : decode cX6_gameFrom 68 = .ok (.iload 6, 2) := by decide +kernel
theorem dX6_gameFrom_70 : decode cX6_gameFrom 70 = .ok (.iconst 1, 1) := by decide +kernel
theorem dX6_gameFrom_71 : decode cX6_gameFrom 71 = .ok (.isub, 1) := by decide +kernel
theorem dX6_gameFrom_72 : decode cX6_gameFrom 72 = .ok (.invokevirtual 68, 3) := by decide +kernel
theorem dX6_gameFrom_75 : decode cX6_gameFrom 75 = .ok (.ifCond .eq 6, 3) := by decide +kernel
theorem dX6_gameFrom_78 : decode cX6_gameFrom 78 = .ok (.goto 50, 3) := by decide +kernel
theorem dX6_gameFrom_81 : decode cX6_gameFrom 81 = .ok (.aload_n 0, 1) := by decide +kernel
theorem dX6_gameFrom_82 : decode cX6_gameFrom 82 = .ok (.iload_n 1, 1) := by decide +kernel
theorem dX6_gameFrom_83 : decode cX6_gameFrom 83 = .ok (.iload 6, 2) := by decide +kernel
theorem dX6_gameFrom_85 : decode cX6_gameFrom 85 = .ok (.invokevirtual 53, 3) := by decide +kernel
theorem dX6_gameFrom_88 : decode cX6_gameFrom 88 = .ok (.aload_n 0, 1) := by decide +kernel
theorem dX6_gameFrom_89 : decode cX6_gameFrom 89 = .ok (.iload_n 1, 1) := by decide +kernel
theorem dX6_gameFrom_90 : decode cX6_gameFrom 90 = .ok (.iconst 1, 1) := by decide +kernel
theorem dX6_gameFrom_91 : decode cX6_gameFrom 91 = .ok (.iadd, 1) := by decide +kernel
theorem dX6_gameFrom_92 : decode cX6_gameFrom 92 = .ok (.iload_n 2, 1) := by decide +kernel
theorem dX6_gameFrom_93 : decode cX6_gameFrom 93 = .ok (.invokevirtual 87, 3) := by decide +kernel
theorem dX6_gameFrom_96 : decode cX6_gameFrom 96 = .ok (.iadd, 1) := by decide +kernel
theorem dX6_gameFrom_97 : decode cX6_gameFrom 97 = .ok (.istore 7, 2) := by decide +kernel
theorem dX6_gameFrom_99 : decode cX6_gameFrom 99 = .ok (.iload_n 3, 1) := by decide +kernel
theorem dX6_gameFrom_100 : decode cX6_gameFrom 100 = .ok (.ifCond .eq 13, 3) := by decide +kernel
theorem dX6_gameFrom_103 : decode cX6_gameFrom 103 = .ok (.iload 7, 2) := by decide +kernel
theorem dX6_gameFrom_105 : decode cX6_gameFrom 105 = .ok (.iload 4, 2) := by decide +kernel
theorem dX6_gameFrom_107 : decode cX6_gameFrom 107 = .ok (.if_icmp .le 21, 3) := by decide +kernel
theorem dX6_gameFrom_110 : decode cX6_gameFrom 110 = .ok (.goto 10, 3) := by decide +kernel
theorem dX6_gameFrom_113 : decode cX6_gameFrom 113 = .ok (.iload 7, 2) := by decide +kernel
theorem dX6_gameFrom_115 : decode cX6_gameFrom 115 = .ok (.iload 4, 2) := by decide +kernel
theorem dX6_gameFrom_117 : decode cX6_gameFrom 117 = .ok (.if_icmp .ge 11, 3) := by decide +kernel
theorem dX6_gameFrom_120 : decode cX6_gameFrom 120 = .ok (.iload 7, 2) := by decide +kernel
theorem dX6_gameFrom_122 : decode cX6_gameFrom 122 = .ok (.istore 4, 2) := by decide +kernel
theorem dX6_gameFrom_124 : decode cX6_gameFrom 124 = .ok (.iload 6, 2) := by decide +kernel
theorem dX6_gameFrom_126 : decode cX6_gameFrom 126 = .ok (.istore 5, 2) := by decide +kernel
theorem dX6_gameFrom_128 : decode cX6_gameFrom 128 = .ok (.iinc 6 1, 3) := by decide +kernel
theorem dX6_gameFrom_131 : decode cX6_gameFrom 131 = .ok (.goto (-85), 3) := by decide +kernel
theorem dX6_gameFrom_134 : decode cX6_gameFrom 134 = .ok (.aload_n 0, 1) := by decide +kernel
theorem dX6_gameFrom_135 : decode cX6_gameFrom 135 = .ok (.getfield 19, 3) := by decide +kernel
theorem dX6_gameFrom_138 : decode cX6_gameFrom 138 = .ok (.iload_n 1, 1) := by decide +kernel
theorem dX6_gameFrom_139 : decode cX6_gameFrom 139 = .ok (.aaload, 1) := by decide +kernel
theorem dX6_gameFrom_140 : decode cX6_gameFrom 140 = .ok (.iload_n 1, 1) := by decide +kernel
theorem dX6_gameFrom_141 : decode cX6_gameFrom 141 = .ok (.iload 5, 2) := by decide +kernel
theorem dX6_gameFrom_143 : decode cX6_gameFrom 143 = .ok (.iastore, 1) := by decide +kernel
theorem dX6_gameFrom_144 : decode cX6_gameFrom 144 = .ok (.iload 4, 2) := by decide +kernel
theorem dX6_gameFrom_146 : decode cX6_gameFrom 146 = .ok (.ireturn, 1) := by decide +kernel
theorem dX7_init_0 : decode cX7_init 0 = .ok (.aload_n 0, 1) := by decide +kernel
theorem dX7_init_1 : decode cX7_init 1 = .ok (.invokespecial 3, 3) := by decide +kernel
theorem dX7_init_4 : decode cX7_init 4 = .ok (.aload_n 0, 1) := by decide +kernel
theorem dX7_init_5 : decode cX7_init 5 = .ok (.iconst 0, 1) := by decide +kernel
theorem dX7_init_6 : decode cX7_init 6 = .ok (.putfield 9, 3) := by decide +kernel
theorem dX7_init_9 : decode cX7_init 9 = .ok (.aload_n 0, 1) := by decide +kernel
theorem dX7_init_10 : decode cX7_init 10 = .ok (.bipush 6, 2) := by decide +kernel
theorem dX7_init_12 : decode cX7_init 12 = .ok (.newarray .int, 2) := by decide +kernel
theorem dX7_init_14 : decode cX7_init 14 = .ok (.putfield 15, 3) := by decide +kernel
theorem dX7_init_17 : decode cX7_init 17 = .ok (.aload_n 0, 1) := by decide +kernel
theorem dX7_init_18 : decode cX7_init 18 = .ok (.bipush 6, 2) := by decide +kernel
theorem dX7_init_20 : decode cX7_init 20 = .ok (.newarray .int, 2) := by decide +kernel
theorem dX7_init_22 : decode cX7_init 22 = .ok (.putfield 19, 3) := by decide +kernel
theorem dX7_init_25 : decode cX7_init 25 = .ok (.aload_n 0, 1) := by decide +kernel
theorem dX7_init_26 : decode cX7_init 26 = .ok (.bipush 6, 2) := by decide +kernel
theorem dX7_init_28 : decode cX7_init 28 = .ok (.newarray .int, 2) := by decide +kernel
theorem dX7_init_30 : decode cX7_init 30 = .ok (.putfield 22, 3) := by decide +kernel
theorem dX7_init_33 : decode cX7_init 33 = .ok (.aload_n 0, 1) := by decide +kernel
theorem dX7_init_34 : decode cX7_init 34 = .ok (.bipush 6, 2) := by decide +kernel
theorem dX7_init_36 : decode cX7_init 36 = .ok (.newarray .int, 2) := by decide +kernel
theorem dX7_init_38 : decode cX7_init 38 = .ok (.putfield 25, 3) := by decide +kernel
theorem dX7_init_41 : decode cX7_init 41 = .ok (.aload_n 0, 1) := by decide +kernel
theorem dX7_init_42 : decode cX7_init 42 = .ok (.iconst 0, 1) := by decide +kernel
theorem dX7_init_43 : decode cX7_init 43 = .ok (.putfield 28, 3) := by decide +kernel
theorem dX7_init_46 : decode cX7_init 46 = .ok (.aload_n 0, 1) := by decide +kernel
theorem dX7_init_47 : decode cX7_init 47 = .ok (.iconst 0, 1) := by decide +kernel
theorem dX7_init_48 : decode cX7_init 48 = .ok (.putfield 31, 3) := by decide +kernel
theorem dX7_init_51 : decode cX7_init 51 = .ok (.aload_n 0, 1) := by decide +kernel
theorem dX7_init_52 : decode cX7_init 52 = .ok (.iconst 0, 1) := by decide +kernel
theorem dX7_init_53 : decode cX7_init 53 = .ok (.putfield 34, 3) := by decide +kernel
theorem dX7_init_56 : decode cX7_init 56 = .ok (.aload_n 0, 1) := by decide +kernel
theorem dX7_init_57 : decode cX7_init 57 = .ok (.iconst 0, 1) := by decide +kernel
theorem dX7_init_58 : decode cX7_init 58 = .ok (.putfield 37, 3) := by decide +kernel
theorem dX7_init_61 : decode cX7_init 61 = .ok (.aload_n 0, 1) := by decide +kernel
theorem dX7_init_62 : decode cX7_init 62 = .ok (.iconst 0, 1) := by decide +kernel
theorem dX7_init_63 : decode cX7_init 63 = .ok (.putfield 40, 3) := by decide +kernel
theorem dX7_init_66 : decode cX7_init 66 = .ok (.return_, 1) := by decide +kernel
theorem dX7_take_0 : decode cX7_take 0 = .ok (.aload_n 0, 1) := by decide +kernel
theorem dX7_take_1 : decode cX7_take 1 = .ok (.aload_n 1, 1) := by decide +kernel
theorem dX7_take_2 : decode cX7_take 2 = .ok (.getfield 9, 3) := by decide +kernel
theorem dX7_take_5 : decode cX7_take 5 = .ok (.putfield 9, 3) := by decide +kernel
theorem dX7_take_8 : decode cX7_take 8 = .ok (.aload_n 1, 1) := by decide +kernel
theorem dX7_take_9 : decode cX7_take 9 = .ok (.getfield 15, 3) := by decide +kernel
theorem dX7_take_12 : decode cX7_take 12 = .ok (.iconst 0, 1) := by decide +kernel
theorem dX7_take_13 : decode cX7_take 13 = .ok (.aload_n 0, 1) := by decide +kernel
theorem dX7_take_14 : decode cX7_take 14 = .ok (.getfield 15, 3) := by decide +kernel
theorem dX7_take_17 : decode cX7_take 17 = .ok (.iconst 0, 1) := by decide +kernel
theorem dX7_take_18 : decode cX7_take 18 = .ok (.bipush 6, 2) := by decide +kernel
theorem dX7_take_20 : decode cX7_take 20 = .ok (.invokestatic 43, 3) := by decide +kernel
theorem dX7_take_23 : decode cX7_take 23 = .ok (.aload_n 1, 1) := by decide +kernel
theorem dX7_take_24 : decode cX7_take 24 = .ok (.getfield 19, 3) := by decide +kernel
theorem dX7_take_27 : decode cX7_take 27 = .ok (.iconst 0, 1) := by decide +kernel
theorem dX7_take_28 : decode cX7_take 28 = .ok (.aload_n 0, 1) := by decide +kernel
theorem dX7_take_29 : decode cX7_take 29 = .ok (.getfield 19, 3) := by decide +kernel
theorem dX7_take_32 : decode cX7_take 32 = .ok (.iconst 0, 1) := by decide +kernel
theorem dX7_take_33 : decode cX7_take 33 = .ok (.bipush 6, 2) := by decide +kernel
theorem dX7_take_35 : decode cX7_take 35 = .ok (.invokestatic 43, 3) := by decide +kernel
theorem dX7_take_38 : decode cX7_take 38 = .ok (.aload_n 1, 1) := by decide +kernel
theorem dX7_take_39 : decode cX7_take 39 = .ok (.getfield 22, 3) := by decide +kernel
theorem dX7_take_42 : decode cX7_take 42 = .ok (.iconst 0, 1) := by decide +kernel
theorem dX7_take_43 : decode cX7_take 43 = .ok (.aload_n 0, 1) := by decide +kernel
theorem dX7_take_44 : decode cX7_take 44 = .ok (.getfield 22, 3) := by decide +kernel
theorem dX7_take_47 : decode cX7_take 47 = .ok (.iconst 0, 1) := by decide +kernel
theorem dX7_take_48 : decode cX7_take 48 = .ok (.bipush 6, 2) := by decide +kernel
theorem dX7_take_50 : decode cX7_take 50 = .ok (.invokestatic 43, 3) := by decide +kernel
theorem dX7_take_53 : decode cX7_take 53 = .ok (.aload_n 1, 1) := by decide +kernel
theorem dX7_take_54 : decode cX7_take 54 = .ok (.getfield 25, 3) := by decide +kernel
theorem dX7_take_57 : decode cX7_take 57 = .ok (.iconst 0, 1) := by decide +kernel
theorem dX7_take_58 : decode cX7_take 58 = .ok (.aload_n 0, 1) := by decide +kernel
theorem dX7_take_59 : decode cX7_take 59 = .ok (.getfield 25, 3) := by decide +kernel
theorem dX7_take_62 : decode cX7_take 62 = .ok (.iconst 0, 1) := by decide +kernel
theorem dX7_take_63 : decode cX7_take 63 = .ok (.bipush 6, 2) := by decide +kernel
theorem dX7_take_65 : decode cX7_take 65 = .ok (.invokestatic 43, 3) := by decide +kernel
theorem dX7_take_68 : decode cX7_take 68 = .ok (.return_, 1) := by decide +kernel
theorem dX7_add_0 : decode cX7_add 0 = .ok (.aload_n 0, 1) := by decide +kernel
theorem dX7_add_1 : decode cX7_add 1 = .ok (.getfield 9, 3) := by decide +kernel
theorem dX7_add_4 : decode cX7_add 4 = .ok (.istore 5, 2) := by decide +kernel
theorem dX7_add_6 : decode cX7_add 6 = .ok (.aload_n 0, 1) := by decide +kernel
theorem dX7_add_7 : decode cX7_add 7 = .ok (.getfield 15, 3) := by decide +kernel
theorem dX7_add_10 : decode cX7_add 10 = .ok (.iload 5, 2) := by decide +kernel
theorem dX7_add_12 : decode cX7_add 12 = .ok (.iload_n 1, 1) := by decide +kernel
theorem dX7_add_13 : decode cX7_add 13 = .ok (.iastore, 1) := by decide +kernel
theorem dX7_add_14 : decode cX7_add 14 = .ok (.aload_n 0, 1) := by decide +kernel
theorem dX7_add_15 : decode cX7_add 15 = .ok (.getfield 19, 3) := by decide +kernel
theorem dX7_add_18 : decode cX7_add 18 = .ok (.iload 5, 2) := by decide +kernel
theorem dX7_add_20 : decode cX7_add 20 = .ok (.iload_n 2, 1) := by decide +kernel
theorem dX7_add_21 : decode cX7_add 21 = .ok (.iastore, 1) := by decide +kernel
theorem dX7_add_22 : decode cX7_add 22 = .ok (.aload_n 0, 1) := by decide +kernel
theorem dX7_add_23 : decode cX7_add 23 = .ok (.getfield 22, 3) := by decide +kernel
theorem dX7_add_26 : decode cX7_add 26 = .ok (.iload 5, 2) := by decide +kernel
theorem dX7_add_28 : decode cX7_add 28 = .ok (.iload_n 3, 1) := by decide +kernel
theorem dX7_add_29 : decode cX7_add 29 = .ok (.iastore, 1) := by decide +kernel
theorem dX7_add_30 : decode cX7_add 30 = .ok (.aload_n 0, 1) := by decide +kernel
theorem dX7_add_31 : decode cX7_add 31 = .ok (.getfield 25, 3) := by decide +kernel
theorem dX7_add_34 : decode cX7_add 34 = .ok (.iload 5, 2) := by decide +kernel
theorem dX7_add_36 : decode cX7_add 36 = .ok (.iload 4, 2) := by decide +kernel
theorem dX7_add_38 : decode cX7_add 38 = .ok (.iastore, 1) := by decide +kernel
theorem dX7_add_39 : decode cX7_add 39 = .ok (.aload_n 0, 1) := by decide +kernel
theorem dX7_add_40 : decode cX7_add 40 = .ok (.dup, 1) := by decide +kernel
theorem dX7_add_41 : decode cX7_add 41 = .ok (.getfield 9, 3) := by decide +kernel
theorem dX7_add_44 : decode cX7_add 44 = .ok (.iconst 1, 1) := by decide +kernel
theorem dX7_add_45 : decode cX7_add 45 = .ok (.iadd, 1) := by decide +kernel
theorem dX7_add_46 : decode cX7_add 46 = .ok (.putfield 9, 3) := by decide +kernel
theorem dX7_add_49 : decode cX7_add 49 = .ok (.iload 5, 2) := by decide +kernel
theorem dX7_add_51 : decode cX7_add 51 = .ok (.ireturn, 1) := by decide +kernel
theorem dX7_search_0 : decode cX7_search 0 = .ok (.aload_n 0, 1) := by decide +kernel
theorem dX7_search_1 : decode cX7_search 1 = .ok (.iconst 0, 1) := by decide +kernel
theorem dX7_search_2 : decode cX7_search 2 = .ok (.putfield 28, 3) := by decide +kernel
theorem dX7_search_5 : decode cX7_search 5 = .ok (.aload_n 0, 1) := by decide +kernel
theorem dX7_search_6 : decode cX7_search 6 = .ok (.iconst 0, 1) := by decide +kernel
theorem dX7_search_7 : decode cX7_search 7 = .ok (.putfield 40, 3) := by decide +kernel
theorem dX7_search_10 : decode cX7_search 10 = .ok (.iconst 1, 1) := by decide +kernel
theorem dX7_search_11 : decode cX7_search 11 = .ok (.istore_n 2, 1) := by decide +kernel
theorem dX7_search_12 : decode cX7_search 12 = .ok (.iload_n 2, 1) := by decide +kernel
theorem dX7_search_13 : decode cX7_search 13 = .ok (.iconst 5, 1) := by decide +kernel
theorem dX7_search_14 : decode cX7_search 14 = .ok (.if_icmp .gt 48, 3) := by decide +kernel
theorem dX7_search_17 : decode cX7_search 17 = .ok (.iconst 0, 1) := by decide +kernel
theorem dX7_search_18 : decode cX7_search 18 = .ok (.istore_n 3, 1) := by decide +kernel
theorem dX7_search_19 : decode cX7_search 19 = .ok (.iload_n 3, 1) := by decide +kernel
theorem dX7_search_20 : decode cX7_search 20 = .ok (.bipush 9, 2) := by decide +kernel
theorem dX7_search_22 : decode cX7_search 22 = .ok (.if_icmp .gt 34, 3) := by decide +kernel
theorem dX7_search_25 : decode cX7_search 25 = .ok (.iconst 0, 1) := by decide +kernel
theorem dX7_search_26 : decode cX7_search 26 = .ok (.istore 4, 2) := by decide +kernel
theorem dX7_search_28 : decode cX7_search 28 = .ok (.iload 4, 2) := by decide +kernel
theorem dX7_search_30 : decode cX7_search 30 = .ok (.bipush 81, 2) := by decide +kernel
theorem dX7_search_32 : decode cX7_search 32 = .ok (.if_icmp .gt 18, 3) := by decide +kernel
theorem dX7_search_35 : decode cX7_search 35 = .ok (.aload_n 0, 1) := by decide +kernel
theorem dX7_search_36 : decode cX7_search 36 = .ok (.aload_n 1, 1) := by decide +kernel
theorem dX7_search_37 : decode cX7_search 37 = .ok (.iload_n 2, 1) := by decide +kernel
theorem dX7_search_38 : decode cX7_search 38 = .ok (.iload_n 3, 1) := by decide +kernel
theorem dX7_search_39 : decode cX7_search 39 = .ok (.iload 4, 2) := by decide +kernel
theorem dX7_search_41 : decode cX7_search 41 = .ok (.invokevirtual 49, 3) := by decide +kernel
theorem dX7_search_44 : decode cX7_search 44 = .ok (.iinc 4 9, 3) := by decide +kernel
theorem dX7_search_47 : decode cX7_search 47 = .ok (.goto (-19), 3) := by decide +kernel
theorem dX7_search_50 : decode cX7_search 50 = .ok (.iinc 3 1, 3) := by decide +kernel
theorem dX7_search_53 : decode cX7_search 53 = .ok (.goto (-34), 3) := by decide +kernel
theorem dX7_search_56 : decode cX7_search 56 = .ok (.iinc 2 1, 3) := by decide +kernel
theorem dX7_search_59 : decode cX7_search 59 = .ok (.goto (-47), 3) := by decide +kernel
theorem dX7_search_62 : decode cX7_search 62 = .ok (.return_, 1) := by decide +kernel
theorem dX7_noteLone_0 : decode cX7_noteLone 0 = .ok (.aload_n 0, 1) := by decide +kernel
theorem dX7_noteLone_1 : decode cX7_noteLone 1 = .ok (.aload_n 1, 1) := by decide +kernel
theorem dX7_noteLone_2 : decode cX7_noteLone 2 = .ok (.aload_n 1, 1) := by decide +kernel
theorem dX7_noteLone_3 : decode cX7_noteLone 3 = .ok (.getfield 53, 3) := by decide +kernel
theorem dX7_noteLone_6 : decode cX7_noteLone 6 = .ok (.iload_n 2, 1) := by decide +kernel
theorem dX7_noteLone_7 : decode cX7_noteLone 7 = .ok (.aaload, 1) := by decide +kernel
theorem dX7_noteLone_8 : decode cX7_noteLone 8 = .ok (.iload_n 3, 1) := by decide +kernel
theorem dX7_noteLone_9 : decode cX7_noteLone 9 = .ok (.iload 4, 2) := by decide +kernel
theorem dX7_noteLone_11 : decode cX7_noteLone 11 = .ok (.invokevirtual 59, 3) := by decide +kernel
theorem dX7_noteLone_14 : decode cX7_noteLone 14 = .ok (.istore 5, 2) := by decide +kernel
theorem dX7_noteLone_16 : decode cX7_noteLone 16 = .ok (.iload 5, 2) := by decide +kernel
theorem dX7_noteLone_18 : decode cX7_noteLone 18 = .ok (.invokestatic 63, 3) := by decide +kernel
theorem dX7_noteLone_21 : decode cX7_noteLone 21 = .ok (.iconst 1, 1) := by decide +kernel
theorem dX7_noteLone_22 : decode cX7_noteLone 22 = .ok (.if_icmp .ne 14, 3) := by decide +kernel
theorem dX7_noteLone_25 : decode cX7_noteLone 25 = .ok (.aload_n 0, 1) := by decide +kernel
theorem dX7_noteLone_26 : decode cX7_noteLone 26 = .ok (.dup, 1) := by decide +kernel
theorem dX7_noteLone_27 : decode cX7_noteLone 27 = .ok (.getfield 40, 3) := by decide +kernel
theorem dX7_noteLone_30 : decode cX7_noteLone 30 = .ok (.iload 5, 2) := by decide +kernel
theorem dX7_noteLone_32 : decode cX7_noteLone 32 = .ok (.ior, 1) := by decide +kernel
theorem dX7_noteLone_33 : decode cX7_noteLone 33 = .ok (.putfield 40, 3) := by decide +kernel
theorem dX7_noteLone_36 : decode cX7_noteLone 36 = .ok (.iload 5, 2) := by decide +kernel
theorem dX7_noteLone_38 : decode cX7_noteLone 38 = .ok (.ifCond .eq 4, 3) := by decide +kernel
theorem dX7_noteLone_41 : decode cX7_noteLone 41 = .ok (.return_, 1) := by decide +kernel
theorem dX7_noteLone_42 : decode cX7_noteLone 42 = .ok (.aload_n 0, 1) := by decide +kernel
theorem dX7_noteLone_43 : decode cX7_noteLone 43 = .ok (.getfield 28, 3) := by decide +kernel
theorem dX7_noteLone_46 : decode cX7_noteLone 46 = .ok (.ifCond .ne 19, 3) := by decide +kernel
theorem dX7_noteLone_49 : decode cX7_noteLone 49 = .ok (.aload_n 0, 1) := by decide +kernel
theorem dX7_noteLone_50 : decode cX7_noteLone 50 = .ok (.iload_n 2, 1) := by decide +kernel
theorem dX7_noteLone_51 : decode cX7_noteLone 51 = .ok (.putfield 31, 3) := by decide +kernel
theorem dX7_noteLone_54 : decode cX7_noteLone 54 = .ok (.aload_n 0, 1) := by decide +kernel
theorem dX7_noteLone_55 : decode cX7_noteLone 55 = .ok (.iload_n 3, 1) := by decide +kernel
theorem dX7_noteLone_56 : decode cX7_noteLone 56 = .ok (.putfield 34, 3) := by decide +kernel
theorem dX7_noteLone_59 : decode cX7_noteLone 59 = .ok (.aload_n 0, 1) := by decide +kernel
theorem dX7_noteLone_60 : decode cX7_noteLone 60 = .ok (.iload 4, 2) := by decide +kernel
theorem dX7_noteLone_62 : decode cX7_noteLone 62 = .ok (.putfield 37, 3) := by decide +kernel
theorem dX7_noteLone_65 : decode cX7_noteLone 65 = .ok (.aload_n 0, 1) := by decide +kernel
theorem dX7_noteLone_66 : decode cX7_noteLone 66 = .ok (.dup, 1) := by decide +kernel
theorem dX7_noteLone_67 : decode cX7_noteLone 67 = .ok (.getfield 28, 3) := by decide +kernel
theorem dX7_noteLone_70 : decode cX7_noteLone 70 = .ok (.iconst 1, 1) := by decide +kernel
theorem dX7_noteLone_71 : decode cX7_noteLone 71 = .ok (.iadd, 1) := by decide +kernel
theorem dX7_noteLone_72 : decode cX7_noteLone 72 = .ok (.putfield 28, 3) := by decide +kernel
theorem dX7_noteLone_75 : decode cX7_noteLone 75 = .ok (.return_, 1) := by decide +kernel
theorem dX7_brokenBy_0 : decode cX7_brokenBy 0 = .ok (.aload_n 2, 1) := by decide +kernel
theorem dX7_brokenBy_1 : decode cX7_brokenBy 1 = .ok (.iload_n 3, 1) := by decide +kernel
theorem dX7_brokenBy_2 : decode cX7_brokenBy 2 = .ok (.iconst 0, 1) := by decide +kernel
theorem dX7_brokenBy_3 : decode cX7_brokenBy 3 = .ok (.invokevirtual 69, 3) := by decide +kernel
theorem dX7_brokenBy_6 : decode cX7_brokenBy 6 = .ok (.istore 5, 2) := by decide +kernel
theorem dX7_brokenBy_8 : decode cX7_brokenBy 8 = .ok (.iload 4, 2) := by decide +kernel
theorem dX7_brokenBy_10 : decode cX7_brokenBy 10 = .ok (.istore 6, 2) := by decide +kernel
theorem dX7_brokenBy_12 : decode cX7_brokenBy 12 = .ok (.iconst 0, 1) := by decide +kernel
theorem dX7_brokenBy_13 : decode cX7_brokenBy 13 = .ok (.istore 7, 2) := by decide +kernel
theorem dX7_brokenBy_15 : decode cX7_brokenBy 15 = .ok (.iconst 0, 1) := by decide +kernel
theorem dX7_brokenBy_16 : decode cX7_brokenBy 16 = .ok (.istore 8, 2) := by decide +kernel
theorem dX7_brokenBy_18 : decode cX7_brokenBy 18 = .ok (.aload_n 0, 1) := by decide +kernel
theorem dX7_brokenBy_19 : decode cX7_brokenBy 19 = .ok (.invokevirtual 75, 3) := by decide +kernel
theorem dX7_brokenBy_22 : decode cX7_brokenBy 22 = .ok (.istore 9, 2) := by decide +kernel
theorem dX7_brokenBy_24 : decode cX7_brokenBy 24 = .ok (.iconst 0, 1) := by decide +kernel
theorem dX7_brokenBy_25 : decode cX7_brokenBy 25 = .ok (.istore 10, 2) := by decide +kernel
theorem dX7_brokenBy_27 : decode cX7_brokenBy 27 = .ok (.iload 10, 2) := by decide +kernel
theorem dX7_brokenBy_29 : decode cX7_brokenBy 29 = .ok (.iload 9, 2) := by decide +kernel
theorem dX7_brokenBy_31 : decode cX7_brokenBy 31 = .ok (.if_icmp .gt 72, 3) := by decide +kernel
theorem dX7_brokenBy_34 : decode cX7_brokenBy 34 = .ok (.iload 8, 2) := by decide +kernel
theorem dX7_brokenBy_36 : decode cX7_brokenBy 36 = .ok (.aload_n 0, 1) := by decide +kernel
theorem dX7_brokenBy_37 : decode cX7_brokenBy 37 = .ok (.iload 10, 2) := by decide +kernel
theorem dX7_brokenBy_39 : decode cX7_brokenBy 39 = .ok (.iload 6, 2) := by decide +kernel
theorem dX7_brokenBy_41 : decode cX7_brokenBy 41 = .ok (.iload 7, 2) := by decide +kernel
theorem dX7_brokenBy_43 : decode cX7_brokenBy 43 = .ok (.invokevirtual 79, 3) := by decide +kernel
theorem dX7_brokenBy_46 : decode cX7_brokenBy 46 = .ok (.ior, 1) := by decide +kernel
theorem dX7_brokenBy_47 : decode cX7_brokenBy 47 = .ok (.istore 8, 2) := by decide +kernel
theorem dX7_brokenBy_49 : decode cX7_brokenBy 49 = .ok (.aload_n 1, 1) := by decide +kernel
theorem dX7_brokenBy_50 : decode cX7_brokenBy 50 = .ok (.iload 10, 2) := by decide +kernel
theorem dX7_brokenBy_52 : decode cX7_brokenBy 52 = .ok (.invokevirtual 83, 3) := by decide +kernel
theorem dX7_brokenBy_55 : decode cX7_brokenBy 55 = .ok (.istore 11, 2) := by decide +kernel
theorem dX7_brokenBy_57 : decode cX7_brokenBy 57 = .ok (.iload 6, 2) := by decide +kernel
theorem dX7_brokenBy_59 : decode cX7_brokenBy 59 = .ok (.bipush 6, 2) := by decide +kernel
theorem dX7_brokenBy_61 : decode cX7_brokenBy 61 = .ok (.iload 11, 2) := by decide +kernel
theorem dX7_brokenBy_63 : decode cX7_brokenBy 63 = .ok (.imul, 1) := by decide +kernel
theorem dX7_brokenBy_64 : decode cX7_brokenBy 64 = .ok (.iadd, 1) := by decide +kernel
theorem dX7_brokenBy_65 : decode cX7_brokenBy 65 = .ok (.iload 5, 2) := by decide +kernel
theorem dX7_brokenBy_67 : decode cX7_brokenBy 67 = .ok (.if_icmp .lt 6, 3) := by decide +kernel
theorem dX7_brokenBy_70 : decode cX7_brokenBy 70 = .ok (.iinc 7 1, 3) := by decide +kernel
theorem dX7_brokenBy_73 : decode cX7_brokenBy 73 = .ok (.bipush 99, 2) := by decide +kernel
theorem dX7_brokenBy_75 : decode cX7_brokenBy 75 = .ok (.iload 6, 2) := by decide +kernel
theorem dX7_brokenBy_77 : decode cX7_brokenBy 77 = .ok (.aload_n 2, 1) := by decide +kernel
theorem dX7_brokenBy_78 : decode cX7_brokenBy 78 = .ok (.iload 11, 2) := by decide +kernel
theorem dX7_brokenBy_80 : decode cX7_brokenBy 80 = .ok (.aload_n 1, 1) := by decide +kernel
theorem dX7_brokenBy_81 : decode cX7_brokenBy 81 = .ok (.iload 10, 2) := by decide +kernel
theorem dX7_brokenBy_83 : decode cX7_brokenBy 83 = .ok (.invokevirtual 86, 3) := by decide +kernel
theorem dX7_brokenBy_86 : decode cX7_brokenBy 86 = .ok (.iload 10, 2) := by decide +kernel
theorem dX7_brokenBy_88 : decode cX7_brokenBy 88 = .ok (.invokevirtual 89, 3) := by decide +kernel
theorem dX7_brokenBy_91 : decode cX7_brokenBy 91 = .ok (.iadd, 1) := by decide +kernel
theorem dX7_brokenBy_92 : decode cX7_brokenBy 92 = .ok (.invokestatic 92, 3) := by decide +kernel
theorem dX7_brokenBy_95 : decode cX7_brokenBy 95 = .ok (.istore 6, 2) := by decide +kernel
theorem dX7_brokenBy_97 : decode cX7_brokenBy 97 = .ok (.iinc 10 1, 3) := by decide +kernel
theorem dX7_brokenBy_100 : decode cX7_brokenBy 100 = .ok (.goto (-73), 3) := by decide +kernel
theorem dX7_brokenBy_103 : decode cX7_brokenBy 103 = .ok (.iload 8, 2) := by decide +kernel
theorem dX7_brokenBy_105 : decode cX7_brokenBy 105 = .ok (.ireturn, 1) := by decide +kernel
theorem dX7_brokenBehind_0 : decode cX7_brokenBehind 0 = .ok (.iconst 0, 1) := by decide +kernel
theorem dX7_brokenBehind_1 : decode cX7_brokenBehind 1 = .ok (.istore 4, 2) := by decide +kernel
theorem dX7_brokenBehind_3 : decode cX7_brokenBehind 3 = .ok (.iconst 0, 1) := by decide +kernel
theorem dX7_brokenBehind_4 : decode cX7_brokenBehind 4 = .ok (.istore 5, 2) := by decide +kernel
theorem dX7_brokenBehind_6 : decode cX7_brokenBehind 6 = .ok (.iload 5, 2) := by decide +kernel
theorem dX7_brokenBehind_8 : decode cX7_brokenBehind 8 = .ok (.aload_n 0, 1) := by decide +kernel
theorem dX7_brokenBehind_9 : decode cX7_brokenBehind 9 = .ok (.getfield 9, 3) := by decide +kernel
theorem dX7_brokenBehind_12 : decode cX7_brokenBehind 12 = .ok (.if_icmp .ge 73, 3) := by decide +kernel
theorem dX7_brokenBehind_15 : decode cX7_brokenBehind 15 = .ok (.aload_n 0, 1) := by decide +kernel
theorem dX7_brokenBehind_16 : decode cX7_brokenBehind 16 = .ok (.getfield 15, 3) := by decide +kernel
theorem dX7_brokenBehind_19 : decode cX7_brokenBehind 19 = .ok (.iload 5, 2) := by decide +kernel
theorem dX7_brokenBehind_21 : decode cX7_brokenBehind 21 = .ok (.iaload, 1) := by decide +kernel
theorem dX7_brokenBehind_22 : decode cX7_brokenBehind 22 = .ok (.iload_n 1, 1) := by decide +kernel
theorem dX7_brokenBehind_23 : decode cX7_brokenBehind 23 = .ok (.if_icmp .eq 6, 3) := by decide +kernel
theorem dX7_brokenBehind_26 : decode cX7_brokenBehind 26 = .ok (.goto 53, 3) := by decide +kernel
theorem dX7_brokenBehind_29 : decode cX7_brokenBehind 29 = .ok (.aload_n 0, 1) := by decide +kernel
theorem dX7_brokenBehind_30 : decode cX7_brokenBehind 30 = .ok (.getfield 19, 3) := by decide +kernel
theorem dX7_brokenBehind_33 : decode cX7_brokenBehind 33 = .ok (.iload 5, 2) := by decide +kernel
theorem dX7_brokenBehind_35 : decode cX7_brokenBehind 35 = .ok (.iaload, 1) := by decide +kernel
theorem dX7_brokenBehind_36 : decode cX7_brokenBehind 36 = .ok (.ifCond .ne 7, 3) := by decide +kernel
theorem dX7_brokenBehind_39 : decode cX7_brokenBehind 39 = .ok (.iload_n 2, 1) := by decide +kernel
theorem dX7_brokenBehind_40 : decode cX7_brokenBehind 40 = .ok (.goto 4, 3) := by decide +kernel
theorem dX7_brokenBehind_43 : decode cX7_brokenBehind 43 = .ok (.iload_n 3, 1) := by decide +kernel
theorem dX7_brokenBehind_44 : decode cX7_brokenBehind 44 = .ok (.istore 6, 2) := by decide +kernel
theorem dX7_brokenBehind_46 : decode cX7_brokenBehind 46 = .ok (.iload 6, 2) := by decide +kernel
theorem dX7_brokenBehind_48 : decode cX7_brokenBehind 48 = .ok (.aload_n 0, 1) := by decide +kernel
theorem dX7_brokenBehind_49 : decode cX7_brokenBehind 49 = .ok (.getfield 22, 3) := by decide +kernel
theorem dX7_brokenBehind_52 : decode cX7_brokenBehind 52 = .ok (.iload 5, 2) := by decide +kernel
theorem dX7_brokenBehind_54 : decode cX7_brokenBehind 54 = .ok (.iaload, 1) := by decide +kernel
theorem dX7_brokenBehind_55 : decode cX7_brokenBehind 55 = .ok (.if_icmp .lt 15, 3) := by decide +kernel
theorem dX7_brokenBehind_58 : decode cX7_brokenBehind 58 = .ok (.iload 6, 2) := by decide +kernel
theorem dX7_brokenBehind_60 : decode cX7_brokenBehind 60 = .ok (.aload_n 0, 1) := by decide +kernel
theorem dX7_brokenBehind_61 : decode cX7_brokenBehind 61 = .ok (.getfield 25, 3) := by decide +kernel
theorem dX7_brokenBehind_64 : decode cX7_brokenBehind 64 = .ok (.iload 5, 2) := by decide +kernel
theorem dX7_brokenBehind_66 : decode cX7_brokenBehind 66 = .ok (.iaload, 1) := by decide +kernel
theorem dX7_brokenBehind_67 : decode cX7_brokenBehind 67 = .ok (.if_icmp .le 12, 3) := by decide +kernel
theorem dX7_brokenBehind_70 : decode cX7_brokenBehind 70 = .ok (.iload 4, 2) := by decide +kernel
theorem dX7_brokenBehind_72 : decode cX7_brokenBehind 72 = .ok (.iconst 1, 1) := by decide +kernel
theorem dX7_brokenBehind_73 : decode cX7_brokenBehind 73 = .ok (.iload 5, 2) := by decide +kernel
theorem dX7_brokenBehind_75 : decode cX7_brokenBehind 75 = .ok (.ishl, 1) := by decide +kernel
theorem dX7_brokenBehind_76 : decode cX7_brokenBehind 76 = .ok (.ior, 1) := by decide +kernel
theorem dX7_brokenBehind_77 : decode cX7_brokenBehind 77 = .ok (.istore 4, 2) := by decide +kernel
theorem dX7_brokenBehind_79 : decode cX7_brokenBehind 79 = .ok (.iinc 5 1, 3) := by decide +kernel
theorem dX7_brokenBehind_82 : decode cX7_brokenBehind 82 = .ok (.goto (-76), 3) := by decide +kernel
theorem dX7_brokenBehind_85 : decode cX7_brokenBehind 85 = .ok (.iload 4, 2) := by decide +kernel
theorem dX7_brokenBehind_87 : decode cX7_brokenBehind 87 = .ok (.ireturn, 1) := by decide +kernel
theorem dX7_lastYear_0 : decode cX7_lastYear 0 = .ok (.iconst (-1), 1) := by decide +kernel
theorem dX7_lastYear_1 : decode cX7_lastYear 1 = .ok (.istore_n 1, 1) := by decide +kernel
theorem dX7_lastYear_2 : decode cX7_lastYear 2 = .ok (.iconst 0, 1) := by decide +kernel
theorem dX7_lastYear_3 : decode cX7_lastYear 3 = .ok (.istore_n 2, 1) := by decide +kernel
theorem dX7_lastYear_4 : decode cX7_lastYear 4 = .ok (.iload_n 2, 1) := by decide +kernel
theorem dX7_lastYear_5 : decode cX7_lastYear 5 = .ok (.aload_n 0, 1) := by decide +kernel
theorem dX7_lastYear_6 : decode cX7_lastYear 6 = .ok (.getfield 9, 3) := by decide +kernel
theorem dX7_lastYear_9 : decode cX7_lastYear 9 = .ok (.if_icmp .ge 20, 3) := by decide +kernel
theorem dX7_lastYear_12 : decode cX7_lastYear 12 = .ok (.iload_n 1, 1) := by decide +kernel
theorem dX7_lastYear_13 : decode cX7_lastYear 13 = .ok (.aload_n 0, 1) := by decide +kernel
theorem dX7_lastYear_14 : decode cX7_lastYear 14 = .ok (.getfield 15, 3) := by decide +kernel
theorem dX7_lastYear_17 : decode cX7_lastYear 17 = .ok (.iload_n 2, 1) := by decide +kernel
theorem dX7_lastYear_18 : decode cX7_lastYear 18 = .ok (.iaload, 1) := by decide +kernel
theorem dX7_lastYear_19 : decode cX7_lastYear 19 = .ok (.invokestatic 97, 3) := by decide +kernel
theorem dX7_lastYear_22 : decode cX7_lastYear 22 = .ok (.istore_n 1, 1) := by decide +kernel
theorem dX7_lastYear_23 : decode cX7_lastYear 23 = .ok (.iinc 2 1, 3) := by decide +kernel
theorem dX7_lastYear_26 : decode cX7_lastYear 26 = .ok (.goto (-22), 3) := by decide +kernel
theorem dX7_lastYear_29 : decode cX7_lastYear 29 = .ok (.iload_n 1, 1) := by decide +kernel
theorem dX7_lastYear_30 : decode cX7_lastYear 30 = .ok (.ireturn, 1) := by decide +kernel
theorem dX8_init_0 : decode cX8_init 0 = .ok (.aload_n 0, 1) := by decide +kernel
theorem dX8_init_1 : decode cX8_init 1 = .ok (.invokespecial 3, 3) := by decide +kernel
theorem dX8_init_4 : decode cX8_init 4 = .ok (.aload_n 0, 1) := by decide +kernel
theorem dX8_init_5 : decode cX8_init 5 = .ok (.iconst 0, 1) := by decide +kernel
theorem dX8_init_6 : decode cX8_init 6 = .ok (.putfield 9, 3) := by decide +kernel
theorem dX8_init_9 : decode cX8_init 9 = .ok (.aload_n 0, 1) := by decide +kernel
theorem dX8_init_10 : decode cX8_init 10 = .ok (.bipush 8, 2) := by decide +kernel
theorem dX8_init_12 : decode cX8_init 12 = .ok (.newarray .int, 2) := by decide +kernel
theorem dX8_init_14 : decode cX8_init 14 = .ok (.putfield 15, 3) := by decide +kernel
theorem dX8_init_17 : decode cX8_init 17 = .ok (.aload_n 0, 1) := by decide +kernel
theorem dX8_init_18 : decode cX8_init 18 = .ok (.bipush 8, 2) := by decide +kernel
theorem dX8_init_20 : decode cX8_init 20 = .ok (.newarray .int, 2) := by decide +kernel
theorem dX8_init_22 : decode cX8_init 22 = .ok (.putfield 19, 3) := by decide +kernel
theorem dX8_init_25 : decode cX8_init 25 = .ok (.aload_n 0, 1) := by decide +kernel
theorem dX8_init_26 : decode cX8_init 26 = .ok (.bipush 9, 2) := by decide +kernel
theorem dX8_init_28 : decode cX8_init 28 = .ok (.newarray .int, 2) := by decide +kernel
theorem dX8_init_30 : decode cX8_init 30 = .ok (.putfield 22, 3) := by decide +kernel
theorem dX8_init_33 : decode cX8_init 33 = .ok (.aload_n 0, 1) := by decide +kernel
theorem dX8_init_34 : decode cX8_init 34 = .ok (.sipush 200, 3) := by decide +kernel
theorem dX8_init_37 : decode cX8_init 37 = .ok (.newarray .int, 2) := by decide +kernel
theorem dX8_init_39 : decode cX8_init 39 = .ok (.putfield 25, 3) := by decide +kernel
theorem dX8_init_42 : decode cX8_init 42 = .ok (.aload_n 0, 1) := by decide +kernel
theorem dX8_init_43 : decode cX8_init 43 = .ok (.iconst 0, 1) := by decide +kernel
theorem dX8_init_44 : decode cX8_init 44 = .ok (.putfield 28, 3) := by decide +kernel
theorem dX8_init_47 : decode cX8_init 47 = .ok (.aload_n 0, 1) := by decide +kernel
theorem dX8_init_48 : decode cX8_init 48 = .ok (.iconst 5, 1) := by decide +kernel
theorem dX8_init_49 : decode cX8_init 49 = .ok (.newarray .int, 2) := by decide +kernel
theorem dX8_init_51 : decode cX8_init 51 = .ok (.putfield 31, 3) := by decide +kernel
theorem dX8_init_54 : decode cX8_init 54 = .ok (.aload_n 0, 1) := by decide +kernel
theorem dX8_init_55 : decode cX8_init 55 = .ok (.sipush 201, 3) := by decide +kernel
theorem dX8_init_58 : decode cX8_init 58 = .ok (.newarray .int, 2) := by decide +kernel
theorem dX8_init_60 : decode cX8_init 60 = .ok (.putfield 34, 3) := by decide +kernel
theorem dX8_init_63 : decode cX8_init 63 = .ok (.aload_n 0, 1) := by decide +kernel
theorem dX8_init_64 : decode cX8_init 64 = .ok (.sipush 201, 3) := by decide +kernel
theorem dX8_init_67 : decode cX8_init 67 = .ok (.newarray .int, 2) := by decide +kernel
theorem dX8_init_69 : decode cX8_init 69 = .ok (.putfield 37, 3) := by decide +kernel
theorem dX8_init_72 : decode cX8_init 72 = .ok (.aload_n 0, 1) := by decide +kernel
theorem dX8_init_73 : decode cX8_init 73 = .ok (.iconst 0, 1) := by decide +kernel
theorem dX8_init_74 : decode cX8_init 74 = .ok (.putfield 40, 3) := by decide +kernel
theorem dX8_init_77 : decode cX8_init 77 = .ok (.return_, 1) := by decide +kernel
theorem dX8_take_0 : decode cX8_take 0 = .ok (.aload_n 0, 1) := by decide +kernel
theorem dX8_take_1 : decode cX8_take 1 = .ok (.aload_n 1, 1) := by decide +kernel
theorem dX8_take_2 : decode cX8_take 2 = .ok (.getfield 9, 3) := by decide +kernel
theorem dX8_take_5 : decode cX8_take 5 = .ok (.putfield 9, 3) := by decide +kernel
theorem dX8_take_8 : decode cX8_take 8 = .ok (.aload_n 0, 1) := by decide +kernel
theorem dX8_take_9 : decode cX8_take 9 = .ok (.aload_n 1, 1) := by decide +kernel
theorem dX8_take_10 : decode cX8_take 10 = .ok (.getfield 28, 3) := by decide +kernel
theorem dX8_take_13 : decode cX8_take 13 = .ok (.putfield 28, 3) := by decide +kernel
theorem dX8_take_16 : decode cX8_take 16 = .ok (.aload_n 1, 1) := by decide +kernel
theorem dX8_take_17 : decode cX8_take 17 = .ok (.getfield 15, 3) := by decide +kernel
theorem dX8_take_20 : decode cX8_take 20 = .ok (.iconst 0, 1) := by decide +kernel
theorem dX8_take_21 : decode cX8_take 21 = .ok (.aload_n 0, 1) := by decide +kernel
theorem dX8_take_22 : decode cX8_take 22 = .ok (.getfield 15, 3) := by decide +kernel
theorem dX8_take_25 : decode cX8_take 25 = .ok (.iconst 0, 1) := by decide +kernel
theorem dX8_take_26 : decode cX8_take 26 = .ok (.bipush 8, 2) := by decide +kernel
theorem dX8_take_28 : decode cX8_take 28 = .ok (.invokestatic 43, 3) := by decide +kernel
theorem dX8_take_31 : decode cX8_take 31 = .ok (.aload_n 1, 1) := by decide +kernel
theorem dX8_take_32 : decode cX8_take 32 = .ok (.getfield 19, 3) := by decide +kernel
theorem dX8_take_35 : decode cX8_take 35 = .ok (.iconst 0, 1) := by decide +kernel
theorem dX8_take_36 : decode cX8_take 36 = .ok (.aload_n 0, 1) := by decide +kernel
theorem dX8_take_37 : decode cX8_take 37 = .ok (.getfield 19, 3) := by decide +kernel
theorem dX8_take_40 : decode cX8_take 40 = .ok (.iconst 0, 1) := by decide +kernel
theorem dX8_take_41 : decode cX8_take 41 = .ok (.bipush 8, 2) := by decide +kernel
theorem dX8_take_43 : decode cX8_take 43 = .ok (.invokestatic 43, 3) := by decide +kernel
theorem dX8_take_46 : decode cX8_take 46 = .ok (.aload_n 1, 1) := by decide +kernel
theorem dX8_take_47 : decode cX8_take 47 = .ok (.getfield 22, 3) := by decide +kernel
theorem dX8_take_50 : decode cX8_take 50 = .ok (.iconst 0, 1) := by decide +kernel
theorem dX8_take_51 : decode cX8_take 51 = .ok (.aload_n 0, 1) := by decide +kernel
theorem dX8_take_52 : decode cX8_take 52 = .ok (.getfield 22, 3) := by decide +kernel
theorem dX8_take_55 : decode cX8_take 55 = .ok (.iconst 0, 1) := by decide +kernel
theorem dX8_take_56 : decode cX8_take 56 = .ok (.bipush 9, 2) := by decide +kernel
theorem dX8_take_58 : decode cX8_take 58 = .ok (.invokestatic 43, 3) := by decide +kernel
theorem dX8_take_61 : decode cX8_take 61 = .ok (.aload_n 1, 1) := by decide +kernel
theorem dX8_take_62 : decode cX8_take 62 = .ok (.getfield 25, 3) := by decide +kernel
theorem dX8_take_65 : decode cX8_take 65 = .ok (.iconst 0, 1) := by decide +kernel
theorem dX8_take_66 : decode cX8_take 66 = .ok (.aload_n 0, 1) := by decide +kernel
theorem dX8_take_67 : decode cX8_take 67 = .ok (.getfield 25, 3) := by decide +kernel
theorem dX8_take_70 : decode cX8_take 70 = .ok (.iconst 0, 1) := by decide +kernel
theorem dX8_take_71 : decode cX8_take 71 = .ok (.aload_n 0, 1) := by decide +kernel
theorem dX8_take_72 : decode cX8_take 72 = .ok (.getfield 28, 3) := by decide +kernel
theorem dX8_take_75 : decode cX8_take 75 = .ok (.invokestatic 43, 3) := by decide +kernel
theorem dX8_take_78 : decode cX8_take 78 = .ok (.return_, 1) := by decide +kernel
theorem dX8_learn_0 : decode cX8_learn 0 = .ok (.aload_n 0, 1) := by decide +kernel
theorem dX8_learn_1 : decode cX8_learn 1 = .ok (.getfield 31, 3) := by decide +kernel
theorem dX8_learn_4 : decode cX8_learn 4 = .ok (.iconst 0, 1) := by decide +kernel
theorem dX8_learn_5 : decode cX8_learn 5 = .ok (.iload_n 1, 1) := by decide +kernel
theorem dX8_learn_6 : decode cX8_learn 6 = .ok (.iastore, 1) := by decide +kernel
theorem dX8_learn_7 : decode cX8_learn 7 = .ok (.aload_n 0, 1) := by decide +kernel
theorem dX8_learn_8 : decode cX8_learn 8 = .ok (.getfield 31, 3) := by decide +kernel
theorem dX8_learn_11 : decode cX8_learn 11 = .ok (.iconst 1, 1) := by decide +kernel
theorem dX8_learn_12 : decode cX8_learn 12 = .ok (.iload_n 2, 1) := by decide +kernel
theorem dX8_learn_13 : decode cX8_learn 13 = .ok (.iastore, 1) := by decide +kernel
theorem dX8_learn_14 : decode cX8_learn 14 = .ok (.aload_n 0, 1) := by decide +kernel
theorem dX8_learn_15 : decode cX8_learn 15 = .ok (.getfield 31, 3) := by decide +kernel
theorem dX8_learn_18 : decode cX8_learn 18 = .ok (.iconst 2, 1) := by decide +kernel
theorem dX8_learn_19 : decode cX8_learn 19 = .ok (.iload_n 3, 1) := by decide +kernel
theorem dX8_learn_20 : decode cX8_learn 20 = .ok (.iastore, 1) := by decide +kernel
theorem dX8_learn_21 : decode cX8_learn 21 = .ok (.aload_n 0, 1) := by decide +kernel
theorem dX8_learn_22 : decode cX8_learn 22 = .ok (.getfield 31, 3) := by decide +kernel
theorem dX8_learn_25 : decode cX8_learn 25 = .ok (.iconst 3, 1) := by decide +kernel
theorem dX8_learn_26 : decode cX8_learn 26 = .ok (.iload 4, 2) := by decide +kernel
theorem dX8_learn_28 : decode cX8_learn 28 = .ok (.iastore, 1) := by decide +kernel
theorem dX8_learn_29 : decode cX8_learn 29 = .ok (.aload_n 0, 1) := by decide +kernel
theorem dX8_learn_30 : decode cX8_learn 30 = .ok (.getfield 31, 3) := by decide +kernel
theorem dX8_learn_33 : decode cX8_learn 33 = .ok (.iconst 4, 1) := by decide +kernel
theorem dX8_learn_34 : decode cX8_learn 34 = .ok (.iload 5, 2) := by decide +kernel
theorem dX8_learn_36 : decode cX8_learn 36 = .ok (.iastore, 1) := by decide +kernel
theorem dX8_learn_37 : decode cX8_learn 37 = .ok (.return_, 1) := by decide +kernel
theorem dX8_holds_0 : decode cX8_holds 0 = .ok (.iconst 1, 1) := by decide +kernel
theorem dX8_holds_1 : decode cX8_holds 1 = .ok (.istore_n 2, 1) := by decide +kernel
theorem dX8_holds_2 : decode cX8_holds 2 = .ok (.aload_n 0, 1) := by decide +kernel
theorem dX8_holds_3 : decode cX8_holds 3 = .ok (.getfield 22, 3) := by decide +kernel
theorem dX8_holds_6 : decode cX8_holds 6 = .ok (.iload_n 1, 1) := by decide +kernel
theorem dX8_holds_7 : decode cX8_holds 7 = .ok (.iaload, 1) := by decide +kernel
theorem dX8_holds_8 : decode cX8_holds 8 = .ok (.istore_n 3, 1) := by decide +kernel
theorem dX8_holds_9 : decode cX8_holds 9 = .ok (.iload_n 3, 1) := by decide +kernel
theorem dX8_holds_10 : decode cX8_holds 10 = .ok (.aload_n 0, 1) := by decide +kernel
theorem dX8_holds_11 : decode cX8_holds 11 = .ok (.getfield 22, 3) := by decide +kernel
theorem dX8_holds_14 : decode cX8_holds 14 = .ok (.iload_n 1, 1) := by decide +kernel
theorem dX8_holds_15 : decode cX8_holds 15 = .ok (.iconst 1, 1) := by decide +kernel
theorem dX8_holds_16 : decode cX8_holds 16 = .ok (.iadd, 1) := by decide +kernel
theorem dX8_holds_17 : decode cX8_holds 17 = .ok (.iaload, 1) := by decide +kernel
theorem dX8_holds_18 : decode cX8_holds 18 = .ok (.if_icmp .ge 93, 3) := by decide +kernel
theorem dX8_holds_21 : decode cX8_holds 21 = .ok (.aload_n 0, 1) := by decide +kernel
theorem dX8_holds_22 : decode cX8_holds 22 = .ok (.getfield 25, 3) := by decide +kernel
theorem dX8_holds_25 : decode cX8_holds 25 = .ok (.iload_n 3, 1) := by decide +kernel
theorem dX8_holds_26 : decode cX8_holds 26 = .ok (.iaload, 1) := by decide +kernel
theorem dX8_holds_27 : decode cX8_holds 27 = .ok (.istore 4, 2) := by decide +kernel
theorem dX8_holds_29 : decode cX8_holds 29 = .ok (.iload 4, 2) := by decide +kernel
theorem dX8_holds_31 : decode cX8_holds 31 = .ok (.tableswitch 55 (-3) (-1) #[44, 32, 25], 25) := by decide +kernel
theorem dX8_holds_56 : decode cX8_holds 56 = .ok (.iload_n 2, 1) := by decide +kernel
theorem dX8_holds_57 : decode cX8_holds 57 = .ok (.iconst 1, 1) := by decide +kernel
theorem dX8_holds_58 : decode cX8_holds 58 = .ok (.ixor, 1) := by decide +kernel
theorem dX8_holds_59 : decode cX8_holds 59 = .ok (.istore_n 2, 1) := by decide +kernel
theorem dX8_holds_60 : decode cX8_holds 60 = .ok (.goto 45, 3) := by decide +kernel
theorem dX8_holds_63 : decode cX8_holds 63 = .ok (.iload_n 2, 1) := by decide +kernel
theorem dX8_holds_64 : decode cX8_holds 64 = .ok (.iconst 1, 1) := by decide +kernel
theorem dX8_holds_65 : decode cX8_holds 65 = .ok (.ishr, 1) := by decide +kernel
theorem dX8_holds_66 : decode cX8_holds 66 = .ok (.iload_n 2, 1) := by decide +kernel
theorem dX8_holds_67 : decode cX8_holds 67 = .ok (.bipush (-2), 2) := by decide +kernel
theorem dX8_holds_69 : decode cX8_holds 69 = .ok (.ior, 1) := by decide +kernel
theorem dX8_holds_70 : decode cX8_holds 70 = .ok (.iand, 1) := by decide +kernel
theorem dX8_holds_71 : decode cX8_holds 71 = .ok (.istore_n 2, 1) := by decide +kernel
theorem dX8_holds_72 : decode cX8_holds 72 = .ok (.goto 33, 3) := by decide +kernel
theorem dX8_holds_75 : decode cX8_holds 75 = .ok (.iload_n 2, 1) := by decide +kernel
theorem dX8_holds_76 : decode cX8_holds 76 = .ok (.iconst 1, 1) := by decide +kernel
theorem dX8_holds_77 : decode cX8_holds 77 = .ok (.ishr, 1) := by decide +kernel
theorem dX8_holds_78 : decode cX8_holds 78 = .ok (.iload_n 2, 1) := by decide +kernel
theorem dX8_holds_79 : decode cX8_holds 79 = .ok (.iconst 1, 1) := by decide +kernel
theorem dX8_holds_80 : decode cX8_holds 80 = .ok (.iand, 1) := by decide +kernel
theorem dX8_holds_81 : decode cX8_holds 81 = .ok (.ior, 1) := by decide +kernel
theorem dX8_holds_82 : decode cX8_holds 82 = .ok (.istore_n 2, 1) := by decide +kernel
theorem dX8_holds_83 : decode cX8_holds 83 = .ok (.goto 22, 3) := by decide +kernel
theorem dX8_holds_86 : decode cX8_holds 86 = .ok (.iload_n 2, 1) := by decide +kernel
theorem dX8_holds_87 : decode cX8_holds 87 = .ok (.iconst 1, 1) := by decide +kernel
theorem dX8_holds_88 : decode cX8_holds 88 = .ok (.ishl, 1) := by decide +kernel
theorem dX8_holds_89 : decode cX8_holds 89 = .ok (.aload_n 0, 1) := by decide +kernel
theorem dX8_holds_90 : decode cX8_holds 90 = .ok (.iload 4, 2) := by decide +kernel
theorem dX8_holds_92 : decode cX8_holds 92 = .ok (.invokevirtual 49, 3) := by decide +kernel
theorem dX8_holds_95 : decode cX8_holds 95 = .ok (.ifCond .eq 7, 3) := by decide +kernel
theorem dX8_holds_98 : decode cX8_holds 98 = .ok (.iconst 1, 1) := by decide +kernel
theorem dX8_holds_99 : decode cX8_holds 99 = .ok (.goto 4, 3) := by decide +kernel
theorem dX8_holds_102 : decode cX8_holds 102 = .ok (.iconst 0, 1) := by decide +kernel
theorem dX8_holds_103 : decode cX8_holds 103 = .ok (.ior, 1) := by decide +kernel
theorem dX8_holds_104 : decode cX8_holds 104 = .ok (.istore_n 2, 1) := by decide +kernel
theorem dX8_holds_105 : decode cX8_holds 105 = .ok (.iinc 3 1, 3) := by decide +kernel
theorem dX8_holds_108 : decode cX8_holds 108 = .ok (.goto (-99), 3) := by decide +kernel
theorem dX8_holds_111 : decode cX8_holds 111 = .ok (.iload_n 2, 1) := by decide +kernel
theorem dX8_holds_112 : decode cX8_holds 112 = .ok (.iconst 1, 1) := by decide +kernel
theorem dX8_holds_113 : decode cX8_holds 113 = .ok (.iand, 1) := by decide +kernel
theorem dX8_holds_114 : decode cX8_holds 114 = .ok (.ifCond .eq 7, 3) := by decide +kernel
theorem dX8_holds_117 : decode cX8_holds 117 = .ok (.iconst 1, 1) := by decide +kernel
theorem dX8_holds_118 : decode cX8_holds 118 = .ok (.goto 4, 3) := by decide +kernel
theorem dX8_holds_121 : decode cX8_holds 121 = .ok (.iconst 0, 1) := by decide +kernel
theorem dX8_holds_122 : decode cX8_holds 122 = .ok (.ireturn, 1) := by decide +kernel
theorem dX8_compares_0 : decode cX8_compares 0 = .ok (.iload_n 1, 1) := by decide +kernel
theorem dX8_compares_1 : decode cX8_compares 1 = .ok (.bipush 14, 2) := by decide +kernel
theorem dX8_compares_3 : decode cX8_compares 3 = .ok (.ishr, 1) := by decide +kernel
theorem dX8_compares_4 : decode cX8_compares 4 = .ok (.sipush 16383, 3) := by decide +kernel
theorem dX8_compares_7 : decode cX8_compares 7 = .ok (.iand, 1) := by decide +kernel
theorem dX8_compares_8 : decode cX8_compares 8 = .ok (.istore_n 2, 1) := by decide +kernel
theorem dX8_compares_9 : decode cX8_compares 9 = .ok (.iload_n 1, 1) := by decide +kernel
theorem dX8_compares_10 : decode cX8_compares 10 = .ok (.sipush 16383, 3) := by decide +kernel
theorem dX8_compares_13 : decode cX8_compares 13 = .ok (.iand, 1) := by decide +kernel
theorem dX8_compares_14 : decode cX8_compares 14 = .ok (.istore_n 3, 1) := by decide +kernel
theorem dX8_compares_15 : decode cX8_compares 15 = .ok (.iload_n 2, 1) := by decide +kernel
theorem dX8_compares_16 : decode cX8_compares 16 = .ok (.sipush 10000, 3) := by decide +kernel
theorem dX8_compares_19 : decode cX8_compares 19 = .ok (.isub, 1) := by decide +kernel
theorem dX8_compares_20 : decode cX8_compares 20 = .ok (.istore 4, 2) := by decide +kernel
theorem dX8_compares_22 : decode cX8_compares 22 = .ok (.iload_n 3, 1) := by decide +kernel
theorem dX8_compares_23 : decode cX8_compares 23 = .ok (.sipush 10000, 3) := by decide +kernel
theorem dX8_compares_26 : decode cX8_compares 26 = .ok (.isub, 1) := by decide +kernel
theorem dX8_compares_27 : decode cX8_compares 27 = .ok (.istore 5, 2) := by decide +kernel
theorem dX8_compares_29 : decode cX8_compares 29 = .ok (.iload 4, 2) := by decide +kernel
theorem dX8_compares_31 : decode cX8_compares 31 = .ok (.ifCond .lt 17, 3) := by decide +kernel
theorem dX8_compares_34 : decode cX8_compares 34 = .ok (.iload 4, 2) := by decide +kernel
theorem dX8_compares_36 : decode cX8_compares 36 = .ok (.iconst 5, 1) := by decide +kernel
theorem dX8_compares_37 : decode cX8_compares 37 = .ok (.if_icmp .ge 11, 3) := by decide +kernel
theorem dX8_compares_40 : decode cX8_compares 40 = .ok (.aload_n 0, 1) := by decide +kernel
theorem dX8_compares_41 : decode cX8_compares 41 = .ok (.getfield 31, 3) := by decide +kernel
theorem dX8_compares_44 : decode cX8_compares 44 = .ok (.iload 4, 2) := by decide +kernel
theorem dX8_compares_46 : decode cX8_compares 46 = .ok (.iaload, 1) := by decide +kernel
theorem dX8_compares_47 : decode cX8_compares 47 = .ok (.istore_n 2, 1) := by decide +kernel
theorem dX8_compares_48 : decode cX8_compares 48 = .ok (.iload 5, 2) := by decide +kernel
theorem dX8_compares_50 : decode cX8_compares 50 = .ok (.ifCond .lt 17, 3) := by decide +kernel
theorem dX8_compares_53 : decode cX8_compares 53 = .ok (.iload 5, 2) := by decide +kernel
theorem dX8_compares_55 : decode cX8_compares 55 = .ok (.iconst 5, 1) := by decide +kernel
theorem dX8_compares_56 : decode cX8_compares 56 = .ok (.if_icmp .ge 11, 3) := by decide +kernel
theorem dX8_compares_59 : decode cX8_compares 59 = .ok (.aload_n 0, 1) := by decide +kernel
theorem dX8_compares_60 : decode cX8_compares 60 = .ok (.getfield 31, 3) := by decide +kernel
theorem dX8_compares_63 : decode cX8_compares 63 = .ok (.iload 5, 2) := by decide +kernel
theorem dX8_compares_65 : decode cX8_compares 65 = .ok (.iaload, 1) := by decide +kernel
theorem dX8_compares_66 : decode cX8_compares 66 = .ok (.istore_n 3, 1) := by decide +kernel
theorem dX8_compares_67 : decode cX8_compares 67 = .ok (.iload_n 1, 1) := by decide +kernel
theorem dX8_compares_68 : decode cX8_compares 68 = .ok (.bipush 28, 2) := by decide +kernel
theorem dX8_compares_70 : decode cX8_compares 70 = .ok (.ishr, 1) := by decide +kernel
theorem dX8_compares_71 : decode cX8_compares 71 = .ok (.lookupswitch 47 #[(0, 25), (1, 36)], 25) := by decide +kernel
theorem dX8_compares_96 : decode cX8_compares 96 = .ok (.iload_n 2, 1) := by decide +kernel
theorem dX8_compares_97 : decode cX8_compares 97 = .ok (.iload_n 3, 1) := by decide +kernel
theorem dX8_compares_98 : decode cX8_compares 98 = .ok (.if_icmp .ge 7, 3) := by decide +kernel
theorem dX8_compares_101 : decode cX8_compares 101 = .ok (.iconst 1, 1) := by decide +kernel
theorem dX8_compares_102 : decode cX8_compares 102 = .ok (.goto 4, 3) := by decide +kernel
theorem dX8_compares_105 : decode cX8_compares 105 = .ok (.iconst 0, 1) := by decide +kernel
theorem dX8_compares_106 : decode cX8_compares 106 = .ok (.ireturn, 1) := by decide +kernel
theorem dX8_compares_107 : decode cX8_compares 107 = .ok (.iload_n 2, 1) := by decide +kernel
theorem dX8_compares_108 : decode cX8_compares 108 = .ok (.iload_n 3, 1) := by decide +kernel
theorem dX8_compares_109 : decode cX8_compares 109 = .ok (.if_icmp .ne 7, 3) := by decide +kernel
theorem dX8_compares_112 : decode cX8_compares 112 = .ok (.iconst 1, 1) := by decide +kernel
theorem dX8_compares_113 : decode cX8_compares 113 = .ok (.goto 4, 3) := by decide +kernel
theorem dX8_compares_116 : decode cX8_compares 116 = .ok (.iconst 0, 1) := by decide +kernel
theorem dX8_compares_117 : decode cX8_compares 117 = .ok (.ireturn, 1) := by decide +kernel
theorem dX8_compares_118 : decode cX8_compares 118 = .ok (.iload_n 2, 1) := by decide +kernel
theorem dX8_compares_119 : decode cX8_compares 119 = .ok (.iload_n 3, 1) := by decide +kernel
theorem dX8_compares_120 : decode cX8_compares 120 = .ok (.if_icmp .le 7, 3) := by decide +kernel
theorem dX8_compares_123 : decode cX8_compares 123 = .ok (.iconst 1, 1) := by decide +kernel
theorem dX8_compares_124 : decode cX8_compares 124 = .ok (.goto 4, 3) := by decide +kernel
theorem dX8_compares_127 : decode cX8_compares 127 = .ok (.iconst 0, 1) := by decide +kernel
theorem dX8_compares_128 : decode cX8_compares 128 = .ok (.ireturn, 1) := by decide +kernel
theorem dX8_readText_0 : decode cX8_readText 0 = .ok (.aload_n 0, 1) := by decide +kernel
theorem dX8_readText_1 : decode cX8_readText 1 = .ok (.aload_n 1, 1) := by decide +kernel
theorem dX8_readText_2 : decode cX8_readText 2 = .ok (.iload_n 2, 1) := by decide +kernel
theorem dX8_readText_3 : decode cX8_readText 3 = .ok (.invokevirtual 53, 3) := by decide +kernel
theorem dX8_readText_6 : decode cX8_readText 6 = .ok (.aload_n 0, 1) := by decide +kernel
theorem dX8_readText_7 : decode cX8_readText 7 = .ok (.iconst 0, 1) := by decide +kernel
theorem dX8_readText_8 : decode cX8_readText 8 = .ok (.putfield 40, 3) := by decide +kernel
theorem dX8_readText_11 : decode cX8_readText 11 = .ok (.aload_n 0, 1) := by decide +kernel
theorem dX8_readText_12 : decode cX8_readText 12 = .ok (.iconst 0, 1) := by decide +kernel
theorem dX8_readText_13 : decode cX8_readText 13 = .ok (.putfield 9, 3) := by decide +kernel
theorem dX8_readText_16 : decode cX8_readText 16 = .ok (.aload_n 0, 1) := by decide +kernel
theorem dX8_readText_17 : decode cX8_readText 17 = .ok (.iconst 0, 1) := by decide +kernel
theorem dX8_readText_18 : decode cX8_readText 18 = .ok (.putfield 28, 3) := by decide +kernel
theorem dX8_readText_21 : decode cX8_readText 21 = .ok (.iconst 0, 1) := by decide +kernel
theorem dX8_readText_22 : decode cX8_readText 22 = .ok (.istore_n 3, 1) := by decide +kernel
theorem dX8_readText_23 : decode cX8_readText 23 = .ok (.iload_n 3, 1) := by decide +kernel
theorem dX8_readText_24 : decode cX8_readText 24 = .ok (.bipush 8, 2) := by decide +kernel
theorem dX8_readText_26 : decode cX8_readText 26 = .ok (.if_icmp .ge 43, 3) := by decide +kernel
theorem dX8_readText_29 : decode cX8_readText 29 = .ok (.aload_n 0, 1) := by decide +kernel
theorem dX8_readText_30 : decode cX8_readText 30 = .ok (.getfield 34, 3) := by decide +kernel
theorem dX8_readText_33 : decode cX8_readText 33 = .ok (.aload_n 0, 1) := by decide +kernel
theorem dX8_readText_34 : decode cX8_readText 34 = .ok (.getfield 40, 3) := by decide +kernel
theorem dX8_readText_37 : decode cX8_readText 37 = .ok (.iaload, 1) := by decide +kernel
theorem dX8_readText_38 : decode cX8_readText 38 = .ok (.bipush 27, 2) := by decide +kernel
theorem dX8_readText_40 : decode cX8_readText 40 = .ok (.if_icmp .eq 29, 3) := by decide +kernel
theorem dX8_readText_43 : decode cX8_readText 43 = .ok (.aload_n 0, 1) := by decide +kernel
theorem dX8_readText_44 : decode cX8_readText 44 = .ok (.invokevirtual 57, 3) := by decide +kernel
theorem dX8_readText_47 : decode cX8_readText 47 = .ok (.ifCond .ne 16, 3) := by decide +kernel
theorem dX8_readText_50 : decode cX8_readText 50 = .ok (.bipush (-100), 2) := by decide +kernel
theorem dX8_readText_52 : decode cX8_readText 52 = .ok (.aload_n 0, 1) := by decide +kernel
theorem dX8_readText_53 : decode cX8_readText 53 = .ok (.getfield 37, 3) := by decide +kernel
theorem dX8_readText_56 : decode cX8_readText 56 = .ok (.aload_n 0, 1) := by decide +kernel
theorem dX8_readText_57 : decode cX8_readText 57 = .ok (.getfield 40, 3) := by decide +kernel
theorem dX8_readText_60 : decode cX8_readText 60 = .ok (.iaload, 1) := by decide +kernel
theorem dX8_readText_61 : decode cX8_readText 61 = .ok (.isub, 1) := by decide +kernel
theorem dX8_readText_62 : decode cX8_readText 62 = .ok (.ireturn, 1) := by decide +kernel
theorem dX8_readText_63 : decode cX8_readText 63 = .ok (.iinc 3 1, 3) := by decide +kernel
theorem dX8_readText_66 : decode cX8_readText 66 = .ok (.goto (-43), 3) := by decide +kernel
theorem dX8_readText_69 : decode cX8_readText 69 = .ok (.aload_n 0, 1) := by decide +kernel
theorem dX8_readText_70 : decode cX8_readText 70 = .ok (.getfield 34, 3) := by decide +kernel
theorem dX8_readText_73 : decode cX8_readText 73 = .ok (.aload_n 0, 1) := by decide +kernel
theorem dX8_readText_74 : decode cX8_readText 74 = .ok (.getfield 40, 3) := by decide +kernel
theorem dX8_readText_77 : decode cX8_readText 77 = .ok (.iaload, 1) := by decide +kernel
theorem dX8_readText_78 : decode cX8_readText 78 = .ok (.bipush 27, 2) := by decide +kernel
theorem dX8_readText_80 : decode cX8_readText 80 = .ok (.if_icmp .ne 10, 3) := by decide +kernel
theorem dX8_readText_83 : decode cX8_readText 83 = .ok (.aload_n 0, 1) := by decide +kernel
theorem dX8_readText_84 : decode cX8_readText 84 = .ok (.getfield 9, 3) := by decide +kernel
theorem dX8_readText_87 : decode cX8_readText 87 = .ok (.goto 15, 3) := by decide +kernel
theorem dX8_readText_90 : decode cX8_readText 90 = .ok (.bipush (-100), 2) := by decide +kernel
theorem dX8_readText_92 : decode cX8_readText 92 = .ok (.aload_n 0, 1) := by decide +kernel
theorem dX8_readText_93 : decode cX8_readText 93 = .ok (.getfield 37, 3) := by decide +kernel
theorem dX8_readText_96 : decode cX8_readText 96 = .ok (.aload_n 0, 1) := by decide +kernel
theorem dX8_readText_97 : decode cX8_readText 97 = .ok (.getfield 40, 3) := by decide +kernel
theorem dX8_readText_100 : decode cX8_readText 100 = .ok (.iaload, 1) := by decide +kernel
theorem dX8_readText_101 : decode cX8_readText 101 = .ok (.isub, 1) := by decide +kernel
theorem dX8_readText_102 : decode cX8_readText 102 = .ok (.ireturn, 1) := by decide +kernel
theorem dX8_split_0 : decode cX8_split 0 = .ok (.iconst 0, 1) := by decide +kernel
theorem dX8_split_1 : decode cX8_split 1 = .ok (.istore_n 3, 1) := by decide +kernel
theorem dX8_split_2 : decode cX8_split 2 = .ok (.iconst 0, 1) := by decide +kernel
theorem dX8_split_3 : decode cX8_split 3 = .ok (.istore 4, 2) := by decide +kernel
theorem dX8_split_5 : decode cX8_split 5 = .ok (.iconst 0, 1) := by decide +kernel
theorem dX8_split_6 : decode cX8_split 6 = .ok (.istore 5, 2) := by decide +kernel
theorem dX8_split_8 : decode cX8_split 8 = .ok (.iload 5, 2) := by decide +kernel
theorem dX8_split_10 : decode cX8_split 10 = .ok (.sipush 200, 3) := by decide +kernel
theorem dX8_split_13 : decode cX8_split 13 = .ok (.if_icmp .ge 62, 3) := by decide +kernel
theorem dX8_split_16 : decode cX8_split 16 = .ok (.iload 4, 2) := by decide +kernel
theorem dX8_split_18 : decode cX8_split 18 = .ok (.iload_n 2, 1) := by decide +kernel
theorem dX8_split_19 : decode cX8_split 19 = .ok (.if_icmp .ge 56, 3) := by decide +kernel
theorem dX8_split_22 : decode cX8_split 22 = .ok (.aload_n 1, 1) := by decide +kernel
theorem dX8_split_23 : decode cX8_split 23 = .ok (.iload 4, 2) := by decide +kernel
theorem dX8_split_25 : decode cX8_split 25 = .ok (.iload_n 2, 1) := by decide +kernel
theorem dX8_split_26 : decode cX8_split 26 = .ok (.invokestatic 61, 3) := by decide +kernel
theorem dX8_split_29 : decode cX8_split 29 = .ok (.istore 6, 2) := by decide +kernel
theorem dX8_split_31 : decode cX8_split 31 = .ok (.aload_n 1, 1) := by decide +kernel
theorem dX8_split_32 : decode cX8_split 32 = .ok (.iload 4, 2) := by decide +kernel
theorem dX8_split_34 : decode cX8_split 34 = .ok (.baload, 1) := by decide +kernel
theorem dX8_split_35 : decode cX8_split 35 = .ok (.bipush 32, 2) := by decide +kernel
theorem dX8_split_37 : decode cX8_split 37 = .ok (.if_icmp .eq 28, 3) := by decide +kernel
theorem dX8_split_40 : decode cX8_split 40 = .ok (.aload_n 0, 1) := by decide +kernel
theorem dX8_split_41 : decode cX8_split 41 = .ok (.getfield 34, 3) := by decide +kernel
theorem dX8_split_44 : decode cX8_split 44 = .ok (.iload_n 3, 1) := by decide +kernel
theorem dX8_split_45 : decode cX8_split 45 = .ok (.aload_n 1, 1) := by decide +kernel
theorem dX8_split_46 : decode cX8_split 46 = .ok (.iload 4, 2) := by decide +kernel
theorem dX8_split_48 : decode cX8_split 48 = .ok (.iload 6, 2) := by decide +kernel
theorem dX8_split_50 : decode cX8_split 50 = .ok (.invokestatic 65, 3) := by decide +kernel
theorem dX8_split_53 : decode cX8_split 53 = .ok (.iastore, 1) := by decide +kernel
theorem dX8_split_54 : decode cX8_split 54 = .ok (.aload_n 0, 1) := by decide +kernel
theorem dX8_split_55 : decode cX8_split 55 = .ok (.getfield 37, 3) := by decide +kernel
theorem dX8_split_58 : decode cX8_split 58 = .ok (.iload_n 3, 1) := by decide +kernel
theorem dX8_split_59 : decode cX8_split 59 = .ok (.iload 4, 2) := by decide +kernel
theorem dX8_split_61 : decode cX8_split 61 = .ok (.iastore, 1) := by decide +kernel
theorem dX8_split_62 : decode cX8_split 62 = .ok (.iinc 3 1, 3) := by decide +kernel
theorem dX8_split_65 : decode cX8_split 65 = .ok (.iload 6, 2) := by decide +kernel
theorem dX8_split_67 : decode cX8_split 67 = .ok (.istore 4, 2) := by decide +kernel
theorem dX8_split_69 : decode cX8_split 69 = .ok (.iinc 5 1, 3) := by decide +kernel
theorem dX8_split_72 : decode cX8_split 72 = .ok (.goto (-64), 3) := by decide +kernel
theorem dX8_split_75 : decode cX8_split 75 = .ok (.aload_n 0, 1) := by decide +kernel
theorem dX8_split_76 : decode cX8_split 76 = .ok (.getfield 34, 3) := by decide +kernel
theorem dX8_split_79 : decode cX8_split 79 = .ok (.iload_n 3, 1) := by decide +kernel
theorem dX8_split_80 : decode cX8_split 80 = .ok (.bipush 27, 2) := by decide +kernel
theorem dX8_split_82 : decode cX8_split 82 = .ok (.iastore, 1) := by decide +kernel
theorem dX8_split_83 : decode cX8_split 83 = .ok (.aload_n 0, 1) := by decide +kernel
theorem dX8_split_84 : decode cX8_split 84 = .ok (.getfield 37, 3) := by decide +kernel
theorem dX8_split_87 : decode cX8_split 87 = .ok (.iload_n 3, 1) := by decide +kernel
theorem dX8_split_88 : decode cX8_split 88 = .ok (.iload_n 2, 1) := by decide +kernel
theorem dX8_split_89 : decode cX8_split 89 = .ok (.iastore, 1) := by decide +kernel
theorem dX8_split_90 : decode cX8_split 90 = .ok (.return_, 1) := by decide +kernel
theorem dX8_endOf_0 : decode cX8_endOf 0 = .ok (.iload_n 1, 1) := by decide +kernel
theorem dX8_endOf_1 : decode cX8_endOf 1 = .ok (.iconst 1, 1) := by decide +kernel
theorem dX8_endOf_2 : decode cX8_endOf 2 = .ok (.iadd, 1) := by decide +kernel
theorem dX8_endOf_3 : decode cX8_endOf 3 = .ok (.istore_n 3, 1) := by decide +kernel
theorem dX8_endOf_4 : decode cX8_endOf 4 = .ok (.aload_n 0, 1) := by decide +kernel
theorem dX8_endOf_5 : decode cX8_endOf 5 = .ok (.iload_n 1, 1) := by decide +kernel
theorem dX8_endOf_6 : decode cX8_endOf 6 = .ok (.baload, 1) := by decide +kernel
theorem dX8_endOf_7 : decode cX8_endOf 7 = .ok (.invokestatic 68, 3) := by decide +kernel
theorem dX8_endOf_10 : decode cX8_endOf 10 = .ok (.ifCond .eq 23, 3) := by decide +kernel
theorem dX8_endOf_13 : decode cX8_endOf 13 = .ok (.iload_n 3, 1) := by decide +kernel
theorem dX8_endOf_14 : decode cX8_endOf 14 = .ok (.iload_n 2, 1) := by decide +kernel
theorem dX8_endOf_15 : decode cX8_endOf 15 = .ok (.if_icmp .ge 47, 3) := by decide +kernel
theorem dX8_endOf_18 : decode cX8_endOf 18 = .ok (.aload_n 0, 1) := by decide +kernel
theorem dX8_endOf_19 : decode cX8_endOf 19 = .ok (.iload_n 3, 1) := by decide +kernel
theorem dX8_endOf_20 : decode cX8_endOf 20 = .ok (.baload, 1) := by decide +kernel
theorem dX8_endOf_21 : decode cX8_endOf 21 = .ok (.invokestatic 68, 3) := by decide +kernel
theorem dX8_endOf_24 : decode cX8_endOf 24 = .ok (.ifCond .eq 38, 3) := by decide +kernel
theorem dX8_endOf_27 : decode cX8_endOf 27 = .ok (.iinc 3 1, 3) := by decide +kernel
theorem dX8_endOf_30 : decode cX8_endOf 30 = .ok (.goto (-17), 3) := by decide +kernel
theorem dX8_endOf_33 : decode cX8_endOf 33 = .ok (.aload_n 0, 1) := by decide +kernel
theorem dX8_endOf_34 : decode cX8_endOf 34 = .ok (.iload_n 1, 1) := by decide +kernel
theorem dX8_endOf_35 : decode cX8_endOf 35 = .ok (.baload, 1) := by decide +kernel
theorem dX8_endOf_36 : decode cX8_endOf 36 = .ok (.invokestatic 72, 3) := by decide +kernel
theorem dX8_endOf_39 : decode cX8_endOf 39 = .ok (.ifCond .eq 23, 3) := by decide +kernel
theorem dX8_endOf_42 : decode cX8_endOf 42 = .ok (.iload_n 3, 1) := by decide +kernel
theorem dX8_endOf_43 : decode cX8_endOf 43 = .ok (.iload_n 2, 1) := by decide +kernel
theorem dX8_endOf_44 : decode cX8_endOf 44 = .ok (.if_icmp .ge 18, 3) := by decide +kernel
theorem dX8_endOf_47 : decode cX8_endOf 47 = .ok (.aload_n 0, 1) := by decide +kernel
theorem dX8_endOf_48 : decode cX8_endOf 48 = .ok (.iload_n 3, 1) := by decide +kernel
theorem dX8_endOf_49 : decode cX8_endOf 49 = .ok (.baload, 1) := by decide +kernel
theorem dX8_endOf_50 : decode cX8_endOf 50 = .ok (.invokestatic 72, 3) := by decide +kernel
theorem dX8_endOf_53 : decode cX8_endOf 53 = .ok (.ifCond .eq 9, 3) := by decide +kernel
theorem dX8_endOf_56 : decode cX8_endOf 56 = .ok (.iinc 3 1, 3) := by decide +kernel
theorem dX8_endOf_59 : decode cX8_endOf 59 = .ok (.goto (-17), 3) := by decide +kernel
theorem dX8_endOf_62 : decode cX8_endOf 62 = .ok (.iload_n 3, 1) := by decide +kernel
theorem dX8_endOf_63 : decode cX8_endOf 63 = .ok (.ireturn, 1) := by decide +kernel
theorem dX8_tokenOf_0 : decode cX8_tokenOf 0 = .ok (.aload_n 0, 1) := by decide +kernel
theorem dX8_tokenOf_1 : decode cX8_tokenOf 1 = .ok (.iload_n 1, 1) := by decide +kernel
theorem dX8_tokenOf_2 : decode cX8_tokenOf 2 = .ok (.baload, 1) := by decide +kernel
theorem dX8_tokenOf_3 : decode cX8_tokenOf 3 = .ok (.invokestatic 68, 3) := by decide +kernel
theorem dX8_tokenOf_6 : decode cX8_tokenOf 6 = .ok (.ifCond .eq 10, 3) := by decide +kernel
theorem dX8_tokenOf_9 : decode cX8_tokenOf 9 = .ok (.aload_n 0, 1) := by decide +kernel
theorem dX8_tokenOf_10 : decode cX8_tokenOf 10 = .ok (.iload_n 1, 1) := by decide +kernel
theorem dX8_tokenOf_11 : decode cX8_tokenOf 11 = .ok (.iload_n 2, 1) := by decide +kernel
theorem dX8_tokenOf_12 : decode cX8_tokenOf 12 = .ok (.invokestatic 75, 3) := by decide +kernel
theorem dX8_tokenOf_15 : decode cX8_tokenOf 15 = .ok (.ireturn, 1) := by decide +kernel
theorem dX8_tokenOf_16 : decode cX8_tokenOf 16 = .ok (.aload_n 0, 1) := by decide +kernel
theorem dX8_tokenOf_17 : decode cX8_tokenOf 17 = .ok (.iload_n 1, 1) := by decide +kernel
theorem dX8_tokenOf_18 : decode cX8_tokenOf 18 = .ok (.baload, 1) := by decide +kernel
theorem dX8_tokenOf_19 : decode cX8_tokenOf 19 = .ok (.invokestatic 72, 3) := by decide +kernel
theorem dX8_tokenOf_22 : decode cX8_tokenOf 22 = .ok (.ifCond .eq 10, 3) := by decide +kernel
theorem dX8_tokenOf_25 : decode cX8_tokenOf 25 = .ok (.aload_n 0, 1) := by decide +kernel
theorem dX8_tokenOf_26 : decode cX8_tokenOf 26 = .ok (.iload_n 1, 1) := by decide +kernel
theorem dX8_tokenOf_27 : decode cX8_tokenOf 27 = .ok (.iload_n 2, 1) := by decide +kernel
theorem dX8_tokenOf_28 : decode cX8_tokenOf 28 = .ok (.invokestatic 78, 3) := by decide +kernel
theorem dX8_tokenOf_31 : decode cX8_tokenOf 31 = .ok (.ireturn, 1) := by decide +kernel
theorem dX8_tokenOf_32 : decode cX8_tokenOf 32 = .ok (.aload_n 0, 1) := by decide +kernel
theorem dX8_tokenOf_33 : decode cX8_tokenOf 33 = .ok (.iload_n 1, 1) := by decide +kernel
theorem dX8_tokenOf_34 : decode cX8_tokenOf 34 = .ok (.baload, 1) := by decide +kernel
theorem dX8_tokenOf_35 : decode cX8_tokenOf 35 = .ok (.lookupswitch 75 #[(40, 66), (41, 69), (59, 72), (60, 57), (61, 60), (62, 63)], 57) := by decide +kernel
theorem dX8_tokenOf_92 : decode cX8_tokenOf 92 = .ok (.bipush 20, 2) := by decide +kernel
theorem dX8_tokenOf_94 : decode cX8_tokenOf 94 = .ok (.ireturn, 1) := by decide +kernel
theorem dX8_tokenOf_95 : decode cX8_tokenOf 95 = .ok (.bipush 21, 2) := by decide +kernel
theorem dX8_tokenOf_97 : decode cX8_tokenOf 97 = .ok (.ireturn, 1) := by decide +kernel
theorem dX8_tokenOf_98 : decode cX8_tokenOf 98 = .ok (.bipush 22, 2) := by decide +kernel
theorem dX8_tokenOf_100 : decode cX8_tokenOf 100 = .ok (.ireturn, 1) := by decide +kernel
theorem dX8_tokenOf_101 : decode cX8_tokenOf 101 = .ok (.bipush 23, 2) := by decide +kernel
theorem dX8_tokenOf_103 : decode cX8_tokenOf 103 = .ok (.ireturn, 1) := by decide +kernel
theorem dX8_tokenOf_104 : decode cX8_tokenOf 104 = .ok (.bipush 24, 2) := by decide +kernel
theorem dX8_tokenOf_106 : decode cX8_tokenOf 106 = .ok (.ireturn, 1) := by decide +kernel
theorem dX8_tokenOf_107 : decode cX8_tokenOf 107 = .ok (.bipush 25, 2) := by decide +kernel
theorem dX8_tokenOf_109 : decode cX8_tokenOf 109 = .ok (.ireturn, 1) := by decide +kernel
theorem dX8_tokenOf_110 : decode cX8_tokenOf 110 = .ok (.bipush 26, 2) := by decide +kernel
theorem dX8_tokenOf_112 : decode cX8_tokenOf 112 = .ok (.ireturn, 1) := by decide +kernel
theorem dX8_wordOf_0 : decode cX8_wordOf 0 = .ok (.iconst 0, 1) := by decide +kernel
theorem dX8_wordOf_1 : decode cX8_wordOf 1 = .ok (.istore_n 3, 1) := by decide +kernel
theorem dX8_wordOf_2 : decode cX8_wordOf 2 = .ok (.iconst 0, 1) := by decide +kernel
theorem dX8_wordOf_3 : decode cX8_wordOf 3 = .ok (.istore 4, 2) := by decide +kernel
theorem dX8_wordOf_5 : decode cX8_wordOf 5 = .ok (.iconst 0, 1) := by decide +kernel
theorem dX8_wordOf_6 : decode cX8_wordOf 6 = .ok (.istore 5, 2) := by decide +kernel
theorem dX8_wordOf_8 : decode cX8_wordOf 8 = .ok (.iload 5, 2) := by decide +kernel
theorem dX8_wordOf_10 : decode cX8_wordOf 10 = .ok (.ldc 81, 2) := by decide +kernel
theorem dX8_wordOf_12 : decode cX8_wordOf 12 = .ok (.invokevirtual 83, 3) := by decide +kernel
theorem dX8_wordOf_15 : decode cX8_wordOf 15 = .ok (.if_icmp .ge 58, 3) := by decide +kernel
theorem dX8_wordOf_18 : decode cX8_wordOf 18 = .ok (.ldc 81, 2) := by decide +kernel
theorem dX8_wordOf_20 : decode cX8_wordOf 20 = .ok (.iload 5, 2) := by decide +kernel
theorem dX8_wordOf_22 : decode cX8_wordOf 22 = .ok (.invokevirtual 89, 3) := by decide +kernel
theorem dX8_wordOf_25 : decode cX8_wordOf 25 = .ok (.bipush 32, 2) := by decide +kernel
theorem dX8_wordOf_27 : decode cX8_wordOf 27 = .ok (.if_icmp .eq 6, 3) := by decide +kernel
theorem dX8_wordOf_30 : decode cX8_wordOf 30 = .ok (.goto 37, 3) := by decide +kernel
theorem dX8_wordOf_33 : decode cX8_wordOf 33 = .ok (.iload 5, 2) := by decide +kernel
theorem dX8_wordOf_35 : decode cX8_wordOf 35 = .ok (.iload 4, 2) := by decide +kernel
theorem dX8_wordOf_37 : decode cX8_wordOf 37 = .ok (.isub, 1) := by decide +kernel
theorem dX8_wordOf_38 : decode cX8_wordOf 38 = .ok (.iload_n 2, 1) := by decide +kernel
theorem dX8_wordOf_39 : decode cX8_wordOf 39 = .ok (.iload_n 1, 1) := by decide +kernel
theorem dX8_wordOf_40 : decode cX8_wordOf 40 = .ok (.isub, 1) := by decide +kernel
theorem dX8_wordOf_41 : decode cX8_wordOf 41 = .ok (.if_icmp .ne 17, 3) := by decide +kernel
theorem dX8_wordOf_44 : decode cX8_wordOf 44 = .ok (.aload_n 0, 1) := by decide +kernel
theorem dX8_wordOf_45 : decode cX8_wordOf 45 = .ok (.iload_n 1, 1) := by decide +kernel
theorem dX8_wordOf_46 : decode cX8_wordOf 46 = .ok (.iload 4, 2) := by decide +kernel
theorem dX8_wordOf_48 : decode cX8_wordOf 48 = .ok (.iload 5, 2) := by decide +kernel
theorem dX8_wordOf_50 : decode cX8_wordOf 50 = .ok (.invokestatic 93, 3) := by decide +kernel
theorem dX8_wordOf_53 : decode cX8_wordOf 53 = .ok (.ifCond .eq 5, 3) := by decide +kernel
theorem dX8_wordOf_56 : decode cX8_wordOf 56 = .ok (.iload_n 3, 1) := by decide +kernel
theorem dX8_wordOf_57 : decode cX8_wordOf 57 = .ok (.ireturn, 1) := by decide +kernel
theorem dX8_wordOf_58 : decode cX8_wordOf 58 = .ok (.iload 5, 2) := by decide +kernel
theorem dX8_wordOf_60 : decode cX8_wordOf 60 = .ok (.iconst 1, 1) := by decide +kernel
theorem dX8_wordOf_61 : decode cX8_wordOf 61 = .ok (.iadd, 1) := by decide +kernel
theorem dX8_wordOf_62 : decode cX8_wordOf 62 = .ok (.istore 4, 2) := by decide +kernel
theorem dX8_wordOf_64 : decode cX8_wordOf 64 = .ok (.iinc 3 1, 3) := by decide +kernel
theorem dX8_wordOf_67 : decode cX8_wordOf 67 = .ok (.iinc 5 1, 3) := by decide +kernel
theorem dX8_wordOf_70 : decode cX8_wordOf 70 = .ok (.goto (-62), 3) := by decide +kernel
theorem dX8_wordOf_73 : decode cX8_wordOf 73 = .ok (.bipush 26, 2) := by decide +kernel
theorem dX8_wordOf_75 : decode cX8_wordOf 75 = .ok (.ireturn, 1) := by decide +kernel
theorem dX8_spells_0 : decode cX8_spells 0 = .ok (.iload_n 2, 1) := by decide +kernel
theorem dX8_spells_1 : decode cX8_spells 1 = .ok (.istore 4, 2) := by decide +kernel
theorem dX8_spells_3 : decode cX8_spells 3 = .ok (.iload 4, 2) := by decide +kernel
theorem dX8_spells_5 : decode cX8_spells 5 = .ok (.iload_n 3, 1) := by decide +kernel
theorem dX8_spells_6 : decode cX8_spells 6 = .ok (.if_icmp .ge 29, 3) := by decide +kernel
theorem dX8_spells_9 : decode cX8_spells 9 = .ok (.aload_n 0, 1) := by decide +kernel
theorem dX8_spells_10 : decode cX8_spells 10 = .ok (.iload_n 1, 1) := by decide +kernel
theorem dX8_spells_11 : decode cX8_spells 11 = .ok (.iload 4, 2) := by decide +kernel
theorem dX8_spells_13 : decode cX8_spells 13 = .ok (.iadd, 1) := by decide +kernel
theorem dX8_spells_14 : decode cX8_spells 14 = .ok (.iload_n 2, 1) := by decide +kernel
theorem dX8_spells_15 : decode cX8_spells 15 = .ok (.isub, 1) := by decide +kernel
theorem dX8_spells_16 : decode cX8_spells 16 = .ok (.baload, 1) := by decide +kernel
theorem dX8_spells_17 : decode cX8_spells 17 = .ok (.ldc 81, 2) := by decide +kernel
theorem dX8_spells_19 : decode cX8_spells 19 = .ok (.iload 4, 2) := by decide +kernel
theorem dX8_spells_21 : decode cX8_spells 21 = .ok (.invokevirtual 89, 3) := by decide +kernel
theorem dX8_spells_24 : decode cX8_spells 24 = .ok (.if_icmp .eq 5, 3) := by decide +kernel
theorem dX8_spells_27 : decode cX8_spells 27 = .ok (.iconst 0, 1) := by decide +kernel
theorem dX8_spells_28 : decode cX8_spells 28 = .ok (.ireturn, 1) := by decide +kernel
theorem dX8_spells_29 : decode cX8_spells 29 = .ok (.iinc 4 1, 3) := by decide +kernel
theorem dX8_spells_32 : decode cX8_spells 32 = .ok (.goto (-29), 3) := by decide +kernel
theorem dX8_spells_35 : decode cX8_spells 35 = .ok (.iconst 1, 1) := by decide +kernel
theorem dX8_spells_36 : decode cX8_spells 36 = .ok (.ireturn, 1) := by decide +kernel
theorem dX8_numberOf_0 : decode cX8_numberOf 0 = .ok (.iload_n 2, 1) := by decide +kernel
theorem dX8_numberOf_1 : decode cX8_numberOf 1 = .ok (.iload_n 1, 1) := by decide +kernel
theorem dX8_numberOf_2 : decode cX8_numberOf 2 = .ok (.isub, 1) := by decide +kernel
theorem dX8_numberOf_3 : decode cX8_numberOf 3 = .ok (.iconst 4, 1) := by decide +kernel
theorem dX8_numberOf_4 : decode cX8_numberOf 4 = .ok (.if_icmp .le 6, 3) := by decide +kernel
theorem dX8_numberOf_7 : decode cX8_numberOf 7 = .ok (.bipush 26, 2) := by decide +kernel
theorem dX8_numberOf_9 : decode cX8_numberOf 9 = .ok (.ireturn, 1) := by decide +kernel
theorem dX8_numberOf_10 : decode cX8_numberOf 10 = .ok (.iconst 0, 1) := by decide +kernel
theorem dX8_numberOf_11 : decode cX8_numberOf 11 = .ok (.istore_n 3, 1) := by decide +kernel
theorem dX8_numberOf_12 : decode cX8_numberOf 12 = .ok (.iload_n 1, 1) := by decide +kernel
theorem dX8_numberOf_13 : decode cX8_numberOf 13 = .ok (.istore 4, 2) := by decide +kernel
theorem dX8_numberOf_15 : decode cX8_numberOf 15 = .ok (.iload 4, 2) := by decide +kernel
theorem dX8_numberOf_17 : decode cX8_numberOf 17 = .ok (.iload_n 2, 1) := by decide +kernel
theorem dX8_numberOf_18 : decode cX8_numberOf 18 = .ok (.if_icmp .ge 22, 3) := by decide +kernel
theorem dX8_numberOf_21 : decode cX8_numberOf 21 = .ok (.iload_n 3, 1) := by decide +kernel
theorem dX8_numberOf_22 : decode cX8_numberOf 22 = .ok (.bipush 10, 2) := by decide +kernel
theorem dX8_numberOf_24 : decode cX8_numberOf 24 = .ok (.imul, 1) := by decide +kernel
theorem dX8_numberOf_25 : decode cX8_numberOf 25 = .ok (.aload_n 0, 1) := by decide +kernel
theorem dX8_numberOf_26 : decode cX8_numberOf 26 = .ok (.iload 4, 2) := by decide +kernel
theorem dX8_numberOf_28 : decode cX8_numberOf 28 = .ok (.baload, 1) := by decide +kernel
theorem dX8_numberOf_29 : decode cX8_numberOf 29 = .ok (.iadd, 1) := by decide +kernel
theorem dX8_numberOf_30 : decode cX8_numberOf 30 = .ok (.bipush 48, 2) := by decide +kernel
theorem dX8_numberOf_32 : decode cX8_numberOf 32 = .ok (.isub, 1) := by decide +kernel
theorem dX8_numberOf_33 : decode cX8_numberOf 33 = .ok (.istore_n 3, 1) := by decide +kernel
theorem dX8_numberOf_34 : decode cX8_numberOf 34 = .ok (.iinc 4 1, 3) := by decide +kernel
theorem dX8_numberOf_37 : decode cX8_numberOf 37 = .ok (.goto (-22), 3) := by decide +kernel
theorem dX8_numberOf_40 : decode cX8_numberOf 40 = .ok (.bipush 100, 2) := by decide +kernel
theorem dX8_numberOf_42 : decode cX8_numberOf 42 = .ok (.iload_n 3, 1) := by decide +kernel
theorem dX8_numberOf_43 : decode cX8_numberOf 43 = .ok (.iadd, 1) := by decide +kernel
theorem dX8_numberOf_44 : decode cX8_numberOf 44 = .ok (.ireturn, 1) := by decide +kernel
theorem dX8_isLetter_0 : decode cX8_isLetter 0 = .ok (.iload_n 0, 1) := by decide +kernel
theorem dX8_isLetter_1 : decode cX8_isLetter 1 = .ok (.bipush 97, 2) := by decide +kernel
theorem dX8_isLetter_3 : decode cX8_isLetter 3 = .ok (.if_icmp .lt 13, 3) := by decide +kernel
theorem dX8_isLetter_6 : decode cX8_isLetter 6 = .ok (.iload_n 0, 1) := by decide +kernel
theorem dX8_isLetter_7 : decode cX8_isLetter 7 = .ok (.bipush 122, 2) := by decide +kernel
theorem dX8_isLetter_9 : decode cX8_isLetter 9 = .ok (.if_icmp .gt 7, 3) := by decide +kernel
theorem dX8_isLetter_12 : decode cX8_isLetter 12 = .ok (.iconst 1, 1) := by decide +kernel
theorem dX8_isLetter_13 : decode cX8_isLetter 13 = .ok (.goto 4, 3) := by decide +kernel
theorem dX8_isLetter_16 : decode cX8_isLetter 16 = .ok (.iconst 0, 1) := by decide +kernel
theorem dX8_isLetter_17 : decode cX8_isLetter 17 = .ok (.ireturn, 1) := by decide +kernel
theorem dX8_isDigit_0 : decode cX8_isDigit 0 = .ok (.iload_n 0, 1) := by decide +kernel
theorem dX8_isDigit_1 : decode cX8_isDigit 1 = .ok (.bipush 48, 2) := by decide +kernel
theorem dX8_isDigit_3 : decode cX8_isDigit 3 = .ok (.if_icmp .lt 13, 3) := by decide +kernel
theorem dX8_isDigit_6 : decode cX8_isDigit 6 = .ok (.iload_n 0, 1) := by decide +kernel
theorem dX8_isDigit_7 : decode cX8_isDigit 7 = .ok (.bipush 57, 2) := by decide +kernel
theorem dX8_isDigit_9 : decode cX8_isDigit 9 = .ok (.if_icmp .gt 7, 3) := by decide +kernel
theorem dX8_isDigit_12 : decode cX8_isDigit 12 = .ok (.iconst 1, 1) := by decide +kernel
theorem dX8_isDigit_13 : decode cX8_isDigit 13 = .ok (.goto 4, 3) := by decide +kernel
theorem dX8_isDigit_16 : decode cX8_isDigit 16 = .ok (.iconst 0, 1) := by decide +kernel
theorem dX8_isDigit_17 : decode cX8_isDigit 17 = .ok (.ireturn, 1) := by decide +kernel
theorem dX8_readRule_0 : decode cX8_readRule 0 = .ok (.aload_n 0, 1) := by decide +kernel
theorem dX8_readRule_1 : decode cX8_readRule 1 = .ok (.getfield 34, 3) := by decide +kernel
theorem dX8_readRule_4 : decode cX8_readRule 4 = .ok (.aload_n 0, 1) := by decide +kernel
theorem dX8_readRule_5 : decode cX8_readRule 5 = .ok (.getfield 40, 3) := by decide +kernel
theorem dX8_readRule_8 : decode cX8_readRule 8 = .ok (.iaload, 1) := by decide +kernel
theorem dX8_readRule_9 : decode cX8_readRule 9 = .ok (.istore_n 1, 1) := by decide +kernel
theorem dX8_readRule_10 : decode cX8_readRule 10 = .ok (.iload_n 1, 1) := by decide +kernel
theorem dX8_readRule_11 : decode cX8_readRule 11 = .ok (.iconst 5, 1) := by decide +kernel
theorem dX8_readRule_12 : decode cX8_readRule 12 = .ok (.if_icmp .le 5, 3) := by decide +kernel
theorem dX8_readRule_15 : decode cX8_readRule 15 = .ok (.iconst 0, 1) := by decide +kernel
theorem dX8_readRule_16 : decode cX8_readRule 16 = .ok (.ireturn, 1) := by decide +kernel
theorem dX8_readRule_17 : decode cX8_readRule 17 = .ok (.aload_n 0, 1) := by decide +kernel
theorem dX8_readRule_18 : decode cX8_readRule 18 = .ok (.dup, 1) := by decide +kernel
theorem dX8_readRule_19 : decode cX8_readRule 19 = .ok (.getfield 40, 3) := by decide +kernel
theorem dX8_readRule_22 : decode cX8_readRule 22 = .ok (.iconst 1, 1) := by decide +kernel
theorem dX8_readRule_23 : decode cX8_readRule 23 = .ok (.iadd, 1) := by decide +kernel
theorem dX8_readRule_24 : decode cX8_readRule 24 = .ok (.putfield 40, 3) := by decide +kernel
theorem dX8_readRule_27 : decode cX8_readRule 27 = .ok (.aload_n 0, 1) := by decide +kernel
theorem dX8_readRule_28 : decode cX8_readRule 28 = .ok (.getfield 22, 3) := by decide +kernel
theorem dX8_readRule_31 : decode cX8_readRule 31 = .ok (.aload_n 0, 1) := by decide +kernel
theorem dX8_readRule_32 : decode cX8_readRule 32 = .ok (.getfield 9, 3) := by decide +kernel
theorem dX8_readRule_35 : decode cX8_readRule 35 = .ok (.aload_n 0, 1) := by decide +kernel
theorem dX8_readRule_36 : decode cX8_readRule 36 = .ok (.getfield 28, 3) := by decide +kernel
theorem dX8_readRule_39 : decode cX8_readRule 39 = .ok (.iastore, 1) := by decide +kernel
theorem dX8_readRule_40 : decode cX8_readRule 40 = .ok (.aload_n 0, 1) := by decide +kernel
theorem dX8_readRule_41 : decode cX8_readRule 41 = .ok (.getfield 34, 3) := by decide +kernel
theorem dX8_readRule_44 : decode cX8_readRule 44 = .ok (.aload_n 0, 1) := by decide +kernel
theorem dX8_readRule_45 : decode cX8_readRule 45 = .ok (.getfield 40, 3) := by decide +kernel
theorem dX8_readRule_48 : decode cX8_readRule 48 = .ok (.iaload, 1) := by decide +kernel
theorem dX8_readRule_49 : decode cX8_readRule 49 = .ok (.bipush 6, 2) := by decide +kernel
theorem dX8_readRule_51 : decode cX8_readRule 51 = .ok (.if_icmp .ne 23, 3) := by decide +kernel
theorem dX8_readRule_54 : decode cX8_readRule 54 = .ok (.aload_n 0, 1) := by decide +kernel
theorem dX8_readRule_55 : decode cX8_readRule 55 = .ok (.dup, 1) := by decide +kernel
theorem dX8_readRule_56 : decode cX8_readRule 56 = .ok (.getfield 40, 3) := by decide +kernel
theorem dX8_readRule_59 : decode cX8_readRule 59 = .ok (.iconst 1, 1) := by decide +kernel
theorem dX8_readRule_60 : decode cX8_readRule 60 = .ok (.iadd, 1) := by decide +kernel
theorem dX8_readRule_61 : decode cX8_readRule 61 = .ok (.putfield 40, 3) := by decide +kernel
theorem dX8_readRule_64 : decode cX8_readRule 64 = .ok (.aload_n 0, 1) := by decide +kernel
theorem dX8_readRule_65 : decode cX8_readRule 65 = .ok (.iconst 0, 1) := by decide +kernel
theorem dX8_readRule_66 : decode cX8_readRule 66 = .ok (.invokevirtual 97, 3) := by decide +kernel
theorem dX8_readRule_69 : decode cX8_readRule 69 = .ok (.ifCond .ne 5, 3) := by decide +kernel
theorem dX8_readRule_72 : decode cX8_readRule 72 = .ok (.iconst 0, 1) := by decide +kernel
theorem dX8_readRule_73 : decode cX8_readRule 73 = .ok (.ireturn, 1) := by decide +kernel
theorem dX8_readRule_74 : decode cX8_readRule 74 = .ok (.aload_n 0, 1) := by decide +kernel
theorem dX8_readRule_75 : decode cX8_readRule 75 = .ok (.getfield 34, 3) := by decide +kernel
theorem dX8_readRule_78 : decode cX8_readRule 78 = .ok (.aload_n 0, 1) := by decide +kernel
theorem dX8_readRule_79 : decode cX8_readRule 79 = .ok (.getfield 40, 3) := by decide +kernel
theorem dX8_readRule_82 : decode cX8_readRule 82 = .ok (.iaload, 1) := by decide +kernel
theorem dX8_readRule_83 : decode cX8_readRule 83 = .ok (.bipush 7, 2) := by decide +kernel
theorem dX8_readRule_85 : decode cX8_readRule 85 = .ok (.isub, 1) := by decide +kernel
theorem dX8_readRule_86 : decode cX8_readRule 86 = .ok (.istore_n 2, 1) := by decide +kernel
theorem dX8_readRule_87 : decode cX8_readRule 87 = .ok (.iload_n 2, 1) := by decide +kernel
theorem dX8_readRule_88 : decode cX8_readRule 88 = .ok (.ifCond .lt 8, 3) := by decide +kernel
theorem dX8_readRule_91 : decode cX8_readRule 91 = .ok (.iload_n 2, 1) := by decide +kernel
theorem dX8_readRule_92 : decode cX8_readRule 92 = .ok (.iconst 2, 1) := by decide +kernel
theorem dX8_readRule_93 : decode cX8_readRule 93 = .ok (.if_icmp .le 5, 3) := by decide +kernel
theorem dX8_readRule_96 : decode cX8_readRule 96 = .ok (.iconst 0, 1) := by decide +kernel
theorem dX8_readRule_97 : decode cX8_readRule 97 = .ok (.ireturn, 1) := by decide +kernel
theorem dX8_readRule_98 : decode cX8_readRule 98 = .ok (.aload_n 0, 1) := by decide +kernel
theorem dX8_readRule_99 : decode cX8_readRule 99 = .ok (.dup, 1) := by decide +kernel
theorem dX8_readRule_100 : decode cX8_readRule 100 = .ok (.getfield 40, 3) := by decide +kernel
theorem dX8_readRule_103 : decode cX8_readRule 103 = .ok (.iconst 1, 1) := by decide +kernel
theorem dX8_readRule_104 : decode cX8_readRule 104 = .ok (.iadd, 1) := by decide +kernel
theorem dX8_readRule_105 : decode cX8_readRule 105 = .ok (.putfield 40, 3) := by decide +kernel
theorem dX8_readRule_108 : decode cX8_readRule 108 = .ok (.aload_n 0, 1) := by decide +kernel
theorem dX8_readRule_109 : decode cX8_readRule 109 = .ok (.bipush 25, 2) := by decide +kernel
theorem dX8_readRule_111 : decode cX8_readRule 111 = .ok (.invokevirtual 100, 3) := by decide +kernel
theorem dX8_readRule_114 : decode cX8_readRule 114 = .ok (.ifCond .ne 5, 3) := by decide +kernel
theorem dX8_readRule_117 : decode cX8_readRule 117 = .ok (.iconst 0, 1) := by decide +kernel
theorem dX8_readRule_118 : decode cX8_readRule 118 = .ok (.ireturn, 1) := by decide +kernel
theorem dX8_readRule_119 : decode cX8_readRule 119 = .ok (.aload_n 0, 1) := by decide +kernel
theorem dX8_readRule_120 : decode cX8_readRule 120 = .ok (.getfield 15, 3) := by decide +kernel
theorem dX8_readRule_123 : decode cX8_readRule 123 = .ok (.aload_n 0, 1) := by decide +kernel
theorem dX8_readRule_124 : decode cX8_readRule 124 = .ok (.getfield 9, 3) := by decide +kernel
theorem dX8_readRule_127 : decode cX8_readRule 127 = .ok (.iload_n 1, 1) := by decide +kernel
theorem dX8_readRule_128 : decode cX8_readRule 128 = .ok (.iastore, 1) := by decide +kernel
theorem dX8_readRule_129 : decode cX8_readRule 129 = .ok (.aload_n 0, 1) := by decide +kernel
theorem dX8_readRule_130 : decode cX8_readRule 130 = .ok (.getfield 19, 3) := by decide +kernel
theorem dX8_readRule_133 : decode cX8_readRule 133 = .ok (.aload_n 0, 1) := by decide +kernel
theorem dX8_readRule_134 : decode cX8_readRule 134 = .ok (.getfield 9, 3) := by decide +kernel
theorem dX8_readRule_137 : decode cX8_readRule 137 = .ok (.iload_n 2, 1) := by decide +kernel
theorem dX8_readRule_138 : decode cX8_readRule 138 = .ok (.iastore, 1) := by decide +kernel
theorem dX8_readRule_139 : decode cX8_readRule 139 = .ok (.aload_n 0, 1) := by decide +kernel
theorem dX8_readRule_140 : decode cX8_readRule 140 = .ok (.dup, 1) := by decide +kernel
theorem dX8_readRule_141 : decode cX8_readRule 141 = .ok (.getfield 9, 3) := by decide +kernel
theorem dX8_readRule_144 : decode cX8_readRule 144 = .ok (.iconst 1, 1) := by decide +kernel
theorem dX8_readRule_145 : decode cX8_readRule 145 = .ok (.iadd, 1) := by decide +kernel
theorem dX8_readRule_146 : decode cX8_readRule 146 = .ok (.putfield 9, 3) := by decide +kernel
theorem dX8_readRule_149 : decode cX8_readRule 149 = .ok (.aload_n 0, 1) := by decide +kernel
theorem dX8_readRule_150 : decode cX8_readRule 150 = .ok (.getfield 22, 3) := by decide +kernel
theorem dX8_readRule_153 : decode cX8_readRule 153 = .ok (.aload_n 0, 1) := by decide +kernel
theorem dX8_readRule_154 : decode cX8_readRule 154 = .ok (.getfield 9, 3) := by decide +kernel
theorem dX8_readRule_157 : decode cX8_readRule 157 = .ok (.aload_n 0, 1) := by decide +kernel
theorem dX8_readRule_158 : decode cX8_readRule 158 = .ok (.getfield 28, 3) := by decide +kernel
theorem dX8_readRule_161 : decode cX8_readRule 161 = .ok (.iastore, 1) := by decide +kernel
theorem dX8_readRule_162 : decode cX8_readRule 162 = .ok (.iconst 1, 1) := by decide +kernel
theorem dX8_readRule_163 : decode cX8_readRule 163 = .ok (.ireturn, 1) := by decide +kernel
theorem dX8_passes_0 : decode cX8_passes 0 = .ok (.aload_n 0, 1) := by decide +kernel
theorem dX8_passes_1 : decode cX8_passes 1 = .ok (.getfield 34, 3) := by decide +kernel
theorem dX8_passes_4 : decode cX8_passes 4 = .ok (.aload_n 0, 1) := by decide +kernel
theorem dX8_passes_5 : decode cX8_passes 5 = .ok (.getfield 40, 3) := by decide +kernel
theorem dX8_passes_8 : decode cX8_passes 8 = .ok (.iaload, 1) := by decide +kernel
theorem dX8_passes_9 : decode cX8_passes 9 = .ok (.iload_n 1, 1) := by decide +kernel
theorem dX8_passes_10 : decode cX8_passes 10 = .ok (.if_icmp .eq 5, 3) := by decide +kernel
theorem dX8_passes_13 : decode cX8_passes 13 = .ok (.iconst 0, 1) := by decide +kernel
theorem dX8_passes_14 : decode cX8_passes 14 = .ok (.ireturn, 1) := by decide +kernel
theorem dX8_passes_15 : decode cX8_passes 15 = .ok (.aload_n 0, 1) := by decide +kernel
theorem dX8_passes_16 : decode cX8_passes 16 = .ok (.dup, 1) := by decide +kernel
theorem dX8_passes_17 : decode cX8_passes 17 = .ok (.getfield 40, 3) := by decide +kernel
theorem dX8_passes_20 : decode cX8_passes 20 = .ok (.iconst 1, 1) := by decide +kernel
theorem dX8_passes_21 : decode cX8_passes 21 = .ok (.iadd, 1) := by decide +kernel
theorem dX8_passes_22 : decode cX8_passes 22 = .ok (.putfield 40, 3) := by decide +kernel
theorem dX8_passes_25 : decode cX8_passes 25 = .ok (.iconst 1, 1) := by decide +kernel
theorem dX8_passes_26 : decode cX8_passes 26 = .ok (.ireturn, 1) := by decide +kernel
theorem dX8_readCondition_0 : decode cX8_readCondition 0 = .ok (.aload_n 0, 1) := by decide +kernel
theorem dX8_readCondition_1 : decode cX8_readCondition 1 = .ok (.iload_n 1, 1) := by decide +kernel
theorem dX8_readCondition_2 : decode cX8_readCondition 2 = .ok (.invokevirtual 103, 3) := by decide +kernel
theorem dX8_readCondition_5 : decode cX8_readCondition 5 = .ok (.ifCond .ne 5, 3) := by decide +kernel
theorem dX8_readCondition_8 : decode cX8_readCondition 8 = .ok (.iconst 0, 1) := by decide +kernel
theorem dX8_readCondition_9 : decode cX8_readCondition 9 = .ok (.ireturn, 1) := by decide +kernel
theorem dX8_readCondition_10 : decode cX8_readCondition 10 = .ok (.iconst 0, 1) := by decide +kernel
theorem dX8_readCondition_11 : decode cX8_readCondition 11 = .ok (.istore_n 2, 1) := by decide +kernel
theorem dX8_readCondition_12 : decode cX8_readCondition 12 = .ok (.iload_n 2, 1) := by decide +kernel
theorem dX8_readCondition_13 : decode cX8_readCondition 13 = .ok (.sipush 200, 3) := by decide +kernel
theorem dX8_readCondition_16 : decode cX8_readCondition 16 = .ok (.if_icmp .ge 49, 3) := by decide +kernel
theorem dX8_readCondition_19 : decode cX8_readCondition 19 = .ok (.aload_n 0, 1) := by decide +kernel
theorem dX8_readCondition_20 : decode cX8_readCondition 20 = .ok (.getfield 34, 3) := by decide +kernel
theorem dX8_readCondition_23 : decode cX8_readCondition 23 = .ok (.aload_n 0, 1) := by decide +kernel
theorem dX8_readCondition_24 : decode cX8_readCondition 24 = .ok (.getfield 40, 3) := by decide +kernel
theorem dX8_readCondition_27 : decode cX8_readCondition 27 = .ok (.iaload, 1) := by decide +kernel
theorem dX8_readCondition_28 : decode cX8_readCondition 28 = .ok (.bipush 10, 2) := by decide +kernel
theorem dX8_readCondition_30 : decode cX8_readCondition 30 = .ok (.if_icmp .ne 35, 3) := by decide +kernel
theorem dX8_readCondition_33 : decode cX8_readCondition 33 = .ok (.aload_n 0, 1) := by decide +kernel
theorem dX8_readCondition_34 : decode cX8_readCondition 34 = .ok (.dup, 1) := by decide +kernel
theorem dX8_readCondition_35 : decode cX8_readCondition 35 = .ok (.getfield 40, 3) := by decide +kernel
theorem dX8_readCondition_38 : decode cX8_readCondition 38 = .ok (.iconst 1, 1) := by decide +kernel
theorem dX8_readCondition_39 : decode cX8_readCondition 39 = .ok (.iadd, 1) := by decide +kernel
theorem dX8_readCondition_40 : decode cX8_readCondition 40 = .ok (.putfield 40, 3) := by decide +kernel
theorem dX8_readCondition_43 : decode cX8_readCondition 43 = .ok (.aload_n 0, 1) := by decide +kernel
theorem dX8_readCondition_44 : decode cX8_readCondition 44 = .ok (.iload_n 1, 1) := by decide +kernel
theorem dX8_readCondition_45 : decode cX8_readCondition 45 = .ok (.invokevirtual 103, 3) := by decide +kernel
theorem dX8_readCondition_48 : decode cX8_readCondition 48 = .ok (.ifCond .ne 5, 3) := by decide +kernel
theorem dX8_readCondition_51 : decode cX8_readCondition 51 = .ok (.iconst 0, 1) := by decide +kernel
theorem dX8_readCondition_52 : decode cX8_readCondition 52 = .ok (.ireturn, 1) := by decide +kernel
theorem dX8_readCondition_53 : decode cX8_readCondition 53 = .ok (.aload_n 0, 1) := by decide +kernel
theorem dX8_readCondition_54 : decode cX8_readCondition 54 = .ok (.bipush (-3), 2) := by decide +kernel
theorem dX8_readCondition_56 : decode cX8_readCondition 56 = .ok (.invokevirtual 106, 3) := by decide +kernel
theorem dX8_readCondition_59 : decode cX8_readCondition 59 = .ok (.iinc 2 1, 3) := by decide +kernel
theorem dX8_readCondition_62 : decode cX8_readCondition 62 = .ok (.goto (-50), 3) := by decide +kernel
theorem dX8_readCondition_65 : decode cX8_readCondition 65 = .ok (.iconst 1, 1) := by decide +kernel
theorem dX8_readCondition_66 : decode cX8_readCondition 66 = .ok (.ireturn, 1) := by decide +kernel
theorem dX8_readAllOf_0 : decode cX8_readAllOf 0 = .ok (.aload_n 0, 1) := by decide +kernel
theorem dX8_readAllOf_1 : decode cX8_readAllOf 1 = .ok (.iload_n 1, 1) := by decide +kernel
theorem dX8_readAllOf_2 : decode cX8_readAllOf 2 = .ok (.invokevirtual 110, 3) := by decide +kernel
theorem dX8_readAllOf_5 : decode cX8_readAllOf 5 = .ok (.ifCond .ne 5, 3) := by decide +kernel
theorem dX8_readAllOf_8 : decode cX8_readAllOf 8 = .ok (.iconst 0, 1) := by decide +kernel
theorem dX8_readAllOf_9 : decode cX8_readAllOf 9 = .ok (.ireturn, 1) := by decide +kernel
theorem dX8_readAllOf_10 : decode cX8_readAllOf 10 = .ok (.iconst 0, 1) := by decide +kernel
theorem dX8_readAllOf_11 : decode cX8_readAllOf 11 = .ok (.istore_n 2, 1) := by decide +kernel
theorem dX8_readAllOf_12 : decode cX8_readAllOf 12 = .ok (.iload_n 2, 1) := by decide +kernel
theorem dX8_readAllOf_13 : decode cX8_readAllOf 13 = .ok (.sipush 200, 3) := by decide +kernel
theorem dX8_readAllOf_16 : decode cX8_readAllOf 16 = .ok (.if_icmp .ge 49, 3) := by decide +kernel
theorem dX8_readAllOf_19 : decode cX8_readAllOf 19 = .ok (.aload_n 0, 1) := by decide +kernel
theorem dX8_readAllOf_20 : decode cX8_readAllOf 20 = .ok (.getfield 34, 3) := by decide +kernel
theorem dX8_readAllOf_23 : decode cX8_readAllOf 23 = .ok (.aload_n 0, 1) := by decide +kernel
theorem dX8_readAllOf_24 : decode cX8_readAllOf 24 = .ok (.getfield 40, 3) := by decide +kernel
theorem dX8_readAllOf_27 : decode cX8_readAllOf 27 = .ok (.iaload, 1) := by decide +kernel
theorem dX8_readAllOf_28 : decode cX8_readAllOf 28 = .ok (.bipush 11, 2) := by decide +kernel
theorem dX8_readAllOf_30 : decode cX8_readAllOf 30 = .ok (.if_icmp .ne 35, 3) := by decide +kernel
theorem dX8_readAllOf_33 : decode cX8_readAllOf 33 = .ok (.aload_n 0, 1) := by decide +kernel
theorem dX8_readAllOf_34 : decode cX8_readAllOf 34 = .ok (.dup, 1) := by decide +kernel
theorem dX8_readAllOf_35 : decode cX8_readAllOf 35 = .ok (.getfield 40, 3) := by decide +kernel
theorem dX8_readAllOf_38 : decode cX8_readAllOf 38 = .ok (.iconst 1, 1) := by decide +kernel
theorem dX8_readAllOf_39 : decode cX8_readAllOf 39 = .ok (.iadd, 1) := by decide +kernel
theorem dX8_readAllOf_40 : decode cX8_readAllOf 40 = .ok (.putfield 40, 3) := by decide +kernel
theorem dX8_readAllOf_43 : decode cX8_readAllOf 43 = .ok (.aload_n 0, 1) := by decide +kernel
theorem dX8_readAllOf_44 : decode cX8_readAllOf 44 = .ok (.iload_n 1, 1) := by decide +kernel
theorem dX8_readAllOf_45 : decode cX8_readAllOf 45 = .ok (.invokevirtual 110, 3) := by decide +kernel
theorem dX8_readAllOf_48 : decode cX8_readAllOf 48 = .ok (.ifCond .ne 5, 3) := by decide +kernel
theorem dX8_readAllOf_51 : decode cX8_readAllOf 51 = .ok (.iconst 0, 1) := by decide +kernel
theorem dX8_readAllOf_52 : decode cX8_readAllOf 52 = .ok (.ireturn, 1) := by decide +kernel
theorem dX8_readAllOf_53 : decode cX8_readAllOf 53 = .ok (.aload_n 0, 1) := by decide +kernel
theorem dX8_readAllOf_54 : decode cX8_readAllOf 54 = .ok (.bipush (-2), 2) := by decide +kernel
theorem dX8_readAllOf_56 : decode cX8_readAllOf 56 = .ok (.invokevirtual 106, 3) := by decide +kernel
theorem dX8_readAllOf_59 : decode cX8_readAllOf 59 = .ok (.iinc 2 1, 3) := by decide +kernel
theorem dX8_readAllOf_62 : decode cX8_readAllOf 62 = .ok (.goto (-50), 3) := by decide +kernel
theorem dX8_readAllOf_65 : decode cX8_readAllOf 65 = .ok (.iconst 1, 1) := by decide +kernel
theorem dX8_readAllOf_66 : decode cX8_readAllOf 66 = .ok (.ireturn, 1) := by decide +kernel
theorem dX8_readOne_0 : decode cX8_readOne 0 = .ok (.iconst 0, 1) := by decide +kernel
theorem dX8_readOne_1 : decode cX8_readOne 1 = .ok (.istore_n 2, 1) := by decide +kernel
theorem dX8_readOne_2 : decode cX8_readOne 2 = .ok (.iconst 0, 1) := by decide +kernel
theorem dX8_readOne_3 : decode cX8_readOne 3 = .ok (.istore_n 3, 1) := by decide +kernel
theorem dX8_readOne_4 : decode cX8_readOne 4 = .ok (.iload_n 3, 1) := by decide +kernel
theorem dX8_readOne_5 : decode cX8_readOne 5 = .ok (.sipush 200, 3) := by decide +kernel
theorem dX8_readOne_8 : decode cX8_readOne 8 = .ok (.if_icmp .ge 43, 3) := by decide +kernel
theorem dX8_readOne_11 : decode cX8_readOne 11 = .ok (.aload_n 0, 1) := by decide +kernel
theorem dX8_readOne_12 : decode cX8_readOne 12 = .ok (.getfield 34, 3) := by decide +kernel
theorem dX8_readOne_15 : decode cX8_readOne 15 = .ok (.aload_n 0, 1) := by decide +kernel
theorem dX8_readOne_16 : decode cX8_readOne 16 = .ok (.getfield 40, 3) := by decide +kernel
theorem dX8_readOne_19 : decode cX8_readOne 19 = .ok (.iaload, 1) := by decide +kernel
theorem dX8_readOne_20 : decode cX8_readOne 20 = .ok (.bipush 12, 2) := by decide +kernel
theorem dX8_readOne_22 : decode cX8_readOne 22 = .ok (.if_icmp .ne 29, 3) := by decide +kernel
theorem dX8_readOne_25 : decode cX8_readOne 25 = .ok (.aload_n 0, 1) := by decide +kernel
theorem dX8_readOne_26 : decode cX8_readOne 26 = .ok (.dup, 1) := by decide +kernel
theorem dX8_readOne_27 : decode cX8_readOne 27 = .ok (.getfield 40, 3) := by decide +kernel
theorem dX8_readOne_30 : decode cX8_readOne 30 = .ok (.iconst 1, 1) := by decide +kernel
theorem dX8_readOne_31 : decode cX8_readOne 31 = .ok (.iadd, 1) := by decide +kernel
theorem dX8_readOne_32 : decode cX8_readOne 32 = .ok (.putfield 40, 3) := by decide +kernel
theorem dX8_readOne_35 : decode cX8_readOne 35 = .ok (.iload_n 2, 1) := by decide +kernel
theorem dX8_readOne_36 : decode cX8_readOne 36 = .ok (.ifCond .ne 7, 3) := by decide +kernel
theorem dX8_readOne_39 : decode cX8_readOne 39 = .ok (.iconst 1, 1) := by decide +kernel
theorem dX8_readOne_40 : decode cX8_readOne 40 = .ok (.goto 4, 3) := by decide +kernel
theorem dX8_readOne_43 : decode cX8_readOne 43 = .ok (.iconst 0, 1) := by decide +kernel
theorem dX8_readOne_44 : decode cX8_readOne 44 = .ok (.istore_n 2, 1) := by decide +kernel
theorem dX8_readOne_45 : decode cX8_readOne 45 = .ok (.iinc 3 1, 3) := by decide +kernel
theorem dX8_readOne_48 : decode cX8_readOne 48 = .ok (.goto (-44), 3) := by decide +kernel
theorem dX8_readOne_51 : decode cX8_readOne 51 = .ok (.aload_n 0, 1) := by decide +kernel
theorem dX8_readOne_52 : decode cX8_readOne 52 = .ok (.getfield 34, 3) := by decide +kernel
theorem dX8_readOne_55 : decode cX8_readOne 55 = .ok (.aload_n 0, 1) := by decide +kernel
theorem dX8_readOne_56 : decode cX8_readOne 56 = .ok (.getfield 40, 3) := by decide +kernel
theorem dX8_readOne_59 : decode cX8_readOne 59 = .ok (.iaload, 1) := by decide +kernel
theorem dX8_readOne_60 : decode cX8_readOne 60 = .ok (.bipush 23, 2) := by decide +kernel
theorem dX8_readOne_62 : decode cX8_readOne 62 = .ok (.if_icmp .ne 41, 3) := by decide +kernel
theorem dX8_readOne_65 : decode cX8_readOne 65 = .ok (.iload_n 1, 1) := by decide +kernel
theorem dX8_readOne_66 : decode cX8_readOne 66 = .ok (.iconst 3, 1) := by decide +kernel
theorem dX8_readOne_67 : decode cX8_readOne 67 = .ok (.if_icmp .lt 5, 3) := by decide +kernel
theorem dX8_readOne_70 : decode cX8_readOne 70 = .ok (.iconst 0, 1) := by decide +kernel
theorem dX8_readOne_71 : decode cX8_readOne 71 = .ok (.ireturn, 1) := by decide +kernel
theorem dX8_readOne_72 : decode cX8_readOne 72 = .ok (.aload_n 0, 1) := by decide +kernel
theorem dX8_readOne_73 : decode cX8_readOne 73 = .ok (.dup, 1) := by decide +kernel
theorem dX8_readOne_74 : decode cX8_readOne 74 = .ok (.getfield 40, 3) := by decide +kernel
theorem dX8_readOne_77 : decode cX8_readOne 77 = .ok (.iconst 1, 1) := by decide +kernel
theorem dX8_readOne_78 : decode cX8_readOne 78 = .ok (.iadd, 1) := by decide +kernel
theorem dX8_readOne_79 : decode cX8_readOne 79 = .ok (.putfield 40, 3) := by decide +kernel
theorem dX8_readOne_82 : decode cX8_readOne 82 = .ok (.aload_n 0, 1) := by decide +kernel
theorem dX8_readOne_83 : decode cX8_readOne 83 = .ok (.iload_n 1, 1) := by decide +kernel
theorem dX8_readOne_84 : decode cX8_readOne 84 = .ok (.iconst 1, 1) := by decide +kernel
theorem dX8_readOne_85 : decode cX8_readOne 85 = .ok (.iadd, 1) := by decide +kernel
theorem dX8_readOne_86 : decode cX8_readOne 86 = .ok (.invokevirtual 97, 3) := by decide +kernel
theorem dX8_readOne_89 : decode cX8_readOne 89 = .ok (.ifCond .eq 12, 3) := by decide +kernel
theorem dX8_readOne_92 : decode cX8_readOne 92 = .ok (.aload_n 0, 1) := by decide +kernel
theorem dX8_readOne_93 : decode cX8_readOne 93 = .ok (.bipush 24, 2) := by decide +kernel
theorem dX8_readOne_95 : decode cX8_readOne 95 = .ok (.invokevirtual 100, 3) := by decide +kernel
theorem dX8_readOne_98 : decode cX8_readOne 98 = .ok (.ifCond .ne 14, 3) := by decide +kernel
theorem dX8_readOne_101 : decode cX8_readOne 101 = .ok (.iconst 0, 1) := by decide +kernel
theorem dX8_readOne_102 : decode cX8_readOne 102 = .ok (.ireturn, 1) := by decide +kernel
theorem dX8_readOne_103 : decode cX8_readOne 103 = .ok (.aload_n 0, 1) := by decide +kernel
theorem dX8_readOne_104 : decode cX8_readOne 104 = .ok (.invokevirtual 113, 3) := by decide +kernel
theorem dX8_readOne_107 : decode cX8_readOne 107 = .ok (.ifCond .ne 5, 3) := by decide +kernel
theorem dX8_readOne_110 : decode cX8_readOne 110 = .ok (.iconst 0, 1) := by decide +kernel
theorem dX8_readOne_111 : decode cX8_readOne 111 = .ok (.ireturn, 1) := by decide +kernel
theorem dX8_readOne_112 : decode cX8_readOne 112 = .ok (.iload_n 2, 1) := by decide +kernel
theorem dX8_readOne_113 : decode cX8_readOne 113 = .ok (.ifCond .eq 8, 3) := by decide +kernel
theorem dX8_readOne_116 : decode cX8_readOne 116 = .ok (.aload_n 0, 1) := by decide +kernel
theorem dX8_readOne_117 : decode cX8_readOne 117 = .ok (.iconst (-1), 1) := by decide +kernel
theorem dX8_readOne_118 : decode cX8_readOne 118 = .ok (.invokevirtual 106, 3) := by decide +kernel
theorem dX8_readOne_121 : decode cX8_readOne 121 = .ok (.iconst 1, 1) := by decide +kernel
theorem dX8_readOne_122 : decode cX8_readOne 122 = .ok (.ireturn, 1) := by decide +kernel
theorem dX8_readComparison_0 : decode cX8_readComparison 0 = .ok (.aload_n 0, 1) := by decide +kernel
theorem dX8_readComparison_1 : decode cX8_readComparison 1 = .ok (.getfield 34, 3) := by decide +kernel
theorem dX8_readComparison_4 : decode cX8_readComparison 4 = .ok (.aload_n 0, 1) := by decide +kernel
theorem dX8_readComparison_5 : decode cX8_readComparison 5 = .ok (.getfield 40, 3) := by decide +kernel
theorem dX8_readComparison_8 : decode cX8_readComparison 8 = .ok (.iaload, 1) := by decide +kernel
theorem dX8_readComparison_9 : decode cX8_readComparison 9 = .ok (.invokestatic 116, 3) := by decide +kernel
theorem dX8_readComparison_12 : decode cX8_readComparison 12 = .ok (.istore_n 1, 1) := by decide +kernel
theorem dX8_readComparison_13 : decode cX8_readComparison 13 = .ok (.iload_n 1, 1) := by decide +kernel
theorem dX8_readComparison_14 : decode cX8_readComparison 14 = .ok (.ifCond .ge 5, 3) := by decide +kernel
theorem dX8_readComparison_17 : decode cX8_readComparison 17 = .ok (.iconst 0, 1) := by decide +kernel
theorem dX8_readComparison_18 : decode cX8_readComparison 18 = .ok (.ireturn, 1) := by decide +kernel
theorem dX8_readComparison_19 : decode cX8_readComparison 19 = .ok (.aload_n 0, 1) := by decide +kernel
theorem dX8_readComparison_20 : decode cX8_readComparison 20 = .ok (.dup, 1) := by decide +kernel
theorem dX8_readComparison_21 : decode cX8_readComparison 21 = .ok (.getfield 40, 3) := by decide +kernel
theorem dX8_readComparison_24 : decode cX8_readComparison 24 = .ok (.iconst 1, 1) := by decide +kernel
theorem dX8_readComparison_25 : decode cX8_readComparison 25 = .ok (.iadd, 1) := by decide +kernel
theorem dX8_readComparison_26 : decode cX8_readComparison 26 = .ok (.putfield 40, 3) := by decide +kernel
theorem dX8_readComparison_29 : decode cX8_readComparison 29 = .ok (.aload_n 0, 1) := by decide +kernel
theorem dX8_readComparison_30 : decode cX8_readComparison 30 = .ok (.getfield 34, 3) := by decide +kernel
theorem dX8_readComparison_33 : decode cX8_readComparison 33 = .ok (.aload_n 0, 1) := by decide +kernel
theorem dX8_readComparison_34 : decode cX8_readComparison 34 = .ok (.getfield 40, 3) := by decide +kernel
theorem dX8_readComparison_37 : decode cX8_readComparison 37 = .ok (.iaload, 1) := by decide +kernel
theorem dX8_readComparison_38 : decode cX8_readComparison 38 = .ok (.bipush 20, 2) := by decide +kernel
theorem dX8_readComparison_40 : decode cX8_readComparison 40 = .ok (.isub, 1) := by decide +kernel
theorem dX8_readComparison_41 : decode cX8_readComparison 41 = .ok (.istore_n 2, 1) := by decide +kernel
theorem dX8_readComparison_42 : decode cX8_readComparison 42 = .ok (.iload_n 2, 1) := by decide +kernel
theorem dX8_readComparison_43 : decode cX8_readComparison 43 = .ok (.ifCond .lt 8, 3) := by decide +kernel
theorem dX8_readComparison_46 : decode cX8_readComparison 46 = .ok (.iload_n 2, 1) := by decide +kernel
theorem dX8_readComparison_47 : decode cX8_readComparison 47 = .ok (.iconst 2, 1) := by decide +kernel
theorem dX8_readComparison_48 : decode cX8_readComparison 48 = .ok (.if_icmp .le 5, 3) := by decide +kernel
theorem dX8_readComparison_51 : decode cX8_readComparison 51 = .ok (.iconst 0, 1) := by decide +kernel
theorem dX8_readComparison_52 : decode cX8_readComparison 52 = .ok (.ireturn, 1) := by decide +kernel
theorem dX8_readComparison_53 : decode cX8_readComparison 53 = .ok (.aload_n 0, 1) := by decide +kernel
theorem dX8_readComparison_54 : decode cX8_readComparison 54 = .ok (.dup, 1) := by decide +kernel
theorem dX8_readComparison_55 : decode cX8_readComparison 55 = .ok (.getfield 40, 3) := by decide +kernel
theorem dX8_readComparison_58 : decode cX8_readComparison 58 = .ok (.iconst 1, 1) := by decide +kernel
theorem dX8_readComparison_59 : decode cX8_readComparison 59 = .ok (.iadd, 1) := by decide +kernel
theorem dX8_readComparison_60 : decode cX8_readComparison 60 = .ok (.putfield 40, 3) := by decide +kernel
theorem dX8_readComparison_63 : decode cX8_readComparison 63 = .ok (.aload_n 0, 1) := by decide +kernel
theorem dX8_readComparison_64 : decode cX8_readComparison 64 = .ok (.getfield 34, 3) := by decide +kernel
theorem dX8_readComparison_67 : decode cX8_readComparison 67 = .ok (.aload_n 0, 1) := by decide +kernel
theorem dX8_readComparison_68 : decode cX8_readComparison 68 = .ok (.getfield 40, 3) := by decide +kernel
theorem dX8_readComparison_71 : decode cX8_readComparison 71 = .ok (.iaload, 1) := by decide +kernel
theorem dX8_readComparison_72 : decode cX8_readComparison 72 = .ok (.invokestatic 116, 3) := by decide +kernel
theorem dX8_readComparison_75 : decode cX8_readComparison 75 = .ok (.istore_n 3, 1) := by decide +kernel
theorem dX8_readComparison_76 : decode cX8_readComparison 76 = .ok (.iload_n 3, 1) := by decide +kernel
theorem dX8_readComparison_77 : decode cX8_readComparison 77 = .ok (.ifCond .ge 5, 3) := by decide +kernel
theorem dX8_readComparison_80 : decode cX8_readComparison 80 = .ok (.iconst 0, 1) := by decide +kernel
theorem dX8_readComparison_81 : decode cX8_readComparison 81 = .ok (.ireturn, 1) := by decide +kernel
theorem dX8_readComparison_82 : decode cX8_readComparison 82 = .ok (.aload_n 0, 1) := by decide +kernel
theorem dX8_readComparison_83 : decode cX8_readComparison 83 = .ok (.dup, 1) := by decide +kernel
theorem dX8_readComparison_84 : decode cX8_readComparison 84 = .ok (.getfield 40, 3) := by decide +kernel
theorem dX8_readComparison_87 : decode cX8_readComparison 87 = .ok (.iconst 1, 1) := by decide +kernel
theorem dX8_readComparison_88 : decode cX8_readComparison 88 = .ok (.iadd, 1) := by decide +kernel
theorem dX8_readComparison_89 : decode cX8_readComparison 89 = .ok (.putfield 40, 3) := by decide +kernel
theorem dX8_readComparison_92 : decode cX8_readComparison 92 = .ok (.aload_n 0, 1) := by decide +kernel
theorem dX8_readComparison_93 : decode cX8_readComparison 93 = .ok (.iload_n 2, 1) := by decide +kernel
theorem dX8_readComparison_94 : decode cX8_readComparison 94 = .ok (.bipush 14, 2) := by decide +kernel
theorem dX8_readComparison_96 : decode cX8_readComparison 96 = .ok (.ishl, 1) := by decide +kernel
theorem dX8_readComparison_97 : decode cX8_readComparison 97 = .ok (.iload_n 1, 1) := by decide +kernel
theorem dX8_readComparison_98 : decode cX8_readComparison 98 = .ok (.ior, 1) := by decide +kernel
theorem dX8_readComparison_99 : decode cX8_readComparison 99 = .ok (.bipush 14, 2) := by decide +kernel
theorem dX8_readComparison_101 : decode cX8_readComparison 101 = .ok (.ishl, 1) := by decide +kernel
theorem dX8_readComparison_102 : decode cX8_readComparison 102 = .ok (.iload_n 3, 1) := by decide +kernel
theorem dX8_readComparison_103 : decode cX8_readComparison 103 = .ok (.ior, 1) := by decide +kernel
theorem dX8_readComparison_104 : decode cX8_readComparison 104 = .ok (.invokevirtual 106, 3) := by decide +kernel
theorem dX8_readComparison_107 : decode cX8_readComparison 107 = .ok (.iconst 1, 1) := by decide +kernel
theorem dX8_readComparison_108 : decode cX8_readComparison 108 = .ok (.ireturn, 1) := by decide +kernel
theorem dX8_valueCode_0 : decode cX8_valueCode 0 = .ok (.iload_n 0, 1) := by decide +kernel
theorem dX8_valueCode_1 : decode cX8_valueCode 1 = .ok (.bipush 100, 2) := by decide +kernel
theorem dX8_valueCode_3 : decode cX8_valueCode 3 = .ok (.if_icmp .lt 15, 3) := by decide +kernel
theorem dX8_valueCode_6 : decode cX8_valueCode 6 = .ok (.iload_n 0, 1) := by decide +kernel
theorem dX8_valueCode_7 : decode cX8_valueCode 7 = .ok (.sipush 10099, 3) := by decide +kernel
theorem dX8_valueCode_10 : decode cX8_valueCode 10 = .ok (.if_icmp .gt 8, 3) := by decide +kernel
theorem dX8_valueCode_13 : decode cX8_valueCode 13 = .ok (.iload_n 0, 1) := by decide +kernel
theorem dX8_valueCode_14 : decode cX8_valueCode 14 = .ok (.bipush 100, 2) := by decide +kernel
theorem dX8_valueCode_16 : decode cX8_valueCode 16 = .ok (.isub, 1) := by decide +kernel
theorem dX8_valueCode_17 : decode cX8_valueCode 17 = .ok (.ireturn, 1) := by decide +kernel
theorem dX8_valueCode_18 : decode cX8_valueCode 18 = .ok (.iload_n 0, 1) := by decide +kernel
theorem dX8_valueCode_19 : decode cX8_valueCode 19 = .ok (.bipush 13, 2) := by decide +kernel
theorem dX8_valueCode_21 : decode cX8_valueCode 21 = .ok (.isub, 1) := by decide +kernel
theorem dX8_valueCode_22 : decode cX8_valueCode 22 = .ok (.istore_n 1, 1) := by decide +kernel
theorem dX8_valueCode_23 : decode cX8_valueCode 23 = .ok (.iload_n 1, 1) := by decide +kernel
theorem dX8_valueCode_24 : decode cX8_valueCode 24 = .ok (.ifCond .lt 16, 3) := by decide +kernel
theorem dX8_valueCode_27 : decode cX8_valueCode 27 = .ok (.iload_n 1, 1) := by decide +kernel
theorem dX8_valueCode_28 : decode cX8_valueCode 28 = .ok (.iconst 5, 1) := by decide +kernel
theorem dX8_valueCode_29 : decode cX8_valueCode 29 = .ok (.if_icmp .ge 11, 3) := by decide +kernel
theorem dX8_valueCode_32 : decode cX8_valueCode 32 = .ok (.sipush 10000, 3) := by decide +kernel
theorem dX8_valueCode_35 : decode cX8_valueCode 35 = .ok (.iload_n 1, 1) := by decide +kernel
theorem dX8_valueCode_36 : decode cX8_valueCode 36 = .ok (.iadd, 1) := by decide +kernel
theorem dX8_valueCode_37 : decode cX8_valueCode 37 = .ok (.goto 4, 3) := by decide +kernel
theorem dX8_valueCode_40 : decode cX8_valueCode 40 = .ok (.iconst (-1), 1) := by decide +kernel
theorem dX8_valueCode_41 : decode cX8_valueCode 41 = .ok (.ireturn, 1) := by decide +kernel
theorem dX8_emit_0 : decode cX8_emit 0 = .ok (.aload_n 0, 1) := by decide +kernel
theorem dX8_emit_1 : decode cX8_emit 1 = .ok (.getfield 28, 3) := by decide +kernel
theorem dX8_emit_4 : decode cX8_emit 4 = .ok (.sipush 200, 3) := by decide +kernel
theorem dX8_emit_7 : decode cX8_emit 7 = .ok (.if_icmp .lt 4, 3) := by decide +kernel
theorem dX8_emit_10 : decode cX8_emit 10 = .ok (.return_, 1) := by decide +kernel
theorem dX8_emit_11 : decode cX8_emit 11 = .ok (.aload_n 0, 1) := by decide +kernel
theorem dX8_emit_12 : decode cX8_emit 12 = .ok (.getfield 25, 3) := by decide +kernel
theorem dX8_emit_15 : decode cX8_emit 15 = .ok (.aload_n 0, 1) := by decide +kernel
theorem dX8_emit_16 : decode cX8_emit 16 = .ok (.getfield 28, 3) := by decide +kernel
theorem dX8_emit_19 : decode cX8_emit 19 = .ok (.iload_n 1, 1) := by decide +kernel
theorem dX8_emit_20 : decode cX8_emit 20 = .ok (.iastore, 1) := by decide +kernel
theorem dX8_emit_21 : decode cX8_emit 21 = .ok (.aload_n 0, 1) := by decide +kernel
theorem dX8_emit_22 : decode cX8_emit 22 = .ok (.dup, 1) := by decide +kernel
theorem dX8_emit_23 : decode cX8_emit 23 = .ok (.getfield 28, 3) := by decide +kernel
theorem dX8_emit_26 : decode cX8_emit 26 = .ok (.iconst 1, 1) := by decide +kernel
theorem dX8_emit_27 : decode cX8_emit 27 = .ok (.iadd, 1) := by decide +kernel
theorem dX8_emit_28 : decode cX8_emit 28 = .ok (.putfield 28, 3) := by decide +kernel
theorem dX8_emit_31 : decode cX8_emit 31 = .ok (.return_, 1) := by decide +kernel
theorem dX9_init_0 : decode cX9_init 0 = .ok (.aload_n 0, 1) := by decide +kernel
theorem dX9_init_1 : decode cX9_init 1 = .ok (.invokespecial 1, 3) := by decide +kernel
theorem dX9_init_4 : decode cX9_init 4 = .ok (.return_, 1) := by decide +kernel
theorem dX9_leansMore_0 : decode cX9_leansMore 0 = .ok (.iload_n 3, 1) := by decide +kernel
theorem dX9_leansMore_1 : decode cX9_leansMore 1 = .ok (.iconst 1, 1) := by decide +kernel
theorem dX9_leansMore_2 : decode cX9_leansMore 2 = .ok (.iand, 1) := by decide +kernel
theorem dX9_leansMore_3 : decode cX9_leansMore 3 = .ok (.ifCond .eq 7, 3) := by decide +kernel
theorem dX9_leansMore_6 : decode cX9_leansMore 6 = .ok (.iconst 0, 1) := by decide +kernel
theorem dX9_leansMore_7 : decode cX9_leansMore 7 = .ok (.goto 10, 3) := by decide +kernel
theorem dX9_leansMore_10 : decode cX9_leansMore 10 = .ok (.aload_n 0, 1) := by decide +kernel
theorem dX9_leansMore_11 : decode cX9_leansMore 11 = .ok (.iload_n 1, 1) := by decide +kernel
theorem dX9_leansMore_12 : decode cX9_leansMore 12 = .ok (.iload_n 2, 1) := by decide +kernel
theorem dX9_leansMore_13 : decode cX9_leansMore 13 = .ok (.iload_n 3, 1) := by decide +kernel
theorem dX9_leansMore_14 : decode cX9_leansMore 14 = .ok (.invokespecial 7, 3) := by decide +kernel
theorem dX9_leansMore_17 : decode cX9_leansMore 17 = .ok (.ireturn, 1) := by decide +kernel
theorem dX9_bears_0 : decode cX9_bears 0 = .ok (.aload_n 0, 1) := by decide +kernel
theorem dX9_bears_1 : decode cX9_bears 1 = .ok (.iload_n 1, 1) := by decide +kernel
theorem dX9_bears_2 : decode cX9_bears 2 = .ok (.iload_n 2, 1) := by decide +kernel
theorem dX9_bears_3 : decode cX9_bears 3 = .ok (.invokespecial 11, 3) := by decide +kernel
theorem dX9_bears_6 : decode cX9_bears 6 = .ok (.iload_n 2, 1) := by decide +kernel
theorem dX9_bears_7 : decode cX9_bears 7 = .ok (.iadd, 1) := by decide +kernel
theorem dX9_bears_8 : decode cX9_bears 8 = .ok (.ireturn, 1) := by decide +kernel
theorem dX9_taps_0 : decode cX9_taps 0 = .ok (.aload_n 0, 1) := by decide +kernel
theorem dX9_taps_1 : decode cX9_taps 1 = .ok (.bipush 60, 2) := by decide +kernel
theorem dX9_taps_3 : decode cX9_taps 3 = .ok (.invokevirtual 15, 3) := by decide +kernel
theorem dX9_taps_6 : decode cX9_taps 6 = .ok (.iconst 0, 1) := by decide +kernel
theorem dX9_taps_7 : decode cX9_taps 7 = .ok (.aload_n 0, 1) := by decide +kernel
theorem dX9_taps_8 : decode cX9_taps 8 = .ok (.iload_n 1, 1) := by decide +kernel
theorem dX9_taps_9 : decode cX9_taps 9 = .ok (.invokespecial 21, 3) := by decide +kernel
theorem dX9_taps_12 : decode cX9_taps 12 = .ok (.isub, 1) := by decide +kernel
theorem dX9_taps_13 : decode cX9_taps 13 = .ok (.ireturn, 1) := by decide +kernel
theorem dX9_halves_0 : decode cX9_halves 0 = .ok (.aload_n 0, 1) := by decide +kernel
theorem dX9_halves_1 : decode cX9_halves 1 = .ok (.bipush 61, 2) := by decide +kernel
theorem dX9_halves_3 : decode cX9_halves 3 = .ok (.invokevirtual 15, 3) := by decide +kernel
theorem dX9_halves_6 : decode cX9_halves 6 = .ok (.aload_n 0, 1) := by decide +kernel
theorem dX9_halves_7 : decode cX9_halves 7 = .ok (.iload_n 1, 1) := by decide +kernel
theorem dX9_halves_8 : decode cX9_halves 8 = .ok (.invokespecial 25, 3) := by decide +kernel
theorem dX9_halves_11 : decode cX9_halves 11 = .ok (.aload_n 0, 1) := by decide +kernel
theorem dX9_halves_12 : decode cX9_halves 12 = .ok (.aload_n 0, 1) := by decide +kernel
theorem dX9_halves_13 : decode cX9_halves 13 = .ok (.getfield 28, 3) := by decide +kernel
theorem dX9_halves_16 : decode cX9_halves 16 = .ok (.invokevirtual 32, 3) := by decide +kernel
theorem dX9_halves_19 : decode cX9_halves 19 = .ok (.iadd, 1) := by decide +kernel
theorem dX9_halves_20 : decode cX9_halves 20 = .ok (.ireturn, 1) := by decide +kernel
theorem dX10_init_0 : decode cX10_init 0 = .ok (.aload_n 0, 1) := by decide +kernel
theorem dX10_init_1 : decode cX10_init 1 = .ok (.invokespecial 3, 3) := by decide +kernel
theorem dX10_init_4 : decode cX10_init 4 = .ok (.aload_n 0, 1) := by decide +kernel
theorem dX10_init_5 : decode cX10_init 5 = .ok (.iconst 0, 1) := by decide +kernel
theorem dX10_init_6 : decode cX10_init 6 = .ok (.putfield 9, 3) := by decide +kernel
theorem dX10_init_9 : decode cX10_init 9 = .ok (.aload_n 0, 1) := by decide +kernel
theorem dX10_init_10 : decode cX10_init 10 = .ok (.bipush 6, 2) := by decide +kernel
theorem dX10_init_12 : decode cX10_init 12 = .ok (.newarray .int, 2) := by decide +kernel
theorem dX10_init_14 : decode cX10_init 14 = .ok (.putfield 15, 3) := by decide +kernel
theorem dX10_init_17 : decode cX10_init 17 = .ok (.aload_n 0, 1) := by decide +kernel
theorem dX10_init_18 : decode cX10_init 18 = .ok (.bipush 6, 2) := by decide +kernel
theorem dX10_init_20 : decode cX10_init 20 = .ok (.newarray .int, 2) := by decide +kernel
theorem dX10_init_22 : decode cX10_init 22 = .ok (.putfield 19, 3) := by decide +kernel
theorem dX10_init_25 : decode cX10_init 25 = .ok (.aload_n 0, 1) := by decide +kernel
theorem dX10_init_26 : decode cX10_init 26 = .ok (.bipush 6, 2) := by decide +kernel
theorem dX10_init_28 : decode cX10_init 28 = .ok (.newarray .int, 2) := by decide +kernel
theorem dX10_init_30 : decode cX10_init 30 = .ok (.putfield 22, 3) := by decide +kernel
theorem dX10_init_33 : decode cX10_init 33 = .ok (.aload_n 0, 1) := by decide +kernel
theorem dX10_init_34 : decode cX10_init 34 = .ok (.bipush 6, 2) := by decide +kernel
theorem dX10_init_36 : decode cX10_init 36 = .ok (.newarray .int, 2) := by decide +kernel
theorem dX10_init_38 : decode cX10_init 38 = .ok (.putfield 25, 3) := by decide +kernel
theorem dX10_init_41 : decode cX10_init 41 = .ok (.aload_n 0, 1) := by decide +kernel
theorem dX10_init_42 : decode cX10_init 42 = .ok (.bipush 16, 2) := by decide +kernel
theorem dX10_init_44 : decode cX10_init 44 = .ok (.newarray .int, 2) := by decide +kernel
theorem dX10_init_46 : decode cX10_init 46 = .ok (.putfield 28, 3) := by decide +kernel
theorem dX10_init_49 : decode cX10_init 49 = .ok (.aload_n 0, 1) := by decide +kernel
theorem dX10_init_50 : decode cX10_init 50 = .ok (.bipush 6, 2) := by decide +kernel
theorem dX10_init_52 : decode cX10_init 52 = .ok (.newarray .int, 2) := by decide +kernel
theorem dX10_init_54 : decode cX10_init 54 = .ok (.putfield 31, 3) := by decide +kernel
theorem dX10_init_57 : decode cX10_init 57 = .ok (.aload_n 0, 1) := by decide +kernel
theorem dX10_init_58 : decode cX10_init 58 = .ok (.bipush 6, 2) := by decide +kernel
theorem dX10_init_60 : decode cX10_init 60 = .ok (.newarray .int, 2) := by decide +kernel
theorem dX10_init_62 : decode cX10_init 62 = .ok (.putfield 34, 3) := by decide +kernel
theorem dX10_init_65 : decode cX10_init 65 = .ok (.aload_n 0, 1) := by decide +kernel
theorem dX10_init_66 : decode cX10_init 66 = .ok (.new 37, 3) := by decide +kernel
theorem dX10_init_69 : decode cX10_init 69 = .ok (.dup, 1) := by decide +kernel
theorem dX10_init_70 : decode cX10_init 70 = .ok (.invokespecial 39, 3) := by decide +kernel
theorem dX10_init_73 : decode cX10_init 73 = .ok (.putfield 40, 3) := by decide +kernel
theorem dX10_init_76 : decode cX10_init 76 = .ok (.aload_n 0, 1) := by decide +kernel
theorem dX10_init_77 : decode cX10_init 77 = .ok (.bipush 12, 2) := by decide +kernel
theorem dX10_init_79 : decode cX10_init 79 = .ok (.putfield 44, 3) := by decide +kernel
theorem dX10_init_82 : decode cX10_init 82 = .ok (.aload_n 0, 1) := by decide +kernel
theorem dX10_init_83 : decode cX10_init 83 = .ok (.iconst 0, 1) := by decide +kernel
theorem dX10_init_84 : decode cX10_init 84 = .ok (.putfield 47, 3) := by decide +kernel
theorem dX10_init_87 : decode cX10_init 87 = .ok (.aload_n 0, 1) := by decide +kernel
theorem dX10_init_88 : decode cX10_init 88 = .ok (.iconst 1, 1) := by decide +kernel
theorem dX10_init_89 : decode cX10_init 89 = .ok (.putfield 50, 3) := by decide +kernel
theorem dX10_init_92 : decode cX10_init 92 = .ok (.aload_n 0, 1) := by decide +kernel
theorem dX10_init_93 : decode cX10_init 93 = .ok (.new 53, 3) := by decide +kernel
theorem dX10_init_96 : decode cX10_init 96 = .ok (.dup, 1) := by decide +kernel
theorem dX10_init_97 : decode cX10_init 97 = .ok (.invokespecial 55, 3) := by decide +kernel
theorem dX10_init_100 : decode cX10_init 100 = .ok (.putfield 56, 3) := by decide +kernel
theorem dX10_init_103 : decode cX10_init 103 = .ok (.aload_n 0, 1) := by decide +kernel
theorem dX10_init_104 : decode cX10_init 104 = .ok (.new 60, 3) := by decide +kernel
theorem dX10_init_107 : decode cX10_init 107 = .ok (.dup, 1) := by decide +kernel
theorem dX10_init_108 : decode cX10_init 108 = .ok (.invokespecial 62, 3) := by decide +kernel
theorem dX10_init_111 : decode cX10_init 111 = .ok (.putfield 63, 3) := by decide +kernel
theorem dX10_init_114 : decode cX10_init 114 = .ok (.aload_n 0, 1) := by decide +kernel
theorem dX10_init_115 : decode cX10_init 115 = .ok (.aload_n 1, 1) := by decide +kernel
theorem dX10_init_116 : decode cX10_init 116 = .ok (.putfield 67, 3) := by decide +kernel
theorem dX10_init_119 : decode cX10_init 119 = .ok (.aload_n 0, 1) := by decide +kernel
theorem dX10_init_120 : decode cX10_init 120 = .ok (.getfield 28, 3) := by decide +kernel
theorem dX10_init_123 : decode cX10_init 123 = .ok (.bipush 6, 2) := by decide +kernel
theorem dX10_init_125 : decode cX10_init 125 = .ok (.invokestatic 71, 3) := by decide +kernel
theorem dX10_init_128 : decode cX10_init 128 = .ok (.return_, 1) := by decide +kernel
theorem dX10_take_0 : decode cX10_take 0 = .ok (.aload_n 0, 1) := by decide +kernel
theorem dX10_take_1 : decode cX10_take 1 = .ok (.aload_n 1, 1) := by decide +kernel
theorem dX10_take_2 : decode cX10_take 2 = .ok (.getfield 9, 3) := by decide +kernel
theorem dX10_take_5 : decode cX10_take 5 = .ok (.putfield 9, 3) := by decide +kernel
theorem dX10_take_8 : decode cX10_take 8 = .ok (.aload_n 1, 1) := by decide +kernel
theorem dX10_take_9 : decode cX10_take 9 = .ok (.getfield 15, 3) := by decide +kernel
theorem dX10_take_12 : decode cX10_take 12 = .ok (.iconst 0, 1) := by decide +kernel
theorem dX10_take_13 : decode cX10_take 13 = .ok (.aload_n 0, 1) := by decide +kernel
theorem dX10_take_14 : decode cX10_take 14 = .ok (.getfield 15, 3) := by decide +kernel
theorem dX10_take_17 : decode cX10_take 17 = .ok (.iconst 0, 1) := by decide +kernel
theorem dX10_take_18 : decode cX10_take 18 = .ok (.bipush 6, 2) := by decide +kernel
theorem dX10_take_20 : decode cX10_take 20 = .ok (.invokestatic 77, 3) := by decide +kernel
theorem dX10_take_23 : decode cX10_take 23 = .ok (.aload_n 1, 1) := by decide +kernel
theorem dX10_take_24 : decode cX10_take 24 = .ok (.getfield 19, 3) := by decide +kernel
theorem dX10_take_27 : decode cX10_take 27 = .ok (.iconst 0, 1) := by decide +kernel
theorem dX10_take_28 : decode cX10_take 28 = .ok (.aload_n 0, 1) := by decide +kernel
theorem dX10_take_29 : decode cX10_take 29 = .ok (.getfield 19, 3) := by decide +kernel
theorem dX10_take_32 : decode cX10_take 32 = .ok (.iconst 0, 1) := by decide +kernel
theorem dX10_take_33 : decode cX10_take 33 = .ok (.bipush 6, 2) := by decide +kernel
theorem dX10_take_35 : decode cX10_take 35 = .ok (.invokestatic 77, 3) := by decide +kernel
theorem dX10_take_38 : decode cX10_take 38 = .ok (.aload_n 1, 1) := by decide +kernel
theorem dX10_take_39 : decode cX10_take 39 = .ok (.getfield 22, 3) := by decide +kernel
theorem dX10_take_42 : decode cX10_take 42 = .ok (.iconst 0, 1) := by decide +kernel
theorem dX10_take_43 : decode cX10_take 43 = .ok (.aload_n 0, 1) := by decide +kernel
theorem dX10_take_44 : decode cX10_take 44 = .ok (.getfield 22, 3) := by decide +kernel
theorem dX10_take_47 : decode cX10_take 47 = .ok (.iconst 0, 1) := by decide +kernel
theorem dX10_take_48 : decode cX10_take 48 = .ok (.bipush 6, 2) := by decide +kernel
theorem dX10_take_50 : decode cX10_take 50 = .ok (.invokestatic 77, 3) := by decide +kernel
theorem dX10_take_53 : decode cX10_take 53 = .ok (.aload_n 1, 1) := by decide +kernel
theorem dX10_take_54 : decode cX10_take 54 = .ok (.getfield 25, 3) := by decide +kernel
theorem dX10_take_57 : decode cX10_take 57 = .ok (.iconst 0, 1) := by decide +kernel
theorem dX10_take_58 : decode cX10_take 58 = .ok (.aload_n 0, 1) := by decide +kernel
theorem dX10_take_59 : decode cX10_take 59 = .ok (.getfield 25, 3) := by decide +kernel
theorem dX10_take_62 : decode cX10_take 62 = .ok (.iconst 0, 1) := by decide +kernel
theorem dX10_take_63 : decode cX10_take 63 = .ok (.bipush 6, 2) := by decide +kernel
theorem dX10_take_65 : decode cX10_take 65 = .ok (.invokestatic 77, 3) := by decide +kernel
theorem dX10_take_68 : decode cX10_take 68 = .ok (.aload_n 1, 1) := by decide +kernel
theorem dX10_take_69 : decode cX10_take 69 = .ok (.getfield 28, 3) := by decide +kernel
theorem dX10_take_72 : decode cX10_take 72 = .ok (.iconst 0, 1) := by decide +kernel
theorem dX10_take_73 : decode cX10_take 73 = .ok (.aload_n 0, 1) := by decide +kernel
theorem dX10_take_74 : decode cX10_take 74 = .ok (.getfield 28, 3) := by decide +kernel
theorem dX10_take_77 : decode cX10_take 77 = .ok (.iconst 0, 1) := by decide +kernel
theorem dX10_take_78 : decode cX10_take 78 = .ok (.bipush 16, 2) := by decide +kernel
theorem dX10_take_80 : decode cX10_take 80 = .ok (.invokestatic 77, 3) := by decide +kernel
theorem dX10_take_83 : decode cX10_take 83 = .ok (.aload_n 1, 1) := by decide +kernel
theorem dX10_take_84 : decode cX10_take 84 = .ok (.getfield 31, 3) := by decide +kernel
theorem dX10_take_87 : decode cX10_take 87 = .ok (.iconst 0, 1) := by decide +kernel
theorem dX10_take_88 : decode cX10_take 88 = .ok (.aload_n 0, 1) := by decide +kernel
theorem dX10_take_89 : decode cX10_take 89 = .ok (.getfield 31, 3) := by decide +kernel
theorem dX10_take_92 : decode cX10_take 92 = .ok (.iconst 0, 1) := by decide +kernel
theorem dX10_take_93 : decode cX10_take 93 = .ok (.bipush 6, 2) := by decide +kernel
theorem dX10_take_95 : decode cX10_take 95 = .ok (.invokestatic 77, 3) := by decide +kernel
theorem dX10_take_98 : decode cX10_take 98 = .ok (.aload_n 1, 1) := by decide +kernel
theorem dX10_take_99 : decode cX10_take 99 = .ok (.getfield 34, 3) := by decide +kernel
theorem dX10_take_102 : decode cX10_take 102 = .ok (.iconst 0, 1) := by decide +kernel
theorem dX10_take_103 : decode cX10_take 103 = .ok (.aload_n 0, 1) := by decide +kernel
theorem dX10_take_104 : decode cX10_take 104 = .ok (.getfield 34, 3) := by decide +kernel
theorem dX10_take_107 : decode cX10_take 107 = .ok (.iconst 0, 1) := by decide +kernel
theorem dX10_take_108 : decode cX10_take 108 = .ok (.bipush 6, 2) := by decide +kernel
theorem dX10_take_110 : decode cX10_take 110 = .ok (.invokestatic 77, 3) := by decide +kernel
theorem dX10_take_113 : decode cX10_take 113 = .ok (.aload_n 0, 1) := by decide +kernel
theorem dX10_take_114 : decode cX10_take 114 = .ok (.getfield 40, 3) := by decide +kernel
theorem dX10_take_117 : decode cX10_take 117 = .ok (.aload_n 1, 1) := by decide +kernel
theorem dX10_take_118 : decode cX10_take 118 = .ok (.getfield 40, 3) := by decide +kernel
theorem dX10_take_121 : decode cX10_take 121 = .ok (.invokevirtual 83, 3) := by decide +kernel
theorem dX10_take_124 : decode cX10_take 124 = .ok (.aload_n 0, 1) := by decide +kernel
theorem dX10_take_125 : decode cX10_take 125 = .ok (.aload_n 1, 1) := by decide +kernel
theorem dX10_take_126 : decode cX10_take 126 = .ok (.getfield 44, 3) := by decide +kernel
theorem dX10_take_129 : decode cX10_take 129 = .ok (.putfield 44, 3) := by decide +kernel
theorem dX10_take_132 : decode cX10_take 132 = .ok (.aload_n 0, 1) := by decide +kernel
theorem dX10_take_133 : decode cX10_take 133 = .ok (.aload_n 1, 1) := by decide +kernel
theorem dX10_take_134 : decode cX10_take 134 = .ok (.getfield 47, 3) := by decide +kernel
theorem dX10_take_137 : decode cX10_take 137 = .ok (.putfield 47, 3) := by decide +kernel
theorem dX10_take_140 : decode cX10_take 140 = .ok (.aload_n 0, 1) := by decide +kernel
theorem dX10_take_141 : decode cX10_take 141 = .ok (.aload_n 1, 1) := by decide +kernel
theorem dX10_take_142 : decode cX10_take 142 = .ok (.getfield 50, 3) := by decide +kernel
theorem dX10_take_145 : decode cX10_take 145 = .ok (.putfield 50, 3) := by decide +kernel
theorem dX10_take_148 : decode cX10_take 148 = .ok (.aload_n 0, 1) := by decide +kernel
theorem dX10_take_149 : decode cX10_take 149 = .ok (.getfield 56, 3) := by decide +kernel
theorem dX10_take_152 : decode cX10_take 152 = .ok (.aload_n 1, 1) := by decide +kernel
theorem dX10_take_153 : decode cX10_take 153 = .ok (.getfield 56, 3) := by decide +kernel
theorem dX10_take_156 : decode cX10_take 156 = .ok (.invokevirtual 87, 3) := by decide +kernel
theorem dX10_take_159 : decode cX10_take 159 = .ok (.aload_n 0, 1) := by decide +kernel
theorem dX10_take_160 : decode cX10_take 160 = .ok (.getfield 63, 3) := by decide +kernel
theorem dX10_take_163 : decode cX10_take 163 = .ok (.aload_n 1, 1) := by decide +kernel
theorem dX10_take_164 : decode cX10_take 164 = .ok (.getfield 63, 3) := by decide +kernel
theorem dX10_take_167 : decode cX10_take 167 = .ok (.invokevirtual 90, 3) := by decide +kernel
theorem dX10_take_170 : decode cX10_take 170 = .ok (.return_, 1) := by decide +kernel
theorem dX10_add_0 : decode cX10_add 0 = .ok (.aload_n 0, 1) := by decide +kernel
theorem dX10_add_1 : decode cX10_add 1 = .ok (.getfield 9, 3) := by decide +kernel
theorem dX10_add_4 : decode cX10_add 4 = .ok (.istore 5, 2) := by decide +kernel
theorem dX10_add_6 : decode cX10_add 6 = .ok (.aload_n 0, 1) := by decide +kernel
theorem dX10_add_7 : decode cX10_add 7 = .ok (.getfield 15, 3) := by decide +kernel
theorem dX10_add_10 : decode cX10_add 10 = .ok (.iload 5, 2) := by decide +kernel
theorem dX10_add_12 : decode cX10_add 12 = .ok (.iload_n 1, 1) := by decide +kernel
theorem dX10_add_13 : decode cX10_add 13 = .ok (.iastore, 1) := by decide +kernel
theorem dX10_add_14 : decode cX10_add 14 = .ok (.aload_n 0, 1) := by decide +kernel
theorem dX10_add_15 : decode cX10_add 15 = .ok (.getfield 19, 3) := by decide +kernel
theorem dX10_add_18 : decode cX10_add 18 = .ok (.iload 5, 2) := by decide +kernel
theorem dX10_add_20 : decode cX10_add 20 = .ok (.iload_n 3, 1) := by decide +kernel
theorem dX10_add_21 : decode cX10_add 21 = .ok (.iastore, 1) := by decide +kernel
theorem dX10_add_22 : decode cX10_add 22 = .ok (.aload_n 0, 1) := by decide +kernel
theorem dX10_add_23 : decode cX10_add 23 = .ok (.getfield 22, 3) := by decide +kernel
theorem dX10_add_26 : decode cX10_add 26 = .ok (.iload 5, 2) := by decide +kernel
theorem dX10_add_28 : decode cX10_add 28 = .ok (.iload 4, 2) := by decide +kernel
theorem dX10_add_30 : decode cX10_add 30 = .ok (.iastore, 1) := by decide +kernel
theorem dX10_add_31 : decode cX10_add 31 = .ok (.aload_n 0, 1) := by decide +kernel
theorem dX10_add_32 : decode cX10_add 32 = .ok (.getfield 40, 3) := by decide +kernel
theorem dX10_add_35 : decode cX10_add 35 = .ok (.getfield 93, 3) := by decide +kernel
theorem dX10_add_38 : decode cX10_add 38 = .ok (.iload 5, 2) := by decide +kernel
theorem dX10_add_40 : decode cX10_add 40 = .ok (.iload_n 2, 1) := by decide +kernel
theorem dX10_add_41 : decode cX10_add 41 = .ok (.iastore, 1) := by decide +kernel
theorem dX10_add_42 : decode cX10_add 42 = .ok (.aload_n 0, 1) := by decide +kernel
theorem dX10_add_43 : decode cX10_add 43 = .ok (.getfield 40, 3) := by decide +kernel
theorem dX10_add_46 : decode cX10_add 46 = .ok (.iload 5, 2) := by decide +kernel
theorem dX10_add_48 : decode cX10_add 48 = .ok (.iconst 0, 1) := by decide +kernel
theorem dX10_add_49 : decode cX10_add 49 = .ok (.invokevirtual 96, 3) := by decide +kernel
theorem dX10_add_52 : decode cX10_add 52 = .ok (.pop, 1) := by decide +kernel
theorem dX10_add_53 : decode cX10_add 53 = .ok (.aload_n 0, 1) := by decide +kernel
theorem dX10_add_54 : decode cX10_add 54 = .ok (.iload 5, 2) := by decide +kernel
theorem dX10_add_56 : decode cX10_add 56 = .ok (.invokevirtual 100, 3) := by decide +kernel
theorem dX10_add_59 : decode cX10_add 59 = .ok (.aload_n 0, 1) := by decide +kernel
theorem dX10_add_60 : decode cX10_add 60 = .ok (.dup, 1) := by decide +kernel
theorem dX10_add_61 : decode cX10_add 61 = .ok (.getfield 9, 3) := by decide +kernel
theorem dX10_add_64 : decode cX10_add 64 = .ok (.iconst 1, 1) := by decide +kernel
theorem dX10_add_65 : decode cX10_add 65 = .ok (.iadd, 1) := by decide +kernel
theorem dX10_add_66 : decode cX10_add 66 = .ok (.putfield 9, 3) := by decide +kernel
theorem dX10_add_69 : decode cX10_add 69 = .ok (.iload 5, 2) := by decide +kernel
theorem dX10_add_71 : decode cX10_add 71 = .ok (.ireturn, 1) := by decide +kernel
theorem dX10_setGap_0 : decode cX10_setGap 0 = .ok (.aload_n 0, 1) := by decide +kernel
theorem dX10_setGap_1 : decode cX10_setGap 1 = .ok (.getfield 19, 3) := by decide +kernel
theorem dX10_setGap_4 : decode cX10_setGap 4 = .ok (.iload_n 1, 1) := by decide +kernel
theorem dX10_setGap_5 : decode cX10_setGap 5 = .ok (.iaload, 1) := by decide +kernel
theorem dX10_setGap_6 : decode cX10_setGap 6 = .ok (.istore_n 3, 1) := by decide +kernel
theorem dX10_setGap_7 : decode cX10_setGap 7 = .ok (.aload_n 0, 1) := by decide +kernel
theorem dX10_setGap_8 : decode cX10_setGap 8 = .ok (.getfield 19, 3) := by decide +kernel
theorem dX10_setGap_11 : decode cX10_setGap 11 = .ok (.iload_n 1, 1) := by decide +kernel
theorem dX10_setGap_12 : decode cX10_setGap 12 = .ok (.iload_n 2, 1) := by decide +kernel
theorem dX10_setGap_13 : decode cX10_setGap 13 = .ok (.iastore, 1) := by decide +kernel
theorem dX10_setGap_14 : decode cX10_setGap 14 = .ok (.aload_n 0, 1) := by decide +kernel
theorem dX10_setGap_15 : decode cX10_setGap 15 = .ok (.iload_n 1, 1) := by decide +kernel
theorem dX10_setGap_16 : decode cX10_setGap 16 = .ok (.invokevirtual 100, 3) := by decide +kernel
theorem dX10_setGap_19 : decode cX10_setGap 19 = .ok (.iload_n 3, 1) := by decide +kernel
theorem dX10_setGap_20 : decode cX10_setGap 20 = .ok (.ireturn, 1) := by decide +kernel
theorem dX10_setKind_0 : decode cX10_setKind 0 = .ok (.aload_n 0, 1) := by decide +kernel
theorem dX10_setKind_1 : decode cX10_setKind 1 = .ok (.getfield 15, 3) := by decide +kernel
theorem dX10_setKind_4 : decode cX10_setKind 4 = .ok (.iload_n 1, 1) := by decide +kernel
theorem dX10_setKind_5 : decode cX10_setKind 5 = .ok (.iaload, 1) := by decide +kernel
theorem dX10_setKind_6 : decode cX10_setKind 6 = .ok (.istore_n 3, 1) := by decide +kernel
theorem dX10_setKind_7 : decode cX10_setKind 7 = .ok (.aload_n 0, 1) := by decide +kernel
theorem dX10_setKind_8 : decode cX10_setKind 8 = .ok (.getfield 15, 3) := by decide +kernel
theorem dX10_setKind_11 : decode cX10_setKind 11 = .ok (.iload_n 1, 1) := by decide +kernel
theorem dX10_setKind_12 : decode cX10_setKind 12 = .ok (.iload_n 2, 1) := by decide +kernel
theorem dX10_setKind_13 : decode cX10_setKind 13 = .ok (.iastore, 1) := by decide +kernel
theorem dX10_setKind_14 : decode cX10_setKind 14 = .ok (.aload_n 0, 1) := by decide +kernel
theorem dX10_setKind_15 : decode cX10_setKind 15 = .ok (.iload_n 1, 1) := by decide +kernel
theorem dX10_setKind_16 : decode cX10_setKind 16 = .ok (.invokevirtual 100, 3) := by decide +kernel
theorem dX10_setKind_19 : decode cX10_setKind 19 = .ok (.iload_n 3, 1) := by decide +kernel
theorem dX10_setKind_20 : decode cX10_setKind 20 = .ok (.ireturn, 1) := by decide +kernel
theorem dX10_settleBears_0 : decode cX10_settleBears 0 = .ok (.aload_n 0, 1) := by decide +kernel
theorem dX10_settleBears_1 : decode cX10_settleBears 1 = .ok (.getfield 25, 3) := by decide +kernel
theorem dX10_settleBears_4 : decode cX10_settleBears 4 = .ok (.iload_n 1, 1) := by decide +kernel
theorem dX10_settleBears_5 : decode cX10_settleBears 5 = .ok (.aload_n 0, 1) := by decide +kernel
theorem dX10_settleBears_6 : decode cX10_settleBears 6 = .ok (.getfield 67, 3) := by decide +kernel
theorem dX10_settleBears_9 : decode cX10_settleBears 9 = .ok (.aload_n 0, 1) := by decide +kernel
theorem dX10_settleBears_10 : decode cX10_settleBears 10 = .ok (.getfield 15, 3) := by decide +kernel
theorem dX10_settleBears_13 : decode cX10_settleBears 13 = .ok (.iload_n 1, 1) := by decide +kernel
theorem dX10_settleBears_14 : decode cX10_settleBears 14 = .ok (.iaload, 1) := by decide +kernel
theorem dX10_settleBears_15 : decode cX10_settleBears 15 = .ok (.aaload, 1) := by decide +kernel
theorem dX10_settleBears_16 : decode cX10_settleBears 16 = .ok (.aload_n 0, 1) := by decide +kernel
theorem dX10_settleBears_17 : decode cX10_settleBears 17 = .ok (.getfield 19, 3) := by decide +kernel
theorem dX10_settleBears_20 : decode cX10_settleBears 20 = .ok (.iload_n 1, 1) := by decide +kernel
theorem dX10_settleBears_21 : decode cX10_settleBears 21 = .ok (.iaload, 1) := by decide +kernel
theorem dX10_settleBears_22 : decode cX10_settleBears 22 = .ok (.iload_n 1, 1) := by decide +kernel
theorem dX10_settleBears_23 : decode cX10_settleBears 23 = .ok (.invokevirtual 104, 3) := by decide +kernel
theorem dX10_settleBears_26 : decode cX10_settleBears 26 = .ok (.iastore, 1) := by decide +kernel
theorem dX10_settleBears_27 : decode cX10_settleBears 27 = .ok (.return_, 1) := by decide +kernel
theorem dX10_isPiece_0 : decode cX10_isPiece 0 = .ok (.iload_n 1, 1) := by decide +kernel
theorem dX10_isPiece_1 : decode cX10_isPiece 1 = .ok (.ifCond .lt 15, 3) := by decide +kernel
theorem dX10_isPiece_4 : decode cX10_isPiece 4 = .ok (.iload_n 1, 1) := by decide +kernel
theorem dX10_isPiece_5 : decode cX10_isPiece 5 = .ok (.aload_n 0, 1) := by decide +kernel
theorem dX10_isPiece_6 : decode cX10_isPiece 6 = .ok (.getfield 9, 3) := by decide +kernel
theorem dX10_isPiece_9 : decode cX10_isPiece 9 = .ok (.if_icmp .ge 7, 3) := by decide +kernel
theorem dX10_isPiece_12 : decode cX10_isPiece 12 = .ok (.iconst 1, 1) := by decide +kernel
theorem dX10_isPiece_13 : decode cX10_isPiece 13 = .ok (.goto 4, 3) := by decide +kernel
theorem dX10_isPiece_16 : decode cX10_isPiece 16 = .ok (.iconst 0, 1) := by decide +kernel
theorem dX10_isPiece_17 : decode cX10_isPiece 17 = .ok (.ireturn, 1) := by decide +kernel
theorem dX10_isAct_0 : decode cX10_isAct 0 = .ok (.iload_n 1, 1) := by decide +kernel
theorem dX10_isAct_1 : decode cX10_isAct 1 = .ok (.ifCond .lt 15, 3) := by decide +kernel
theorem dX10_isAct_4 : decode cX10_isAct 4 = .ok (.iload_n 1, 1) := by decide +kernel
theorem dX10_isAct_5 : decode cX10_isAct 5 = .ok (.aload_n 0, 1) := by decide +kernel
theorem dX10_isAct_6 : decode cX10_isAct 6 = .ok (.getfield 9, 3) := by decide +kernel
theorem dX10_isAct_9 : decode cX10_isAct 9 = .ok (.if_icmp .gt 7, 3) := by decide +kernel
theorem dX10_isAct_12 : decode cX10_isAct 12 = .ok (.iconst 1, 1) := by decide +kernel
theorem dX10_isAct_13 : decode cX10_isAct 13 = .ok (.goto 4, 3) := by decide +kernel
theorem dX10_isAct_16 : decode cX10_isAct 16 = .ok (.iconst 0, 1) := by decide +kernel
theorem dX10_isAct_17 : decode cX10_isAct 17 = .ok (.ireturn, 1) := by decide +kernel
theorem dX10_isSet_0 : decode cX10_isSet 0 = .ok (.iload_n 1, 1) := by decide +kernel
theorem dX10_isSet_1 : decode cX10_isSet 1 = .ok (.ifCond .lt 17, 3) := by decide +kernel
theorem dX10_isSet_4 : decode cX10_isSet 4 = .ok (.iload_n 1, 1) := by decide +kernel
theorem dX10_isSet_5 : decode cX10_isSet 5 = .ok (.iconst 1, 1) := by decide +kernel
theorem dX10_isSet_6 : decode cX10_isSet 6 = .ok (.aload_n 0, 1) := by decide +kernel
theorem dX10_isSet_7 : decode cX10_isSet 7 = .ok (.getfield 9, 3) := by decide +kernel
theorem dX10_isSet_10 : decode cX10_isSet 10 = .ok (.ishl, 1) := by decide +kernel
theorem dX10_isSet_11 : decode cX10_isSet 11 = .ok (.if_icmp .ge 7, 3) := by decide +kernel
theorem dX10_isSet_14 : decode cX10_isSet 14 = .ok (.iconst 1, 1) := by decide +kernel
theorem dX10_isSet_15 : decode cX10_isSet 15 = .ok (.goto 4, 3) := by decide +kernel
theorem dX10_isSet_18 : decode cX10_isSet 18 = .ok (.iconst 0, 1) := by decide +kernel
theorem dX10_isSet_19 : decode cX10_isSet 19 = .ok (.ireturn, 1) := by decide +kernel
theorem dX10_isOver_0 : decode cX10_isOver 0 = .ok (.aload_n 1, 1) := by decide +kernel
theorem dX10_isOver_1 : decode cX10_isOver 1 = .ok (.getfield 108, 3) := by decide +kernel
theorem dX10_isOver_4 : decode cX10_isOver 4 = .ok (.aload_n 0, 1) := by decide +kernel
theorem dX10_isOver_5 : decode cX10_isOver 5 = .ok (.getfield 44, 3) := by decide +kernel
theorem dX10_isOver_8 : decode cX10_isOver 8 = .ok (.if_icmp .lt 7, 3) := by decide +kernel
theorem dX10_isOver_11 : decode cX10_isOver 11 = .ok (.iconst 1, 1) := by decide +kernel
theorem dX10_isOver_12 : decode cX10_isOver 12 = .ok (.goto 4, 3) := by decide +kernel
theorem dX10_isOver_15 : decode cX10_isOver 15 = .ok (.iconst 0, 1) := by decide +kernel
theorem dX10_isOver_16 : decode cX10_isOver 16 = .ok (.ireturn, 1) := by decide +kernel
theorem dX10_sayingOf_0 : decode cX10_sayingOf 0 = .ok (.iload_n 1, 1) := by decide +kernel
theorem dX10_sayingOf_1 : decode cX10_sayingOf 1 = .ok (.ifCond .lt 18, 3) := by decide +kernel
theorem dX10_sayingOf_4 : decode cX10_sayingOf 4 = .ok (.iload_n 1, 1) := by decide +kernel
theorem dX10_sayingOf_5 : decode cX10_sayingOf 5 = .ok (.bipush 16, 2) := by decide +kernel
theorem dX10_sayingOf_7 : decode cX10_sayingOf 7 = .ok (.if_icmp .ge 12, 3) := by decide +kernel
theorem dX10_sayingOf_10 : decode cX10_sayingOf 10 = .ok (.aload_n 0, 1) := by decide +kernel
theorem dX10_sayingOf_11 : decode cX10_sayingOf 11 = .ok (.getfield 28, 3) := by decide +kernel
theorem dX10_sayingOf_14 : decode cX10_sayingOf 14 = .ok (.iload_n 1, 1) := by decide +kernel
theorem dX10_sayingOf_15 : decode cX10_sayingOf 15 = .ok (.iaload, 1) := by decide +kernel
theorem dX10_sayingOf_16 : decode cX10_sayingOf 16 = .ok (.goto 4, 3) := by decide +kernel
theorem dX10_sayingOf_19 : decode cX10_sayingOf 19 = .ok (.iconst 0, 1) := by decide +kernel
theorem dX10_sayingOf_20 : decode cX10_sayingOf 20 = .ok (.ireturn, 1) := by decide +kernel
theorem dX10_wordOf_0 : decode cX10_wordOf 0 = .ok (.aload_n 0, 1) := by decide +kernel
theorem dX10_wordOf_1 : decode cX10_wordOf 1 = .ok (.iload_n 1, 1) := by decide +kernel
theorem dX10_wordOf_2 : decode cX10_wordOf 2 = .ok (.invokevirtual 111, 3) := by decide +kernel
theorem dX10_wordOf_5 : decode cX10_wordOf 5 = .ok (.iconst 2, 1) := by decide +kernel
theorem dX10_wordOf_6 : decode cX10_wordOf 6 = .ok (.ishr, 1) := by decide +kernel
theorem dX10_wordOf_7 : decode cX10_wordOf 7 = .ok (.ireturn, 1) := by decide +kernel
theorem dX10_hushOf_0 : decode cX10_hushOf 0 = .ok (.aload_n 0, 1) := by decide +kernel
theorem dX10_hushOf_1 : decode cX10_hushOf 1 = .ok (.iload_n 1, 1) := by decide +kernel
theorem dX10_hushOf_2 : decode cX10_hushOf 2 = .ok (.invokevirtual 111, 3) := by decide +kernel
theorem dX10_hushOf_5 : decode cX10_hushOf 5 = .ok (.iconst 3, 1) := by decide +kernel
theorem dX10_hushOf_6 : decode cX10_hushOf 6 = .ok (.iand, 1) := by decide +kernel
theorem dX10_hushOf_7 : decode cX10_hushOf 7 = .ok (.ireturn, 1) := by decide +kernel
theorem dX10_leanOfAll_0 : decode cX10_leanOfAll 0 = .ok (.iconst 0, 1) := by decide +kernel
theorem dX10_leanOfAll_1 : decode cX10_leanOfAll 1 = .ok (.istore_n 2, 1) := by decide +kernel
theorem dX10_leanOfAll_2 : decode cX10_leanOfAll 2 = .ok (.iconst 0, 1) := by decide +kernel
theorem dX10_leanOfAll_3 : decode cX10_leanOfAll 3 = .ok (.istore_n 3, 1) := by decide +kernel
theorem dX10_leanOfAll_4 : decode cX10_leanOfAll 4 = .ok (.iload_n 3, 1) := by decide +kernel
theorem dX10_leanOfAll_5 : decode cX10_leanOfAll 5 = .ok (.aload_n 0, 1) := by decide +kernel
theorem dX10_leanOfAll_6 : decode cX10_leanOfAll 6 = .ok (.getfield 9, 3) := by decide +kernel
theorem dX10_leanOfAll_9 : decode cX10_leanOfAll 9 = .ok (.if_icmp .ge 18, 3) := by decide +kernel
theorem dX10_leanOfAll_12 : decode cX10_leanOfAll 12 = .ok (.iload_n 2, 1) := by decide +kernel
theorem dX10_leanOfAll_13 : decode cX10_leanOfAll 13 = .ok (.aload_n 1, 1) := by decide +kernel
theorem dX10_leanOfAll_14 : decode cX10_leanOfAll 14 = .ok (.getfield 93, 3) := by decide +kernel
theorem dX10_leanOfAll_17 : decode cX10_leanOfAll 17 = .ok (.iload_n 3, 1) := by decide +kernel
theorem dX10_leanOfAll_18 : decode cX10_leanOfAll 18 = .ok (.iaload, 1) := by decide +kernel
theorem dX10_leanOfAll_19 : decode cX10_leanOfAll 19 = .ok (.iadd, 1) := by decide +kernel
theorem dX10_leanOfAll_20 : decode cX10_leanOfAll 20 = .ok (.istore_n 2, 1) := by decide +kernel
theorem dX10_leanOfAll_21 : decode cX10_leanOfAll 21 = .ok (.iinc 3 1, 3) := by decide +kernel
theorem dX10_leanOfAll_24 : decode cX10_leanOfAll 24 = .ok (.goto (-20), 3) := by decide +kernel
theorem dX10_leanOfAll_27 : decode cX10_leanOfAll 27 = .ok (.iload_n 2, 1) := by decide +kernel
theorem dX10_leanOfAll_28 : decode cX10_leanOfAll 28 = .ok (.ireturn, 1) := by decide +kernel
theorem dX10_leansMore_0 : decode cX10_leansMore 0 = .ok (.aload_n 0, 1) := by decide +kernel
theorem dX10_leansMore_1 : decode cX10_leansMore 1 = .ok (.getfield 67, 3) := by decide +kernel
theorem dX10_leansMore_4 : decode cX10_leansMore 4 = .ok (.aload_n 0, 1) := by decide +kernel
theorem dX10_leansMore_5 : decode cX10_leansMore 5 = .ok (.getfield 15, 3) := by decide +kernel
theorem dX10_leansMore_8 : decode cX10_leansMore 8 = .ok (.iload_n 2, 1) := by decide +kernel
theorem dX10_leansMore_9 : decode cX10_leansMore 9 = .ok (.iaload, 1) := by decide +kernel
theorem dX10_leansMore_10 : decode cX10_leansMore 10 = .ok (.aaload, 1) := by decide +kernel
theorem dX10_leansMore_11 : decode cX10_leansMore 11 = .ok (.aload_n 0, 1) := by decide +kernel
theorem dX10_leansMore_12 : decode cX10_leansMore 12 = .ok (.aload_n 1, 1) := by decide +kernel
theorem dX10_leansMore_13 : decode cX10_leansMore 13 = .ok (.getfield 108, 3) := by decide +kernel
theorem dX10_leansMore_16 : decode cX10_leansMore 16 = .ok (.invokevirtual 115, 3) := by decide +kernel
theorem dX10_leansMore_19 : decode cX10_leansMore 19 = .ok (.aload_n 0, 1) := by decide +kernel
theorem dX10_leansMore_20 : decode cX10_leansMore 20 = .ok (.aload_n 1, 1) := by decide +kernel
theorem dX10_leansMore_21 : decode cX10_leansMore 21 = .ok (.getfield 108, 3) := by decide +kernel
theorem dX10_leansMore_24 : decode cX10_leansMore 24 = .ok (.invokevirtual 118, 3) := by decide +kernel
theorem dX10_leansMore_27 : decode cX10_leansMore 27 = .ok (.aload_n 1, 1) := by decide +kernel
theorem dX10_leansMore_28 : decode cX10_leansMore 28 = .ok (.getfield 108, 3) := by decide +kernel
theorem dX10_leansMore_31 : decode cX10_leansMore 31 = .ok (.invokevirtual 121, 3) := by decide +kernel
theorem dX10_leansMore_34 : decode cX10_leansMore 34 = .ok (.ireturn, 1) := by decide +kernel
theorem dX10_pays_0 : decode cX10_pays 0 = .ok (.aload_n 1, 1) := by decide +kernel
theorem dX10_pays_1 : decode cX10_pays 1 = .ok (.iload_n 2, 1) := by decide +kernel
theorem dX10_pays_2 : decode cX10_pays 2 = .ok (.invokevirtual 125, 3) := by decide +kernel
theorem dX10_pays_5 : decode cX10_pays 5 = .ok (.ifCond .eq 5, 3) := by decide +kernel
theorem dX10_pays_8 : decode cX10_pays 8 = .ok (.iconst 0, 1) := by decide +kernel
theorem dX10_pays_9 : decode cX10_pays 9 = .ok (.ireturn, 1) := by decide +kernel
theorem dX10_pays_10 : decode cX10_pays 10 = .ok (.aload_n 1, 1) := by decide +kernel
theorem dX10_pays_11 : decode cX10_pays 11 = .ok (.getfield 93, 3) := by decide +kernel
theorem dX10_pays_14 : decode cX10_pays 14 = .ok (.iload_n 2, 1) := by decide +kernel
theorem dX10_pays_15 : decode cX10_pays 15 = .ok (.iaload, 1) := by decide +kernel
theorem dX10_pays_16 : decode cX10_pays 16 = .ok (.bipush 6, 2) := by decide +kernel
theorem dX10_pays_18 : decode cX10_pays 18 = .ok (.aload_n 0, 1) := by decide +kernel
theorem dX10_pays_19 : decode cX10_pays 19 = .ok (.aload_n 1, 1) := by decide +kernel
theorem dX10_pays_20 : decode cX10_pays 20 = .ok (.getfield 108, 3) := by decide +kernel
theorem dX10_pays_23 : decode cX10_pays 23 = .ok (.invokevirtual 115, 3) := by decide +kernel
theorem dX10_pays_26 : decode cX10_pays 26 = .ok (.imul, 1) := by decide +kernel
theorem dX10_pays_27 : decode cX10_pays 27 = .ok (.iadd, 1) := by decide +kernel
theorem dX10_pays_28 : decode cX10_pays 28 = .ok (.aload_n 0, 1) := by decide +kernel
theorem dX10_pays_29 : decode cX10_pays 29 = .ok (.getfield 25, 3) := by decide +kernel
theorem dX10_pays_32 : decode cX10_pays 32 = .ok (.iload_n 2, 1) := by decide +kernel
theorem dX10_pays_33 : decode cX10_pays 33 = .ok (.iaload, 1) := by decide +kernel
theorem dX10_pays_34 : decode cX10_pays 34 = .ok (.if_icmp .lt 14, 3) := by decide +kernel
theorem dX10_pays_37 : decode cX10_pays 37 = .ok (.iconst 4, 1) := by decide +kernel
theorem dX10_pays_38 : decode cX10_pays 38 = .ok (.aload_n 0, 1) := by decide +kernel
theorem dX10_pays_39 : decode cX10_pays 39 = .ok (.getfield 19, 3) := by decide +kernel
theorem dX10_pays_42 : decode cX10_pays 42 = .ok (.iload_n 2, 1) := by decide +kernel
theorem dX10_pays_43 : decode cX10_pays 43 = .ok (.iaload, 1) := by decide +kernel
theorem dX10_pays_44 : decode cX10_pays 44 = .ok (.iadd, 1) := by decide +kernel
theorem dX10_pays_45 : decode cX10_pays 45 = .ok (.goto 4, 3) := by decide +kernel
theorem dX10_pays_48 : decode cX10_pays 48 = .ok (.iconst 0, 1) := by decide +kernel
theorem dX10_pays_49 : decode cX10_pays 49 = .ok (.ireturn, 1) := by decide +kernel
theorem dX10_will_0 : decode cX10_will 0 = .ok (.aload_n 0, 1) := by decide +kernel
theorem dX10_will_1 : decode cX10_will 1 = .ok (.getfield 56, 3) := by decide +kernel
theorem dX10_will_4 : decode cX10_will 4 = .ok (.getfield 129, 3) := by decide +kernel
theorem dX10_will_7 : decode cX10_will 7 = .ok (.ifCond .ne 5, 3) := by decide +kernel
theorem dX10_will_10 : decode cX10_will 10 = .ok (.iconst 0, 1) := by decide +kernel
theorem dX10_will_11 : decode cX10_will 11 = .ok (.ireturn, 1) := by decide +kernel
theorem dX10_will_12 : decode cX10_will 12 = .ok (.aload_n 0, 1) := by decide +kernel
theorem dX10_will_13 : decode cX10_will 13 = .ok (.getfield 56, 3) := by decide +kernel
theorem dX10_will_16 : decode cX10_will 16 = .ok (.aload_n 1, 1) := by decide +kernel
theorem dX10_will_17 : decode cX10_will 17 = .ok (.getfield 108, 3) := by decide +kernel
theorem dX10_will_20 : decode cX10_will 20 = .ok (.aload_n 1, 1) := by decide +kernel
theorem dX10_will_21 : decode cX10_will 21 = .ok (.getfield 93, 3) := by decide +kernel
theorem dX10_will_24 : decode cX10_will 24 = .ok (.iload_n 2, 1) := by decide +kernel
theorem dX10_will_25 : decode cX10_will 25 = .ok (.iaload, 1) := by decide +kernel
theorem dX10_will_26 : decode cX10_will 26 = .ok (.aload_n 0, 1) := by decide +kernel
theorem dX10_will_27 : decode cX10_will 27 = .ok (.getfield 19, 3) := by decide +kernel
theorem dX10_will_30 : decode cX10_will 30 = .ok (.iload_n 2, 1) := by decide +kernel
theorem dX10_will_31 : decode cX10_will 31 = .ok (.iaload, 1) := by decide +kernel
theorem dX10_will_32 : decode cX10_will 32 = .ok (.aload_n 0, 1) := by decide +kernel
theorem dX10_will_33 : decode cX10_will 33 = .ok (.aload_n 1, 1) := by decide +kernel
theorem dX10_will_34 : decode cX10_will 34 = .ok (.getfield 108, 3) := by decide +kernel
theorem dX10_will_37 : decode cX10_will 37 = .ok (.invokevirtual 115, 3) := by decide +kernel
theorem dX10_will_40 : decode cX10_will 40 = .ok (.iload_n 2, 1) := by decide +kernel
theorem dX10_will_41 : decode cX10_will 41 = .ok (.invokevirtual 130, 3) := by decide +kernel
theorem dX10_will_44 : decode cX10_will 44 = .ok (.iconst 0, 1) := by decide +kernel
theorem dX10_will_45 : decode cX10_will 45 = .ok (.istore_n 3, 1) := by decide +kernel
theorem dX10_will_46 : decode cX10_will 46 = .ok (.iload_n 3, 1) := by decide +kernel
theorem dX10_will_47 : decode cX10_will 47 = .ok (.aload_n 0, 1) := by decide +kernel
theorem dX10_will_48 : decode cX10_will 48 = .ok (.getfield 56, 3) := by decide +kernel
theorem dX10_will_51 : decode cX10_will 51 = .ok (.getfield 129, 3) := by decide +kernel
theorem dX10_will_54 : decode cX10_will 54 = .ok (.if_icmp .ge 51, 3) := by decide +kernel
theorem dX10_will_57 : decode cX10_will 57 = .ok (.aload_n 0, 1) := by decide +kernel
theorem dX10_will_58 : decode cX10_will 58 = .ok (.getfield 15, 3) := by decide +kernel
theorem dX10_will_61 : decode cX10_will 61 = .ok (.iload_n 2, 1) := by decide +kernel
theorem dX10_will_62 : decode cX10_will 62 = .ok (.iaload, 1) := by decide +kernel
theorem dX10_will_63 : decode cX10_will 63 = .ok (.aload_n 0, 1) := by decide +kernel
theorem dX10_will_64 : decode cX10_will 64 = .ok (.getfield 56, 3) := by decide +kernel
theorem dX10_will_67 : decode cX10_will 67 = .ok (.getfield 134, 3) := by decide +kernel
theorem dX10_will_70 : decode cX10_will 70 = .ok (.iload_n 3, 1) := by decide +kernel
theorem dX10_will_71 : decode cX10_will 71 = .ok (.iaload, 1) := by decide +kernel
theorem dX10_will_72 : decode cX10_will 72 = .ok (.invokestatic 136, 3) := by decide +kernel
theorem dX10_will_75 : decode cX10_will 75 = .ok (.ifCond .eq 24, 3) := by decide +kernel
theorem dX10_will_78 : decode cX10_will 78 = .ok (.aload_n 0, 1) := by decide +kernel
theorem dX10_will_79 : decode cX10_will 79 = .ok (.getfield 56, 3) := by decide +kernel
theorem dX10_will_82 : decode cX10_will 82 = .ok (.iload_n 3, 1) := by decide +kernel
theorem dX10_will_83 : decode cX10_will 83 = .ok (.invokevirtual 140, 3) := by decide +kernel
theorem dX10_will_86 : decode cX10_will 86 = .ok (.ifCond .eq 13, 3) := by decide +kernel
theorem dX10_will_89 : decode cX10_will 89 = .ok (.aload_n 0, 1) := by decide +kernel
theorem dX10_will_90 : decode cX10_will 90 = .ok (.getfield 56, 3) := by decide +kernel
theorem dX10_will_93 : decode cX10_will 93 = .ok (.getfield 143, 3) := by decide +kernel
theorem dX10_will_96 : decode cX10_will 96 = .ok (.iload_n 3, 1) := by decide +kernel
theorem dX10_will_97 : decode cX10_will 97 = .ok (.iaload, 1) := by decide +kernel
theorem dX10_will_98 : decode cX10_will 98 = .ok (.ireturn, 1) := by decide +kernel
theorem dX10_will_99 : decode cX10_will 99 = .ok (.iinc 3 1, 3) := by decide +kernel
theorem dX10_will_102 : decode cX10_will 102 = .ok (.goto (-56), 3) := by decide +kernel
theorem dX10_will_105 : decode cX10_will 105 = .ok (.iconst 0, 1) := by decide +kernel
theorem dX10_will_106 : decode cX10_will 106 = .ok (.ireturn, 1) := by decide +kernel
theorem dX10_mayFall_0 : decode cX10_mayFall 0 = .ok (.aload_n 0, 1) := by decide +kernel
theorem dX10_mayFall_1 : decode cX10_mayFall 1 = .ok (.aload_n 1, 1) := by decide +kernel
theorem dX10_mayFall_2 : decode cX10_mayFall 2 = .ok (.iload_n 2, 1) := by decide +kernel
theorem dX10_mayFall_3 : decode cX10_mayFall 3 = .ok (.invokevirtual 146, 3) := by decide +kernel
theorem dX10_mayFall_6 : decode cX10_mayFall 6 = .ok (.ifCond .le 16, 3) := by decide +kernel
theorem dX10_mayFall_9 : decode cX10_mayFall 9 = .ok (.aload_n 0, 1) := by decide +kernel
theorem dX10_mayFall_10 : decode cX10_mayFall 10 = .ok (.aload_n 1, 1) := by decide +kernel
theorem dX10_mayFall_11 : decode cX10_mayFall 11 = .ok (.iload_n 2, 1) := by decide +kernel
theorem dX10_mayFall_12 : decode cX10_mayFall 12 = .ok (.invokevirtual 150, 3) := by decide +kernel
theorem dX10_mayFall_15 : decode cX10_mayFall 15 = .ok (.ifCond .ne 7, 3) := by decide +kernel
theorem dX10_mayFall_18 : decode cX10_mayFall 18 = .ok (.iconst 1, 1) := by decide +kernel
theorem dX10_mayFall_19 : decode cX10_mayFall 19 = .ok (.goto 4, 3) := by decide +kernel
theorem dX10_mayFall_22 : decode cX10_mayFall 22 = .ok (.iconst 0, 1) := by decide +kernel
theorem dX10_mayFall_23 : decode cX10_mayFall 23 = .ok (.ireturn, 1) := by decide +kernel
theorem dX10_leastWilling_0 : decode cX10_leastWilling 0 = .ok (.iconst 0, 1) := by decide +kernel
theorem dX10_leastWilling_1 : decode cX10_leastWilling 1 = .ok (.istore_n 2, 1) := by decide +kernel
theorem dX10_leastWilling_2 : decode cX10_leastWilling 2 = .ok (.iload_n 2, 1) := by decide +kernel
theorem dX10_leastWilling_3 : decode cX10_leastWilling 3 = .ok (.aload_n 0, 1) := by decide +kernel
theorem dX10_leastWilling_4 : decode cX10_leastWilling 4 = .ok (.getfield 9, 3) := by decide +kernel
theorem dX10_leastWilling_7 : decode cX10_leastWilling 7 = .ok (.if_icmp .ge 22, 3) := by decide +kernel
theorem dX10_leastWilling_10 : decode cX10_leastWilling 10 = .ok (.aload_n 0, 1) := by decide +kernel
theorem dX10_leastWilling_11 : decode cX10_leastWilling 11 = .ok (.aload_n 1, 1) := by decide +kernel
theorem dX10_leastWilling_12 : decode cX10_leastWilling 12 = .ok (.iload_n 2, 1) := by decide +kernel
theorem dX10_leastWilling_13 : decode cX10_leastWilling 13 = .ok (.invokevirtual 153, 3) := by decide +kernel
theorem dX10_leastWilling_16 : decode cX10_leastWilling 16 = .ok (.ifCond .eq 7, 3) := by decide +kernel
theorem dX10_leastWilling_19 : decode cX10_leastWilling 19 = .ok (.iload_n 2, 1) := by decide +kernel
theorem dX10_leastWilling_20 : decode cX10_leastWilling 20 = .ok (.iconst 1, 1) := by decide +kernel
theorem dX10_leastWilling_21 : decode cX10_leastWilling 21 = .ok (.iadd, 1) := by decide +kernel
theorem dX10_leastWilling_22 : decode cX10_leastWilling 22 = .ok (.ireturn, 1) := by decide +kernel
theorem dX10_leastWilling_23 : decode cX10_leastWilling 23 = .ok (.iinc 2 1, 3) := by decide +kernel
theorem dX10_leastWilling_26 : decode cX10_leastWilling 26 = .ok (.goto (-24), 3) := by decide +kernel
theorem dX10_leastWilling_29 : decode cX10_leastWilling 29 = .ok (.iconst 0, 1) := by decide +kernel
theorem dX10_leastWilling_30 : decode cX10_leastWilling 30 = .ok (.ireturn, 1) := by decide +kernel
theorem dX10_actByLot_0 : decode cX10_actByLot 0 = .ok (.iload_n 1, 1) := by decide +kernel
theorem dX10_actByLot_1 : decode cX10_actByLot 1 = .ok (.bipush 16, 2) := by decide +kernel
theorem dX10_actByLot_3 : decode cX10_actByLot 3 = .ok (.iushr, 1) := by decide +kernel
theorem dX10_actByLot_4 : decode cX10_actByLot 4 = .ok (.aload_n 0, 1) := by decide +kernel
theorem dX10_actByLot_5 : decode cX10_actByLot 5 = .ok (.getfield 9, 3) := by decide +kernel
theorem dX10_actByLot_8 : decode cX10_actByLot 8 = .ok (.iconst 1, 1) := by decide +kernel
theorem dX10_actByLot_9 : decode cX10_actByLot 9 = .ok (.iadd, 1) := by decide +kernel
theorem dX10_actByLot_10 : decode cX10_actByLot 10 = .ok (.irem, 1) := by decide +kernel
theorem dX10_actByLot_11 : decode cX10_actByLot 11 = .ok (.ireturn, 1) := by decide +kernel
theorem dX10_isIdle_0 : decode cX10_isIdle 0 = .ok (.aload_n 1, 1) := by decide +kernel
theorem dX10_isIdle_1 : decode cX10_isIdle 1 = .ok (.iload_n 2, 1) := by decide +kernel
theorem dX10_isIdle_2 : decode cX10_isIdle 2 = .ok (.invokevirtual 125, 3) := by decide +kernel
theorem dX10_isIdle_5 : decode cX10_isIdle 5 = .ok (.ifCond .eq 5, 3) := by decide +kernel
theorem dX10_isIdle_8 : decode cX10_isIdle 8 = .ok (.iconst 1, 1) := by decide +kernel
theorem dX10_isIdle_9 : decode cX10_isIdle 9 = .ok (.ireturn, 1) := by decide +kernel
theorem dX10_isIdle_10 : decode cX10_isIdle 10 = .ok (.aload_n 0, 1) := by decide +kernel
theorem dX10_isIdle_11 : decode cX10_isIdle 11 = .ok (.aload_n 1, 1) := by decide +kernel
theorem dX10_isIdle_12 : decode cX10_isIdle 12 = .ok (.iload_n 2, 1) := by decide +kernel
theorem dX10_isIdle_13 : decode cX10_isIdle 13 = .ok (.invokevirtual 150, 3) := by decide +kernel
theorem dX10_isIdle_16 : decode cX10_isIdle 16 = .ok (.istore_n 3, 1) := by decide +kernel
theorem dX10_isIdle_17 : decode cX10_isIdle 17 = .ok (.iload_n 3, 1) := by decide +kernel
theorem dX10_isIdle_18 : decode cX10_isIdle 18 = .ok (.iconst 1, 1) := by decide +kernel
theorem dX10_isIdle_19 : decode cX10_isIdle 19 = .ok (.if_icmp .eq 16, 3) := by decide +kernel
theorem dX10_isIdle_22 : decode cX10_isIdle 22 = .ok (.iload_n 3, 1) := by decide +kernel
theorem dX10_isIdle_23 : decode cX10_isIdle 23 = .ok (.ifCond .ne 16, 3) := by decide +kernel
theorem dX10_isIdle_26 : decode cX10_isIdle 26 = .ok (.aload_n 0, 1) := by decide +kernel
theorem dX10_isIdle_27 : decode cX10_isIdle 27 = .ok (.aload_n 1, 1) := by decide +kernel
theorem dX10_isIdle_28 : decode cX10_isIdle 28 = .ok (.iload_n 2, 1) := by decide +kernel
theorem dX10_isIdle_29 : decode cX10_isIdle 29 = .ok (.invokevirtual 146, 3) := by decide +kernel
theorem dX10_isIdle_32 : decode cX10_isIdle 32 = .ok (.ifCond .ne 7, 3) := by decide +kernel
theorem dX10_isIdle_35 : decode cX10_isIdle 35 = .ok (.iconst 1, 1) := by decide +kernel
theorem dX10_isIdle_36 : decode cX10_isIdle 36 = .ok (.goto 4, 3) := by decide +kernel
theorem dX10_isIdle_39 : decode cX10_isIdle 39 = .ok (.iconst 0, 1) := by decide +kernel
theorem dX10_isIdle_40 : decode cX10_isIdle 40 = .ok (.ireturn, 1) := by decide +kernel
theorem dX10_fall_0 : decode cX10_fall 0 = .ok (.aload_n 1, 1) := by decide +kernel
theorem dX10_fall_1 : decode cX10_fall 1 = .ok (.iload_n 2, 1) := by decide +kernel
theorem dX10_fall_2 : decode cX10_fall 2 = .ok (.iconst 1, 1) := by decide +kernel
theorem dX10_fall_3 : decode cX10_fall 3 = .ok (.invokevirtual 96, 3) := by decide +kernel
theorem dX10_fall_6 : decode cX10_fall 6 = .ok (.pop, 1) := by decide +kernel
theorem dX10_fall_7 : decode cX10_fall 7 = .ok (.aload_n 0, 1) := by decide +kernel
theorem dX10_fall_8 : decode cX10_fall 8 = .ok (.getfield 22, 3) := by decide +kernel
theorem dX10_fall_11 : decode cX10_fall 11 = .ok (.iload_n 2, 1) := by decide +kernel
theorem dX10_fall_12 : decode cX10_fall 12 = .ok (.iaload, 1) := by decide +kernel
theorem dX10_fall_13 : decode cX10_fall 13 = .ok (.iconst 1, 1) := by decide +kernel
theorem dX10_fall_14 : decode cX10_fall 14 = .ok (.iadd, 1) := by decide +kernel
theorem dX10_fall_15 : decode cX10_fall 15 = .ok (.istore_n 3, 1) := by decide +kernel
theorem dX10_fall_16 : decode cX10_fall 16 = .ok (.iload_n 3, 1) := by decide +kernel
theorem dX10_fall_17 : decode cX10_fall 17 = .ok (.bipush 6, 2) := by decide +kernel
theorem dX10_fall_19 : decode cX10_fall 19 = .ok (.if_icmp .lt 4, 3) := by decide +kernel
theorem dX10_fall_22 : decode cX10_fall 22 = .ok (.return_, 1) := by decide +kernel
theorem dX10_fall_23 : decode cX10_fall 23 = .ok (.iconst 0, 1) := by decide +kernel
theorem dX10_fall_24 : decode cX10_fall 24 = .ok (.istore 4, 2) := by decide +kernel
theorem dX10_fall_26 : decode cX10_fall 26 = .ok (.iload 4, 2) := by decide +kernel
theorem dX10_fall_28 : decode cX10_fall 28 = .ok (.aload_n 0, 1) := by decide +kernel
theorem dX10_fall_29 : decode cX10_fall 29 = .ok (.getfield 9, 3) := by decide +kernel
theorem dX10_fall_32 : decode cX10_fall 32 = .ok (.if_icmp .ge 44, 3) := by decide +kernel
theorem dX10_fall_35 : decode cX10_fall 35 = .ok (.aload_n 0, 1) := by decide +kernel
theorem dX10_fall_36 : decode cX10_fall 36 = .ok (.getfield 22, 3) := by decide +kernel
theorem dX10_fall_39 : decode cX10_fall 39 = .ok (.iload 4, 2) := by decide +kernel
theorem dX10_fall_41 : decode cX10_fall 41 = .ok (.iaload, 1) := by decide +kernel
theorem dX10_fall_42 : decode cX10_fall 42 = .ok (.iload_n 3, 1) := by decide +kernel
theorem dX10_fall_43 : decode cX10_fall 43 = .ok (.if_icmp .ne 27, 3) := by decide +kernel
theorem dX10_fall_46 : decode cX10_fall 46 = .ok (.aload_n 1, 1) := by decide +kernel
theorem dX10_fall_47 : decode cX10_fall 47 = .ok (.iload 4, 2) := by decide +kernel
theorem dX10_fall_49 : decode cX10_fall 49 = .ok (.invokevirtual 125, 3) := by decide +kernel
theorem dX10_fall_52 : decode cX10_fall 52 = .ok (.ifCond .ne 18, 3) := by decide +kernel
theorem dX10_fall_55 : decode cX10_fall 55 = .ok (.aload_n 1, 1) := by decide +kernel
theorem dX10_fall_56 : decode cX10_fall 56 = .ok (.iload 4, 2) := by decide +kernel
theorem dX10_fall_58 : decode cX10_fall 58 = .ok (.bipush 12, 2) := by decide +kernel
theorem dX10_fall_60 : decode cX10_fall 60 = .ok (.aload_n 0, 1) := by decide +kernel
theorem dX10_fall_61 : decode cX10_fall 61 = .ok (.getfield 31, 3) := by decide +kernel
theorem dX10_fall_64 : decode cX10_fall 64 = .ok (.iload_n 3, 1) := by decide +kernel
theorem dX10_fall_65 : decode cX10_fall 65 = .ok (.iaload, 1) := by decide +kernel
theorem dX10_fall_66 : decode cX10_fall 66 = .ok (.iadd, 1) := by decide +kernel
theorem dX10_fall_67 : decode cX10_fall 67 = .ok (.invokevirtual 157, 3) := by decide +kernel
theorem dX10_fall_70 : decode cX10_fall 70 = .ok (.iinc 4 1, 3) := by decide +kernel
theorem dX10_fall_73 : decode cX10_fall 73 = .ok (.goto (-47), 3) := by decide +kernel
theorem dX10_fall_76 : decode cX10_fall 76 = .ok (.return_, 1) := by decide +kernel
theorem dX10_passYear_0 : decode cX10_passYear 0 = .ok (.aload_n 0, 1) := by decide +kernel
theorem dX10_passYear_1 : decode cX10_passYear 1 = .ok (.iload_n 2, 1) := by decide +kernel
theorem dX10_passYear_2 : decode cX10_passYear 2 = .ok (.iconst 1, 1) := by decide +kernel
theorem dX10_passYear_3 : decode cX10_passYear 3 = .ok (.isub, 1) := by decide +kernel
theorem dX10_passYear_4 : decode cX10_passYear 4 = .ok (.invokevirtual 161, 3) := by decide +kernel
theorem dX10_passYear_7 : decode cX10_passYear 7 = .ok (.ifCond .eq 14, 3) := by decide +kernel
theorem dX10_passYear_10 : decode cX10_passYear 10 = .ok (.aload_n 0, 1) := by decide +kernel
theorem dX10_passYear_11 : decode cX10_passYear 11 = .ok (.aload_n 1, 1) := by decide +kernel
theorem dX10_passYear_12 : decode cX10_passYear 12 = .ok (.iload_n 2, 1) := by decide +kernel
theorem dX10_passYear_13 : decode cX10_passYear 13 = .ok (.iconst 1, 1) := by decide +kernel
theorem dX10_passYear_14 : decode cX10_passYear 14 = .ok (.isub, 1) := by decide +kernel
theorem dX10_passYear_15 : decode cX10_passYear 15 = .ok (.invokevirtual 164, 3) := by decide +kernel
theorem dX10_passYear_18 : decode cX10_passYear 18 = .ok (.goto 4, 3) := by decide +kernel
theorem dX10_passYear_21 : decode cX10_passYear 21 = .ok (.iconst 0, 1) := by decide +kernel
theorem dX10_passYear_22 : decode cX10_passYear 22 = .ok (.istore_n 3, 1) := by decide +kernel
theorem dX10_passYear_23 : decode cX10_passYear 23 = .ok (.iload_n 3, 1) := by decide +kernel
theorem dX10_passYear_24 : decode cX10_passYear 24 = .ok (.aload_n 0, 1) := by decide +kernel
theorem dX10_passYear_25 : decode cX10_passYear 25 = .ok (.aload_n 1, 1) := by decide +kernel
theorem dX10_passYear_26 : decode cX10_passYear 26 = .ok (.invokevirtual 167, 3) := by decide +kernel
theorem dX10_passYear_29 : decode cX10_passYear 29 = .ok (.iadd, 1) := by decide +kernel
theorem dX10_passYear_30 : decode cX10_passYear 30 = .ok (.istore_n 3, 1) := by decide +kernel
theorem dX10_passYear_31 : decode cX10_passYear 31 = .ok (.aload_n 0, 1) := by decide +kernel
theorem dX10_passYear_32 : decode cX10_passYear 32 = .ok (.aload_n 1, 1) := by decide +kernel
theorem dX10_passYear_33 : decode cX10_passYear 33 = .ok (.getfield 108, 3) := by decide +kernel
theorem dX10_passYear_36 : decode cX10_passYear 36 = .ok (.invokevirtual 115, 3) := by decide +kernel
theorem dX10_passYear_39 : decode cX10_passYear 39 = .ok (.istore 4, 2) := by decide +kernel
theorem dX10_passYear_41 : decode cX10_passYear 41 = .ok (.aload_n 0, 1) := by decide +kernel
theorem dX10_passYear_42 : decode cX10_passYear 42 = .ok (.aload_n 1, 1) := by decide +kernel
theorem dX10_passYear_43 : decode cX10_passYear 43 = .ok (.getfield 108, 3) := by decide +kernel
theorem dX10_passYear_46 : decode cX10_passYear 46 = .ok (.invokevirtual 118, 3) := by decide +kernel
theorem dX10_passYear_49 : decode cX10_passYear 49 = .ok (.istore 5, 2) := by decide +kernel
theorem dX10_passYear_51 : decode cX10_passYear 51 = .ok (.iconst 0, 1) := by decide +kernel
theorem dX10_passYear_52 : decode cX10_passYear 52 = .ok (.istore 6, 2) := by decide +kernel
theorem dX10_passYear_54 : decode cX10_passYear 54 = .ok (.iload 6, 2) := by decide +kernel
theorem dX10_passYear_56 : decode cX10_passYear 56 = .ok (.aload_n 0, 1) := by decide +kernel
theorem dX10_passYear_57 : decode cX10_passYear 57 = .ok (.getfield 9, 3) := by decide +kernel
theorem dX10_passYear_60 : decode cX10_passYear 60 = .ok (.if_icmp .ge 47, 3) := by decide +kernel
theorem dX10_passYear_63 : decode cX10_passYear 63 = .ok (.aload_n 1, 1) := by decide +kernel
theorem dX10_passYear_64 : decode cX10_passYear 64 = .ok (.iload 6, 2) := by decide +kernel
theorem dX10_passYear_66 : decode cX10_passYear 66 = .ok (.invokevirtual 125, 3) := by decide +kernel
theorem dX10_passYear_69 : decode cX10_passYear 69 = .ok (.ifCond .ne 32, 3) := by decide +kernel
theorem dX10_passYear_72 : decode cX10_passYear 72 = .ok (.aload_n 1, 1) := by decide +kernel
theorem dX10_passYear_73 : decode cX10_passYear 73 = .ok (.iload 6, 2) := by decide +kernel
theorem dX10_passYear_75 : decode cX10_passYear 75 = .ok (.aload_n 0, 1) := by decide +kernel
theorem dX10_passYear_76 : decode cX10_passYear 76 = .ok (.getfield 67, 3) := by decide +kernel
theorem dX10_passYear_79 : decode cX10_passYear 79 = .ok (.aload_n 0, 1) := by decide +kernel
theorem dX10_passYear_80 : decode cX10_passYear 80 = .ok (.getfield 15, 3) := by decide +kernel
theorem dX10_passYear_83 : decode cX10_passYear 83 = .ok (.iload 6, 2) := by decide +kernel
theorem dX10_passYear_85 : decode cX10_passYear 85 = .ok (.iaload, 1) := by decide +kernel
theorem dX10_passYear_86 : decode cX10_passYear 86 = .ok (.aaload, 1) := by decide +kernel
theorem dX10_passYear_87 : decode cX10_passYear 87 = .ok (.iload 4, 2) := by decide +kernel
theorem dX10_passYear_89 : decode cX10_passYear 89 = .ok (.iload 5, 2) := by decide +kernel
theorem dX10_passYear_91 : decode cX10_passYear 91 = .ok (.aload_n 1, 1) := by decide +kernel
theorem dX10_passYear_92 : decode cX10_passYear 92 = .ok (.getfield 108, 3) := by decide +kernel
theorem dX10_passYear_95 : decode cX10_passYear 95 = .ok (.invokevirtual 121, 3) := by decide +kernel
theorem dX10_passYear_98 : decode cX10_passYear 98 = .ok (.invokevirtual 157, 3) := by decide +kernel
theorem dX10_passYear_101 : decode cX10_passYear 101 = .ok (.iinc 6 1, 3) := by decide +kernel
theorem dX10_passYear_104 : decode cX10_passYear 104 = .ok (.goto (-50), 3) := by decide +kernel
theorem dX10_passYear_107 : decode cX10_passYear 107 = .ok (.aload_n 1, 1) := by decide +kernel
theorem dX10_passYear_108 : decode cX10_passYear 108 = .ok (.dup, 1) := by decide +kernel
theorem dX10_passYear_109 : decode cX10_passYear 109 = .ok (.getfield 108, 3) := by decide +kernel
theorem dX10_passYear_112 : decode cX10_passYear 112 = .ok (.iconst 1, 1) := by decide +kernel
theorem dX10_passYear_113 : decode cX10_passYear 113 = .ok (.iadd, 1) := by decide +kernel
theorem dX10_passYear_114 : decode cX10_passYear 114 = .ok (.putfield 108, 3) := by decide +kernel
theorem dX10_passYear_117 : decode cX10_passYear 117 = .ok (.iload_n 3, 1) := by decide +kernel
theorem dX10_passYear_118 : decode cX10_passYear 118 = .ok (.ireturn, 1) := by decide +kernel
theorem dX10_tell_0 : decode cX10_tell 0 = .ok (.aload_n 1, 1) := by decide +kernel
theorem dX10_tell_1 : decode cX10_tell 1 = .ok (.iload_n 2, 1) := by decide +kernel
theorem dX10_tell_2 : decode cX10_tell 2 = .ok (.invokevirtual 125, 3) := by decide +kernel
theorem dX10_tell_5 : decode cX10_tell 5 = .ok (.ifCond .eq 5, 3) := by decide +kernel
theorem dX10_tell_8 : decode cX10_tell 8 = .ok (.iconst 0, 1) := by decide +kernel
theorem dX10_tell_9 : decode cX10_tell 9 = .ok (.ireturn, 1) := by decide +kernel
theorem dX10_tell_10 : decode cX10_tell 10 = .ok (.aload_n 0, 1) := by decide +kernel
theorem dX10_tell_11 : decode cX10_tell 11 = .ok (.aload_n 1, 1) := by decide +kernel
theorem dX10_tell_12 : decode cX10_tell 12 = .ok (.iload_n 2, 1) := by decide +kernel
theorem dX10_tell_13 : decode cX10_tell 13 = .ok (.invokevirtual 150, 3) := by decide +kernel
theorem dX10_tell_16 : decode cX10_tell 16 = .ok (.istore_n 3, 1) := by decide +kernel
theorem dX10_tell_17 : decode cX10_tell 17 = .ok (.iload_n 3, 1) := by decide +kernel
theorem dX10_tell_18 : decode cX10_tell 18 = .ok (.ifCond .ne 25, 3) := by decide +kernel
theorem dX10_tell_21 : decode cX10_tell 21 = .ok (.aload_n 0, 1) := by decide +kernel
theorem dX10_tell_22 : decode cX10_tell 22 = .ok (.aload_n 1, 1) := by decide +kernel
theorem dX10_tell_23 : decode cX10_tell 23 = .ok (.iload_n 2, 1) := by decide +kernel
theorem dX10_tell_24 : decode cX10_tell 24 = .ok (.invokevirtual 146, 3) := by decide +kernel
theorem dX10_tell_27 : decode cX10_tell 27 = .ok (.istore 4, 2) := by decide +kernel
theorem dX10_tell_29 : decode cX10_tell 29 = .ok (.iload 4, 2) := by decide +kernel
theorem dX10_tell_31 : decode cX10_tell 31 = .ok (.ifCond .le 9, 3) := by decide +kernel
theorem dX10_tell_34 : decode cX10_tell 34 = .ok (.aload_n 0, 1) := by decide +kernel
theorem dX10_tell_35 : decode cX10_tell 35 = .ok (.aload_n 1, 1) := by decide +kernel
theorem dX10_tell_36 : decode cX10_tell 36 = .ok (.iload_n 2, 1) := by decide +kernel
theorem dX10_tell_37 : decode cX10_tell 37 = .ok (.invokevirtual 171, 3) := by decide +kernel
theorem dX10_tell_40 : decode cX10_tell 40 = .ok (.iload 4, 2) := by decide +kernel
theorem dX10_tell_42 : decode cX10_tell 42 = .ok (.ireturn, 1) := by decide +kernel
theorem dX10_tell_43 : decode cX10_tell 43 = .ok (.iload_n 3, 1) := by decide +kernel
theorem dX10_tell_44 : decode cX10_tell 44 = .ok (.iconst 2, 1) := by decide +kernel
theorem dX10_tell_45 : decode cX10_tell 45 = .ok (.if_icmp .ne 52, 3) := by decide +kernel
theorem dX10_tell_48 : decode cX10_tell 48 = .ok (.aload_n 1, 1) := by decide +kernel
theorem dX10_tell_49 : decode cX10_tell 49 = .ok (.getfield 93, 3) := by decide +kernel
theorem dX10_tell_52 : decode cX10_tell 52 = .ok (.iload_n 2, 1) := by decide +kernel
theorem dX10_tell_53 : decode cX10_tell 53 = .ok (.iconst 0, 1) := by decide +kernel
theorem dX10_tell_54 : decode cX10_tell 54 = .ok (.aload_n 1, 1) := by decide +kernel
theorem dX10_tell_55 : decode cX10_tell 55 = .ok (.getfield 93, 3) := by decide +kernel
theorem dX10_tell_58 : decode cX10_tell 58 = .ok (.iload_n 2, 1) := by decide +kernel
theorem dX10_tell_59 : decode cX10_tell 59 = .ok (.iaload, 1) := by decide +kernel
theorem dX10_tell_60 : decode cX10_tell 60 = .ok (.bipush 10, 2) := by decide +kernel
theorem dX10_tell_62 : decode cX10_tell 62 = .ok (.isub, 1) := by decide +kernel
theorem dX10_tell_63 : decode cX10_tell 63 = .ok (.aload_n 0, 1) := by decide +kernel
theorem dX10_tell_64 : decode cX10_tell 64 = .ok (.getfield 34, 3) := by decide +kernel
theorem dX10_tell_67 : decode cX10_tell 67 = .ok (.aload_n 0, 1) := by decide +kernel
theorem dX10_tell_68 : decode cX10_tell 68 = .ok (.getfield 22, 3) := by decide +kernel
theorem dX10_tell_71 : decode cX10_tell 71 = .ok (.iload_n 2, 1) := by decide +kernel
theorem dX10_tell_72 : decode cX10_tell 72 = .ok (.iaload, 1) := by decide +kernel
theorem dX10_tell_73 : decode cX10_tell 73 = .ok (.iaload, 1) := by decide +kernel
theorem dX10_tell_74 : decode cX10_tell 74 = .ok (.isub, 1) := by decide +kernel
theorem dX10_tell_75 : decode cX10_tell 75 = .ok (.invokestatic 175, 3) := by decide +kernel
theorem dX10_tell_78 : decode cX10_tell 78 = .ok (.iastore, 1) := by decide +kernel
theorem dX10_tell_79 : decode cX10_tell 79 = .ok (.aload_n 0, 1) := by decide +kernel
theorem dX10_tell_80 : decode cX10_tell 80 = .ok (.aload_n 1, 1) := by decide +kernel
theorem dX10_tell_81 : decode cX10_tell 81 = .ok (.getfield 108, 3) := by decide +kernel
theorem dX10_tell_84 : decode cX10_tell 84 = .ok (.invokevirtual 118, 3) := by decide +kernel
theorem dX10_tell_87 : decode cX10_tell 87 = .ok (.iconst 1, 1) := by decide +kernel
theorem dX10_tell_88 : decode cX10_tell 88 = .ok (.if_icmp .le 7, 3) := by decide +kernel
theorem dX10_tell_91 : decode cX10_tell 91 = .ok (.iconst 1, 1) := by decide +kernel
theorem dX10_tell_92 : decode cX10_tell 92 = .ok (.goto 4, 3) := by decide +kernel
theorem dX10_tell_95 : decode cX10_tell 95 = .ok (.iconst 0, 1) := by decide +kernel
theorem dX10_tell_96 : decode cX10_tell 96 = .ok (.ireturn, 1) := by decide +kernel
theorem dX10_tell_97 : decode cX10_tell 97 = .ok (.iconst 0, 1) := by decide +kernel
theorem dX10_tell_98 : decode cX10_tell 98 = .ok (.ireturn, 1) := by decide +kernel
theorem dX10_toppleBent_0 : decode cX10_toppleBent 0 = .ok (.iconst 0, 1) := by decide +kernel
theorem dX10_toppleBent_1 : decode cX10_toppleBent 1 = .ok (.istore_n 2, 1) := by decide +kernel
theorem dX10_toppleBent_2 : decode cX10_toppleBent 2 = .ok (.iconst 0, 1) := by decide +kernel
theorem dX10_toppleBent_3 : decode cX10_toppleBent 3 = .ok (.istore_n 3, 1) := by decide +kernel
theorem dX10_toppleBent_4 : decode cX10_toppleBent 4 = .ok (.iload_n 3, 1) := by decide +kernel
theorem dX10_toppleBent_5 : decode cX10_toppleBent 5 = .ok (.aload_n 0, 1) := by decide +kernel
theorem dX10_toppleBent_6 : decode cX10_toppleBent 6 = .ok (.getfield 9, 3) := by decide +kernel
theorem dX10_toppleBent_9 : decode cX10_toppleBent 9 = .ok (.if_icmp .ge 41, 3) := by decide +kernel
theorem dX10_toppleBent_12 : decode cX10_toppleBent 12 = .ok (.aload_n 1, 1) := by decide +kernel
theorem dX10_toppleBent_13 : decode cX10_toppleBent 13 = .ok (.iload_n 3, 1) := by decide +kernel
theorem dX10_toppleBent_14 : decode cX10_toppleBent 14 = .ok (.invokevirtual 125, 3) := by decide +kernel
theorem dX10_toppleBent_17 : decode cX10_toppleBent 17 = .ok (.ifCond .ne 27, 3) := by decide +kernel
theorem dX10_toppleBent_20 : decode cX10_toppleBent 20 = .ok (.aload_n 1, 1) := by decide +kernel
theorem dX10_toppleBent_21 : decode cX10_toppleBent 21 = .ok (.getfield 93, 3) := by decide +kernel
theorem dX10_toppleBent_24 : decode cX10_toppleBent 24 = .ok (.iload_n 3, 1) := by decide +kernel
theorem dX10_toppleBent_25 : decode cX10_toppleBent 25 = .ok (.iaload, 1) := by decide +kernel
theorem dX10_toppleBent_26 : decode cX10_toppleBent 26 = .ok (.aload_n 0, 1) := by decide +kernel
theorem dX10_toppleBent_27 : decode cX10_toppleBent 27 = .ok (.getfield 25, 3) := by decide +kernel
theorem dX10_toppleBent_30 : decode cX10_toppleBent 30 = .ok (.iload_n 3, 1) := by decide +kernel
theorem dX10_toppleBent_31 : decode cX10_toppleBent 31 = .ok (.iaload, 1) := by decide +kernel
theorem dX10_toppleBent_32 : decode cX10_toppleBent 32 = .ok (.bipush 12, 2) := by decide +kernel
theorem dX10_toppleBent_34 : decode cX10_toppleBent 34 = .ok (.iadd, 1) := by decide +kernel
theorem dX10_toppleBent_35 : decode cX10_toppleBent 35 = .ok (.if_icmp .lt 9, 3) := by decide +kernel
theorem dX10_toppleBent_38 : decode cX10_toppleBent 38 = .ok (.iload_n 2, 1) := by decide +kernel
theorem dX10_toppleBent_39 : decode cX10_toppleBent 39 = .ok (.iconst 1, 1) := by decide +kernel
theorem dX10_toppleBent_40 : decode cX10_toppleBent 40 = .ok (.iload_n 3, 1) := by decide +kernel
theorem dX10_toppleBent_41 : decode cX10_toppleBent 41 = .ok (.ishl, 1) := by decide +kernel
theorem dX10_toppleBent_42 : decode cX10_toppleBent 42 = .ok (.ior, 1) := by decide +kernel
theorem dX10_toppleBent_43 : decode cX10_toppleBent 43 = .ok (.istore_n 2, 1) := by decide +kernel
theorem dX10_toppleBent_44 : decode cX10_toppleBent 44 = .ok (.iinc 3 1, 3) := by decide +kernel
theorem dX10_toppleBent_47 : decode cX10_toppleBent 47 = .ok (.goto (-43), 3) := by decide +kernel
theorem dX10_toppleBent_50 : decode cX10_toppleBent 50 = .ok (.iconst 0, 1) := by decide +kernel
theorem dX10_toppleBent_51 : decode cX10_toppleBent 51 = .ok (.istore_n 3, 1) := by decide +kernel
theorem dX10_toppleBent_52 : decode cX10_toppleBent 52 = .ok (.iload_n 3, 1) := by decide +kernel
theorem dX10_toppleBent_53 : decode cX10_toppleBent 53 = .ok (.aload_n 0, 1) := by decide +kernel
theorem dX10_toppleBent_54 : decode cX10_toppleBent 54 = .ok (.getfield 9, 3) := by decide +kernel
theorem dX10_toppleBent_57 : decode cX10_toppleBent 57 = .ok (.if_icmp .ge 27, 3) := by decide +kernel
theorem dX10_toppleBent_60 : decode cX10_toppleBent 60 = .ok (.iload_n 2, 1) := by decide +kernel
theorem dX10_toppleBent_61 : decode cX10_toppleBent 61 = .ok (.ifCond .eq 23, 3) := by decide +kernel
theorem dX10_toppleBent_64 : decode cX10_toppleBent 64 = .ok (.iload_n 2, 1) := by decide +kernel
theorem dX10_toppleBent_65 : decode cX10_toppleBent 65 = .ok (.iload_n 3, 1) := by decide +kernel
theorem dX10_toppleBent_66 : decode cX10_toppleBent 66 = .ok (.ishr, 1) := by decide +kernel
theorem dX10_toppleBent_67 : decode cX10_toppleBent 67 = .ok (.iconst 1, 1) := by decide +kernel
theorem dX10_toppleBent_68 : decode cX10_toppleBent 68 = .ok (.iand, 1) := by decide +kernel
theorem dX10_toppleBent_69 : decode cX10_toppleBent 69 = .ok (.ifCond .eq 9, 3) := by decide +kernel
theorem dX10_toppleBent_72 : decode cX10_toppleBent 72 = .ok (.aload_n 0, 1) := by decide +kernel
theorem dX10_toppleBent_73 : decode cX10_toppleBent 73 = .ok (.aload_n 1, 1) := by decide +kernel
theorem dX10_toppleBent_74 : decode cX10_toppleBent 74 = .ok (.iload_n 3, 1) := by decide +kernel
theorem dX10_toppleBent_75 : decode cX10_toppleBent 75 = .ok (.invokevirtual 171, 3) := by decide +kernel
theorem dX10_toppleBent_78 : decode cX10_toppleBent 78 = .ok (.iinc 3 1, 3) := by decide +kernel
theorem dX10_toppleBent_81 : decode cX10_toppleBent 81 = .ok (.goto (-29), 3) := by decide +kernel
theorem dX10_toppleBent_84 : decode cX10_toppleBent 84 = .ok (.iload_n 2, 1) := by decide +kernel
theorem dX10_toppleBent_85 : decode cX10_toppleBent 85 = .ok (.invokestatic 180, 3) := by decide +kernel
theorem dX10_toppleBent_88 : decode cX10_toppleBent 88 = .ok (.ireturn, 1) := by decide +kernel
theorem dX10_chainOf_0 : decode cX10_chainOf 0 = .ok (.aload_n 0, 1) := by decide +kernel
theorem dX10_chainOf_1 : decode cX10_chainOf 1 = .ok (.getfield 40, 3) := by decide +kernel
theorem dX10_chainOf_4 : decode cX10_chainOf 4 = .ok (.iload_n 1, 1) := by decide +kernel
theorem dX10_chainOf_5 : decode cX10_chainOf 5 = .ok (.invokevirtual 125, 3) := by decide +kernel
theorem dX10_chainOf_8 : decode cX10_chainOf 8 = .ok (.ifCond .eq 5, 3) := by decide +kernel
theorem dX10_chainOf_11 : decode cX10_chainOf 11 = .ok (.iconst 0, 1) := by decide +kernel
theorem dX10_chainOf_12 : decode cX10_chainOf 12 = .ok (.ireturn, 1) := by decide +kernel
theorem dX10_chainOf_13 : decode cX10_chainOf 13 = .ok (.iconst 1, 1) := by decide +kernel
theorem dX10_chainOf_14 : decode cX10_chainOf 14 = .ok (.iload_n 1, 1) := by decide +kernel
theorem dX10_chainOf_15 : decode cX10_chainOf 15 = .ok (.ishl, 1) := by decide +kernel
theorem dX10_chainOf_16 : decode cX10_chainOf 16 = .ok (.istore_n 2, 1) := by decide +kernel
theorem dX10_chainOf_17 : decode cX10_chainOf 17 = .ok (.iconst 1, 1) := by decide +kernel
theorem dX10_chainOf_18 : decode cX10_chainOf 18 = .ok (.istore_n 3, 1) := by decide +kernel
theorem dX10_chainOf_19 : decode cX10_chainOf 19 = .ok (.iload_n 3, 1) := by decide +kernel
theorem dX10_chainOf_20 : decode cX10_chainOf 20 = .ok (.aload_n 0, 1) := by decide +kernel
theorem dX10_chainOf_21 : decode cX10_chainOf 21 = .ok (.getfield 9, 3) := by decide +kernel
theorem dX10_chainOf_24 : decode cX10_chainOf 24 = .ok (.if_icmp .ge 56, 3) := by decide +kernel
theorem dX10_chainOf_27 : decode cX10_chainOf 27 = .ok (.iconst 0, 1) := by decide +kernel
theorem dX10_chainOf_28 : decode cX10_chainOf 28 = .ok (.istore 4, 2) := by decide +kernel
theorem dX10_chainOf_30 : decode cX10_chainOf 30 = .ok (.iload 4, 2) := by decide +kernel

theorem dX5_repeats_0 : decode cX5_repeats 0 = .ok (.iconst 1, 1) := by decide +kernel
theorem dX5_repeats_1 : decode cX5_repeats 1 = .ok (.istore_n 2, 1) := by decide +kernel
theorem dX5_repeats_2 : decode cX5_repeats 2 = .ok (.iload_n 2, 1) := by decide +kernel
theorem dX5_repeats_3 : decode cX5_repeats 3 = .ok (.iload_n 1, 1) := by decide +kernel
theorem dX5_repeats_4 : decode cX5_repeats 4 = .ok (.if_icmp .ge 28, 3) := by decide +kernel
theorem dX5_repeats_7 : decode cX5_repeats 7 = .ok (.iload_n 1, 1) := by decide +kernel
theorem dX5_repeats_8 : decode cX5_repeats 8 = .ok (.iload_n 2, 1) := by decide +kernel
theorem dX5_repeats_9 : decode cX5_repeats 9 = .ok (.irem, 1) := by decide +kernel
theorem dX5_repeats_10 : decode cX5_repeats 10 = .ok (.ifCond .ne 16, 3) := by decide +kernel
theorem dX5_repeats_13 : decode cX5_repeats 13 = .ok (.aload_n 0, 1) := by decide +kernel
theorem dX5_repeats_14 : decode cX5_repeats 14 = .ok (.iload_n 1, 1) := by decide +kernel
theorem dX5_repeats_15 : decode cX5_repeats 15 = .ok (.iload_n 2, 1) := by decide +kernel
theorem dX5_repeats_16 : decode cX5_repeats 16 = .ok (.invokestatic 7, 3) := by decide +kernel
theorem dX5_repeats_19 : decode cX5_repeats 19 = .ok (.ifCond .eq 7, 3) := by decide +kernel
theorem dX5_repeats_22 : decode cX5_repeats 22 = .ok (.iload_n 1, 1) := by decide +kernel
theorem dX5_repeats_23 : decode cX5_repeats 23 = .ok (.iload_n 2, 1) := by decide +kernel
theorem dX5_repeats_24 : decode cX5_repeats 24 = .ok (.idiv, 1) := by decide +kernel
theorem dX5_repeats_25 : decode cX5_repeats 25 = .ok (.ireturn, 1) := by decide +kernel
theorem dX5_repeats_26 : decode cX5_repeats 26 = .ok (.iinc 2 1, 3) := by decide +kernel
theorem dX5_repeats_29 : decode cX5_repeats 29 = .ok (.goto (-27), 3) := by decide +kernel
theorem dX5_repeats_32 : decode cX5_repeats 32 = .ok (.iconst 1, 1) := by decide +kernel
theorem dX5_repeats_33 : decode cX5_repeats 33 = .ok (.ireturn, 1) := by decide +kernel
theorem dX5_hasPeriod_0 : decode cX5_hasPeriod 0 = .ok (.iload_n 2, 1) := by decide +kernel
theorem dX5_hasPeriod_1 : decode cX5_hasPeriod 1 = .ok (.istore_n 3, 1) := by decide +kernel
theorem dX5_hasPeriod_2 : decode cX5_hasPeriod 2 = .ok (.iload_n 3, 1) := by decide +kernel
theorem dX5_hasPeriod_3 : decode cX5_hasPeriod 3 = .ok (.iload_n 1, 1) := by decide +kernel
theorem dX5_hasPeriod_4 : decode cX5_hasPeriod 4 = .ok (.if_icmp .ge 22, 3) := by decide +kernel
theorem dX5_hasPeriod_7 : decode cX5_hasPeriod 7 = .ok (.aload_n 0, 1) := by decide +kernel
theorem dX5_hasPeriod_8 : decode cX5_hasPeriod 8 = .ok (.iload_n 3, 1) := by decide +kernel
theorem dX5_hasPeriod_9 : decode cX5_hasPeriod 9 = .ok (.iaload, 1) := by decide +kernel
theorem dX5_hasPeriod_10 : decode cX5_hasPeriod 10 = .ok (.aload_n 0, 1) := by decide +kernel
theorem dX5_hasPeriod_11 : decode cX5_hasPeriod 11 = .ok (.iload_n 3, 1) := by decide +kernel
theorem dX5_hasPeriod_12 : decode cX5_hasPeriod 12 = .ok (.iload_n 2, 1) := by decide +kernel
theorem dX5_hasPeriod_13 : decode cX5_hasPeriod 13 = .ok (.isub, 1) := by decide +kernel
theorem dX5_hasPeriod_14 : decode cX5_hasPeriod 14 = .ok (.iaload, 1) := by decide +kernel
theorem dX5_hasPeriod_15 : decode cX5_hasPeriod 15 = .ok (.if_icmp .eq 5, 3) := by decide +kernel
theorem dX5_hasPeriod_18 : decode cX5_hasPeriod 18 = .ok (.iconst 0, 1) := by decide +kernel
theorem dX5_hasPeriod_19 : decode cX5_hasPeriod 19 = .ok (.ireturn, 1) := by decide +kernel
theorem dX5_hasPeriod_20 : decode cX5_hasPeriod 20 = .ok (.iinc 3 1, 3) := by decide +kernel
theorem dX5_hasPeriod_23 : decode cX5_hasPeriod 23 = .ok (.goto (-21), 3) := by decide +kernel
theorem dX5_hasPeriod_26 : decode cX5_hasPeriod 26 = .ok (.iconst 1, 1) := by decide +kernel
theorem dX5_hasPeriod_27 : decode cX5_hasPeriod 27 = .ok (.ireturn, 1) := by decide +kernel
theorem dX5_isAheadOfItsTurns_0 : decode cX5_isAheadOfItsTurns 0 = .ok (.iconst 1, 1) := by decide +kernel
theorem dX5_isAheadOfItsTurns_1 : decode cX5_isAheadOfItsTurns 1 = .ok (.istore_n 2, 1) := by decide +kernel
theorem dX5_isAheadOfItsTurns_2 : decode cX5_isAheadOfItsTurns 2 = .ok (.iload_n 2, 1) := by decide +kernel
theorem dX5_isAheadOfItsTurns_3 : decode cX5_isAheadOfItsTurns 3 = .ok (.iload_n 1, 1) := by decide +kernel
theorem dX5_isAheadOfItsTurns_4 : decode cX5_isAheadOfItsTurns 4 = .ok (.if_icmp .ge 20, 3) := by decide +kernel
theorem dX5_isAheadOfItsTurns_7 : decode cX5_isAheadOfItsTurns 7 = .ok (.aload_n 0, 1) := by decide +kernel
theorem dX5_isAheadOfItsTurns_8 : decode cX5_isAheadOfItsTurns 8 = .ok (.iload_n 1, 1) := by decide +kernel
theorem dX5_isAheadOfItsTurns_9 : decode cX5_isAheadOfItsTurns 9 = .ok (.iload_n 2, 1) := by decide +kernel
theorem dX5_isAheadOfItsTurns_10 : decode cX5_isAheadOfItsTurns 10 = .ok (.invokestatic 13, 3) := by decide +kernel
theorem dX5_isAheadOfItsTurns_13 : decode cX5_isAheadOfItsTurns 13 = .ok (.ifCond .ne 5, 3) := by decide +kernel
theorem dX5_isAheadOfItsTurns_16 : decode cX5_isAheadOfItsTurns 16 = .ok (.iconst 0, 1) := by decide +kernel
theorem dX5_isAheadOfItsTurns_17 : decode cX5_isAheadOfItsTurns 17 = .ok (.ireturn, 1) := by decide +kernel
theorem dX5_isAheadOfItsTurns_18 : decode cX5_isAheadOfItsTurns 18 = .ok (.iinc 2 1, 3) := by decide +kernel
theorem dX5_isAheadOfItsTurns_21 : decode cX5_isAheadOfItsTurns 21 = .ok (.goto (-19), 3) := by decide +kernel
theorem dX5_isAheadOfItsTurns_24 : decode cX5_isAheadOfItsTurns 24 = .ok (.iconst 1, 1) := by decide +kernel
theorem dX5_isAheadOfItsTurns_25 : decode cX5_isAheadOfItsTurns 25 = .ok (.ireturn, 1) := by decide +kernel
theorem dX5_isAheadOfTurn_0 : decode cX5_isAheadOfTurn 0 = .ok (.iconst 0, 1) := by decide +kernel
theorem dX5_isAheadOfTurn_1 : decode cX5_isAheadOfTurn 1 = .ok (.istore_n 3, 1) := by decide +kernel
theorem dX5_isAheadOfTurn_2 : decode cX5_isAheadOfTurn 2 = .ok (.iload_n 3, 1) := by decide +kernel
theorem dX5_isAheadOfTurn_3 : decode cX5_isAheadOfTurn 3 = .ok (.iload_n 1, 1) := by decide +kernel
theorem dX5_isAheadOfTurn_4 : decode cX5_isAheadOfTurn 4 = .ok (.if_icmp .ge 40, 3) := by decide +kernel
theorem dX5_isAheadOfTurn_7 : decode cX5_isAheadOfTurn 7 = .ok (.aload_n 0, 1) := by decide +kernel
theorem dX5_isAheadOfTurn_8 : decode cX5_isAheadOfTurn 8 = .ok (.iload_n 3, 1) := by decide +kernel
theorem dX5_isAheadOfTurn_9 : decode cX5_isAheadOfTurn 9 = .ok (.iload_n 2, 1) := by decide +kernel
theorem dX5_isAheadOfTurn_10 : decode cX5_isAheadOfTurn 10 = .ok (.iadd, 1) := by decide +kernel
theorem dX5_isAheadOfTurn_11 : decode cX5_isAheadOfTurn 11 = .ok (.iload_n 1, 1) := by decide +kernel
theorem dX5_isAheadOfTurn_12 : decode cX5_isAheadOfTurn 12 = .ok (.irem, 1) := by decide +kernel
theorem dX5_isAheadOfTurn_13 : decode cX5_isAheadOfTurn 13 = .ok (.iaload, 1) := by decide +kernel
theorem dX5_isAheadOfTurn_14 : decode cX5_isAheadOfTurn 14 = .ok (.istore 4, 2) := by decide +kernel
theorem dX5_isAheadOfTurn_16 : decode cX5_isAheadOfTurn 16 = .ok (.aload_n 0, 1) := by decide +kernel
theorem dX5_isAheadOfTurn_17 : decode cX5_isAheadOfTurn 17 = .ok (.iload_n 3, 1) := by decide +kernel
theorem dX5_isAheadOfTurn_18 : decode cX5_isAheadOfTurn 18 = .ok (.iaload, 1) := by decide +kernel
theorem dX5_isAheadOfTurn_19 : decode cX5_isAheadOfTurn 19 = .ok (.iload 4, 2) := by decide +kernel
theorem dX5_isAheadOfTurn_21 : decode cX5_isAheadOfTurn 21 = .ok (.if_icmp .eq 17, 3) := by decide +kernel
theorem dX5_isAheadOfTurn_24 : decode cX5_isAheadOfTurn 24 = .ok (.aload_n 0, 1) := by decide +kernel
theorem dX5_isAheadOfTurn_25 : decode cX5_isAheadOfTurn 25 = .ok (.iload_n 3, 1) := by decide +kernel
theorem dX5_isAheadOfTurn_26 : decode cX5_isAheadOfTurn 26 = .ok (.iaload, 1) := by decide +kernel
theorem dX5_isAheadOfTurn_27 : decode cX5_isAheadOfTurn 27 = .ok (.iload 4, 2) := by decide +kernel
theorem dX5_isAheadOfTurn_29 : decode cX5_isAheadOfTurn 29 = .ok (.if_icmp .ge 7, 3) := by decide +kernel
theorem dX5_isAheadOfTurn_32 : decode cX5_isAheadOfTurn 32 = .ok (.iconst 1, 1) := by decide +kernel
theorem dX5_isAheadOfTurn_33 : decode cX5_isAheadOfTurn 33 = .ok (.goto 4, 3) := by decide +kernel
theorem dX5_isAheadOfTurn_36 : decode cX5_isAheadOfTurn 36 = .ok (.iconst 0, 1) := by decide +kernel
theorem dX5_isAheadOfTurn_37 : decode cX5_isAheadOfTurn 37 = .ok (.ireturn, 1) := by decide +kernel
theorem dX5_isAheadOfTurn_38 : decode cX5_isAheadOfTurn 38 = .ok (.iinc 3 1, 3) := by decide +kernel
theorem dX5_isAheadOfTurn_41 : decode cX5_isAheadOfTurn 41 = .ok (.goto (-39), 3) := by decide +kernel
theorem dX5_isAheadOfTurn_44 : decode cX5_isAheadOfTurn 44 = .ok (.iconst 0, 1) := by decide +kernel
theorem dX5_isAheadOfTurn_45 : decode cX5_isAheadOfTurn 45 = .ok (.ireturn, 1) := by decide +kernel

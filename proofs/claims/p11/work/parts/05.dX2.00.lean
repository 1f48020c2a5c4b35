theorem dX2_init_0 : decode cX2_init 0 = .ok (.aload_n 0, 1) := by decide +kernel
theorem dX2_init_1 : decode cX2_init 1 = .ok (.invokespecial 3, 3) := by decide +kernel
theorem dX2_init_4 : decode cX2_init 4 = .ok (.aload_n 0, 1) := by decide +kernel
theorem dX2_init_5 : decode cX2_init 5 = .ok (.bipush 9, 2) := by decide +kernel
theorem dX2_init_7 : decode cX2_init 7 = .ok (.anewarray 9, 3) := by decide +kernel
theorem dX2_init_10 : decode cX2_init 10 = .ok (.putfield 11, 3) := by decide +kernel
theorem dX2_init_13 : decode cX2_init 13 = .ok (.aload_n 0, 1) := by decide +kernel
theorem dX2_init_14 : decode cX2_init 14 = .ok (.bipush 9, 2) := by decide +kernel
theorem dX2_init_16 : decode cX2_init 16 = .ok (.bipush 6, 2) := by decide +kernel
theorem dX2_init_18 : decode cX2_init 18 = .ok (.multianewarray 17 2, 4) := by decide +kernel
theorem dX2_init_22 : decode cX2_init 22 = .ok (.putfield 19, 3) := by decide +kernel
theorem dX2_init_25 : decode cX2_init 25 = .ok (.aload_n 0, 1) := by decide +kernel
theorem dX2_init_26 : decode cX2_init 26 = .ok (.bipush 8, 2) := by decide +kernel
theorem dX2_init_28 : decode cX2_init 28 = .ok (.bipush 9, 2) := by decide +kernel
theorem dX2_init_30 : decode cX2_init 30 = .ok (.multianewarray 22 2, 4) := by decide +kernel
theorem dX2_init_34 : decode cX2_init 34 = .ok (.putfield 24, 3) := by decide +kernel
theorem dX2_init_37 : decode cX2_init 37 = .ok (.aload_n 0, 1) := by decide +kernel
theorem dX2_init_38 : decode cX2_init 38 = .ok (.bipush 8, 2) := by decide +kernel
theorem dX2_init_40 : decode cX2_init 40 = .ok (.newarray .int, 2) := by decide +kernel
theorem dX2_init_42 : decode cX2_init 42 = .ok (.putfield 27, 3) := by decide +kernel
theorem dX2_init_45 : decode cX2_init 45 = .ok (.aload_n 0, 1) := by decide +kernel
theorem dX2_init_46 : decode cX2_init 46 = .ok (.aload_n 1, 1) := by decide +kernel
theorem dX2_init_47 : decode cX2_init 47 = .ok (.putfield 31, 3) := by decide +kernel
theorem dX2_init_50 : decode cX2_init 50 = .ok (.iconst 0, 1) := by decide +kernel
theorem dX2_init_51 : decode cX2_init 51 = .ok (.istore_n 2, 1) := by decide +kernel
theorem dX2_init_52 : decode cX2_init 52 = .ok (.iload_n 2, 1) := by decide +kernel
theorem dX2_init_53 : decode cX2_init 53 = .ok (.bipush 8, 2) := by decide +kernel
theorem dX2_init_55 : decode cX2_init 55 = .ok (.if_icmp .gt 22, 3) := by decide +kernel
theorem dX2_init_58 : decode cX2_init 58 = .ok (.aload_n 0, 1) := by decide +kernel
theorem dX2_init_59 : decode cX2_init 59 = .ok (.getfield 11, 3) := by decide +kernel
theorem dX2_init_62 : decode cX2_init 62 = .ok (.iload_n 2, 1) := by decide +kernel
theorem dX2_init_63 : decode cX2_init 63 = .ok (.new 9, 3) := by decide +kernel
theorem dX2_init_66 : decode cX2_init 66 = .ok (.dup, 1) := by decide +kernel
theorem dX2_init_67 : decode cX2_init 67 = .ok (.invokespecial 35, 3) := by decide +kernel
theorem dX2_init_70 : decode cX2_init 70 = .ok (.aastore, 1) := by decide +kernel
theorem dX2_init_71 : decode cX2_init 71 = .ok (.iinc 2 1, 3) := by decide +kernel
theorem dX2_init_74 : decode cX2_init 74 = .ok (.goto (-22), 3) := by decide +kernel
theorem dX2_init_77 : decode cX2_init 77 = .ok (.return_, 1) := by decide +kernel
theorem dX2_forget_0 : decode cX2_forget 0 = .ok (.aload_n 0, 1) := by decide +kernel
theorem dX2_forget_1 : decode cX2_forget 1 = .ok (.iconst 0, 1) := by decide +kernel
theorem dX2_forget_2 : decode cX2_forget 2 = .ok (.putfield 36, 3) := by decide +kernel
theorem dX2_forget_5 : decode cX2_forget 5 = .ok (.iconst 0, 1) := by decide +kernel
theorem dX2_forget_6 : decode cX2_forget 6 = .ok (.istore_n 1, 1) := by decide +kernel
theorem dX2_forget_7 : decode cX2_forget 7 = .ok (.iload_n 1, 1) := by decide +kernel
theorem dX2_forget_8 : decode cX2_forget 8 = .ok (.bipush 8, 2) := by decide +kernel
theorem dX2_forget_10 : decode cX2_forget 10 = .ok (.if_icmp .gt 19, 3) := by decide +kernel
theorem dX2_forget_13 : decode cX2_forget 13 = .ok (.aload_n 0, 1) := by decide +kernel
theorem dX2_forget_14 : decode cX2_forget 14 = .ok (.getfield 11, 3) := by decide +kernel
theorem dX2_forget_17 : decode cX2_forget 17 = .ok (.iload_n 1, 1) := by decide +kernel
theorem dX2_forget_18 : decode cX2_forget 18 = .ok (.aaload, 1) := by decide +kernel
theorem dX2_forget_19 : decode cX2_forget 19 = .ok (.iconst 0, 1) := by decide +kernel
theorem dX2_forget_20 : decode cX2_forget 20 = .ok (.putfield 40, 3) := by decide +kernel
theorem dX2_forget_23 : decode cX2_forget 23 = .ok (.iinc 1 1, 3) := by decide +kernel
theorem dX2_forget_26 : decode cX2_forget 26 = .ok (.goto (-19), 3) := by decide +kernel
theorem dX2_forget_29 : decode cX2_forget 29 = .ok (.return_, 1) := by decide +kernel
theorem dX2_isSpent_0 : decode cX2_isSpent 0 = .ok (.aload_n 0, 1) := by decide +kernel
theorem dX2_isSpent_1 : decode cX2_isSpent 1 = .ok (.iload_n 1, 1) := by decide +kernel
theorem dX2_isSpent_2 : decode cX2_isSpent 2 = .ok (.invokevirtual 43, 3) := by decide +kernel
theorem dX2_isSpent_5 : decode cX2_isSpent 5 = .ok (.sipush 20000, 3) := by decide +kernel
theorem dX2_isSpent_8 : decode cX2_isSpent 8 = .ok (.if_icmp .le 7, 3) := by decide +kernel
theorem dX2_isSpent_11 : decode cX2_isSpent 11 = .ok (.iconst 1, 1) := by decide +kernel
theorem dX2_isSpent_12 : decode cX2_isSpent 12 = .ok (.goto 4, 3) := by decide +kernel
theorem dX2_isSpent_15 : decode cX2_isSpent 15 = .ok (.iconst 0, 1) := by decide +kernel
theorem dX2_isSpent_16 : decode cX2_isSpent 16 = .ok (.ireturn, 1) := by decide +kernel
theorem dX2_countOf_0 : decode cX2_countOf 0 = .ok (.aload_n 0, 1) := by decide +kernel
theorem dX2_countOf_1 : decode cX2_countOf 1 = .ok (.invokevirtual 47, 3) := by decide +kernel
theorem dX2_countOf_4 : decode cX2_countOf 4 = .ok (.iconst 0, 1) := by decide +kernel
theorem dX2_countOf_5 : decode cX2_countOf 5 = .ok (.istore_n 2, 1) := by decide +kernel
theorem dX2_countOf_6 : decode cX2_countOf 6 = .ok (.iconst 0, 1) := by decide +kernel
theorem dX2_countOf_7 : decode cX2_countOf 7 = .ok (.istore_n 3, 1) := by decide +kernel
theorem dX2_countOf_8 : decode cX2_countOf 8 = .ok (.iload_n 3, 1) := by decide +kernel
theorem dX2_countOf_9 : decode cX2_countOf 9 = .ok (.aload_n 0, 1) := by decide +kernel
theorem dX2_countOf_10 : decode cX2_countOf 10 = .ok (.getfield 31, 3) := by decide +kernel
theorem dX2_countOf_13 : decode cX2_countOf 13 = .ok (.invokevirtual 50, 3) := by decide +kernel
theorem dX2_countOf_16 : decode cX2_countOf 16 = .ok (.if_icmp .ge 20, 3) := by decide +kernel
theorem dX2_countOf_19 : decode cX2_countOf 19 = .ok (.iload_n 2, 1) := by decide +kernel
theorem dX2_countOf_20 : decode cX2_countOf 20 = .ok (.aload_n 0, 1) := by decide +kernel
theorem dX2_countOf_21 : decode cX2_countOf 21 = .ok (.getfield 19, 3) := by decide +kernel
theorem dX2_countOf_24 : decode cX2_countOf 24 = .ok (.iload_n 1, 1) := by decide +kernel
theorem dX2_countOf_25 : decode cX2_countOf 25 = .ok (.aaload, 1) := by decide +kernel
theorem dX2_countOf_26 : decode cX2_countOf 26 = .ok (.iload_n 3, 1) := by decide +kernel
theorem dX2_countOf_27 : decode cX2_countOf 27 = .ok (.iaload, 1) := by decide +kernel
theorem dX2_countOf_28 : decode cX2_countOf 28 = .ok (.iadd, 1) := by decide +kernel
theorem dX2_countOf_29 : decode cX2_countOf 29 = .ok (.istore_n 2, 1) := by decide +kernel
theorem dX2_countOf_30 : decode cX2_countOf 30 = .ok (.iinc 3 1, 3) := by decide +kernel
theorem dX2_countOf_33 : decode cX2_countOf 33 = .ok (.goto (-25), 3) := by decide +kernel
theorem dX2_countOf_36 : decode cX2_countOf 36 = .ok (.iload_n 2, 1) := by decide +kernel
theorem dX2_countOf_37 : decode cX2_countOf 37 = .ok (.ireturn, 1) := by decide +kernel
theorem dX2_findWays_0 : decode cX2_findWays 0 = .ok (.aload_n 0, 1) := by decide +kernel
theorem dX2_findWays_1 : decode cX2_findWays 1 = .ok (.getfield 36, 3) := by decide +kernel
theorem dX2_findWays_4 : decode cX2_findWays 4 = .ok (.ifCond .eq 4, 3) := by decide +kernel
theorem dX2_findWays_7 : decode cX2_findWays 7 = .ok (.return_, 1) := by decide +kernel
theorem dX2_findWays_8 : decode cX2_findWays 8 = .ok (.aload_n 0, 1) := by decide +kernel
theorem dX2_findWays_9 : decode cX2_findWays 9 = .ok (.getfield 19, 3) := by decide +kernel
theorem dX2_findWays_12 : decode cX2_findWays 12 = .ok (.iconst 1, 1) := by decide +kernel
theorem dX2_findWays_13 : decode cX2_findWays 13 = .ok (.aaload, 1) := by decide +kernel
theorem dX2_findWays_14 : decode cX2_findWays 14 = .ok (.iconst 1, 1) := by decide +kernel
theorem dX2_findWays_15 : decode cX2_findWays 15 = .ok (.invokestatic 56, 3) := by decide +kernel
theorem dX2_findWays_18 : decode cX2_findWays 18 = .ok (.iconst 2, 1) := by decide +kernel
theorem dX2_findWays_19 : decode cX2_findWays 19 = .ok (.istore_n 1, 1) := by decide +kernel
theorem dX2_findWays_20 : decode cX2_findWays 20 = .ok (.iload_n 1, 1) := by decide +kernel
theorem dX2_findWays_21 : decode cX2_findWays 21 = .ok (.bipush 8, 2) := by decide +kernel
theorem dX2_findWays_23 : decode cX2_findWays 23 = .ok (.if_icmp .gt 42, 3) := by decide +kernel
theorem dX2_findWays_26 : decode cX2_findWays 26 = .ok (.iconst 0, 1) := by decide +kernel
theorem dX2_findWays_27 : decode cX2_findWays 27 = .ok (.istore_n 2, 1) := by decide +kernel
theorem dX2_findWays_28 : decode cX2_findWays 28 = .ok (.iload_n 2, 1) := by decide +kernel
theorem dX2_findWays_29 : decode cX2_findWays 29 = .ok (.aload_n 0, 1) := by decide +kernel
theorem dX2_findWays_30 : decode cX2_findWays 30 = .ok (.getfield 31, 3) := by decide +kernel
theorem dX2_findWays_33 : decode cX2_findWays 33 = .ok (.invokevirtual 50, 3) := by decide +kernel
theorem dX2_findWays_36 : decode cX2_findWays 36 = .ok (.if_icmp .ge 23, 3) := by decide +kernel
theorem dX2_findWays_39 : decode cX2_findWays 39 = .ok (.aload_n 0, 1) := by decide +kernel
theorem dX2_findWays_40 : decode cX2_findWays 40 = .ok (.getfield 19, 3) := by decide +kernel
theorem dX2_findWays_43 : decode cX2_findWays 43 = .ok (.iload_n 1, 1) := by decide +kernel
theorem dX2_findWays_44 : decode cX2_findWays 44 = .ok (.aaload, 1) := by decide +kernel
theorem dX2_findWays_45 : decode cX2_findWays 45 = .ok (.iload_n 2, 1) := by decide +kernel
theorem dX2_findWays_46 : decode cX2_findWays 46 = .ok (.aload_n 0, 1) := by decide +kernel
theorem dX2_findWays_47 : decode cX2_findWays 47 = .ok (.iload_n 1, 1) := by decide +kernel
theorem dX2_findWays_48 : decode cX2_findWays 48 = .ok (.iload_n 2, 1) := by decide +kernel
theorem dX2_findWays_49 : decode cX2_findWays 49 = .ok (.invokevirtual 62, 3) := by decide +kernel
theorem dX2_findWays_52 : decode cX2_findWays 52 = .ok (.iastore, 1) := by decide +kernel
theorem dX2_findWays_53 : decode cX2_findWays 53 = .ok (.iinc 2 1, 3) := by decide +kernel
theorem dX2_findWays_56 : decode cX2_findWays 56 = .ok (.goto (-28), 3) := by decide +kernel
theorem dX2_findWays_59 : decode cX2_findWays 59 = .ok (.iinc 1 1, 3) := by decide +kernel
theorem dX2_findWays_62 : decode cX2_findWays 62 = .ok (.goto (-42), 3) := by decide +kernel
theorem dX2_findWays_65 : decode cX2_findWays 65 = .ok (.aload_n 0, 1) := by decide +kernel
theorem dX2_findWays_66 : decode cX2_findWays 66 = .ok (.iconst 1, 1) := by decide +kernel
theorem dX2_findWays_67 : decode cX2_findWays 67 = .ok (.putfield 36, 3) := by decide +kernel
theorem dX2_findWays_70 : decode cX2_findWays 70 = .ok (.return_, 1) := by decide +kernel
theorem dX2_countWays_0 : decode cX2_countWays 0 = .ok (.iconst 0, 1) := by decide +kernel
theorem dX2_countWays_1 : decode cX2_countWays 1 = .ok (.istore_n 3, 1) := by decide +kernel
theorem dX2_countWays_2 : decode cX2_countWays 2 = .ok (.iconst 0, 1) := by decide +kernel
theorem dX2_countWays_3 : decode cX2_countWays 3 = .ok (.istore 4, 2) := by decide +kernel
theorem dX2_countWays_5 : decode cX2_countWays 5 = .ok (.iload 4, 2) := by decide +kernel
theorem dX2_countWays_7 : decode cX2_countWays 7 = .ok (.aload_n 0, 1) := by decide +kernel
theorem dX2_countWays_8 : decode cX2_countWays 8 = .ok (.getfield 31, 3) := by decide +kernel
theorem dX2_countWays_11 : decode cX2_countWays 11 = .ok (.invokevirtual 50, 3) := by decide +kernel
theorem dX2_countWays_14 : decode cX2_countWays 14 = .ok (.if_icmp .ge 36, 3) := by decide +kernel
theorem dX2_countWays_17 : decode cX2_countWays 17 = .ok (.aload_n 0, 1) := by decide +kernel
theorem dX2_countWays_18 : decode cX2_countWays 18 = .ok (.getfield 31, 3) := by decide +kernel
theorem dX2_countWays_21 : decode cX2_countWays 21 = .ok (.iload_n 2, 1) := by decide +kernel
theorem dX2_countWays_22 : decode cX2_countWays 22 = .ok (.iload 4, 2) := by decide +kernel
theorem dX2_countWays_24 : decode cX2_countWays 24 = .ok (.invokevirtual 66, 3) := by decide +kernel
theorem dX2_countWays_27 : decode cX2_countWays 27 = .ok (.ifCond .eq 17, 3) := by decide +kernel
theorem dX2_countWays_30 : decode cX2_countWays 30 = .ok (.iload_n 3, 1) := by decide +kernel
theorem dX2_countWays_31 : decode cX2_countWays 31 = .ok (.aload_n 0, 1) := by decide +kernel
theorem dX2_countWays_32 : decode cX2_countWays 32 = .ok (.getfield 19, 3) := by decide +kernel
theorem dX2_countWays_35 : decode cX2_countWays 35 = .ok (.iload_n 1, 1) := by decide +kernel
theorem dX2_countWays_36 : decode cX2_countWays 36 = .ok (.iconst 1, 1) := by decide +kernel
theorem dX2_countWays_37 : decode cX2_countWays 37 = .ok (.isub, 1) := by decide +kernel
theorem dX2_countWays_38 : decode cX2_countWays 38 = .ok (.aaload, 1) := by decide +kernel
theorem dX2_countWays_39 : decode cX2_countWays 39 = .ok (.iload 4, 2) := by decide +kernel
theorem dX2_countWays_41 : decode cX2_countWays 41 = .ok (.iaload, 1) := by decide +kernel
theorem dX2_countWays_42 : decode cX2_countWays 42 = .ok (.iadd, 1) := by decide +kernel
theorem dX2_countWays_43 : decode cX2_countWays 43 = .ok (.istore_n 3, 1) := by decide +kernel
theorem dX2_countWays_44 : decode cX2_countWays 44 = .ok (.iinc 4 1, 3) := by decide +kernel
theorem dX2_countWays_47 : decode cX2_countWays 47 = .ok (.goto (-42), 3) := by decide +kernel
theorem dX2_countWays_50 : decode cX2_countWays 50 = .ok (.iload_n 3, 1) := by decide +kernel
theorem dX2_countWays_51 : decode cX2_countWays 51 = .ok (.ireturn, 1) := by decide +kernel
theorem dX2_surveyOf_0 : decode cX2_surveyOf 0 = .ok (.aload_n 0, 1) := by decide +kernel
theorem dX2_surveyOf_1 : decode cX2_surveyOf 1 = .ok (.getfield 11, 3) := by decide +kernel
theorem dX2_surveyOf_4 : decode cX2_surveyOf 4 = .ok (.iload_n 1, 1) := by decide +kernel
theorem dX2_surveyOf_5 : decode cX2_surveyOf 5 = .ok (.aaload, 1) := by decide +kernel
theorem dX2_surveyOf_6 : decode cX2_surveyOf 6 = .ok (.astore_n 2, 1) := by decide +kernel
theorem dX2_surveyOf_7 : decode cX2_surveyOf 7 = .ok (.aload_n 2, 1) := by decide +kernel
theorem dX2_surveyOf_8 : decode cX2_surveyOf 8 = .ok (.getfield 40, 3) := by decide +kernel
theorem dX2_surveyOf_11 : decode cX2_surveyOf 11 = .ok (.ifCond .ne 23, 3) := by decide +kernel
theorem dX2_surveyOf_14 : decode cX2_surveyOf 14 = .ok (.aload_n 0, 1) := by decide +kernel
theorem dX2_surveyOf_15 : decode cX2_surveyOf 15 = .ok (.invokevirtual 47, 3) := by decide +kernel
theorem dX2_surveyOf_18 : decode cX2_surveyOf 18 = .ok (.aload_n 2, 1) := by decide +kernel
theorem dX2_surveyOf_19 : decode cX2_surveyOf 19 = .ok (.invokevirtual 70, 3) := by decide +kernel
theorem dX2_surveyOf_22 : decode cX2_surveyOf 22 = .ok (.aload_n 0, 1) := by decide +kernel
theorem dX2_surveyOf_23 : decode cX2_surveyOf 23 = .ok (.aload_n 2, 1) := by decide +kernel
theorem dX2_surveyOf_24 : decode cX2_surveyOf 24 = .ok (.iload_n 1, 1) := by decide +kernel
theorem dX2_surveyOf_25 : decode cX2_surveyOf 25 = .ok (.iconst 0, 1) := by decide +kernel
theorem dX2_surveyOf_26 : decode cX2_surveyOf 26 = .ok (.invokestatic 73, 3) := by decide +kernel
theorem dX2_surveyOf_29 : decode cX2_surveyOf 29 = .ok (.aload_n 2, 1) := by decide +kernel
theorem dX2_surveyOf_30 : decode cX2_surveyOf 30 = .ok (.iconst 1, 1) := by decide +kernel
theorem dX2_surveyOf_31 : decode cX2_surveyOf 31 = .ok (.putfield 40, 3) := by decide +kernel
theorem dX2_surveyOf_34 : decode cX2_surveyOf 34 = .ok (.aload_n 2, 1) := by decide +kernel
theorem dX2_surveyOf_35 : decode cX2_surveyOf 35 = .ok (.areturn, 1) := by decide +kernel
theorem dX2_walk_0 : decode cX2_walk 0 = .ok (.iload_n 3, 1) := by decide +kernel
theorem dX2_walk_1 : decode cX2_walk 1 = .ok (.iload_n 2, 1) := by decide +kernel
theorem dX2_walk_2 : decode cX2_walk 2 = .ok (.if_icmp .lt 10, 3) := by decide +kernel
theorem dX2_walk_5 : decode cX2_walk 5 = .ok (.aload_n 0, 1) := by decide +kernel
theorem dX2_walk_6 : decode cX2_walk 6 = .ok (.aload_n 1, 1) := by decide +kernel
theorem dX2_walk_7 : decode cX2_walk 7 = .ok (.iload_n 2, 1) := by decide +kernel
theorem dX2_walk_8 : decode cX2_walk 8 = .ok (.invokevirtual 77, 3) := by decide +kernel
theorem dX2_walk_11 : decode cX2_walk 11 = .ok (.return_, 1) := by decide +kernel
theorem dX2_walk_12 : decode cX2_walk 12 = .ok (.iconst 0, 1) := by decide +kernel
theorem dX2_walk_13 : decode cX2_walk 13 = .ok (.istore 4, 2) := by decide +kernel
theorem dX2_walk_15 : decode cX2_walk 15 = .ok (.iload 4, 2) := by decide +kernel
theorem dX2_walk_17 : decode cX2_walk 17 = .ok (.aload_n 0, 1) := by decide +kernel
theorem dX2_walk_18 : decode cX2_walk 18 = .ok (.getfield 31, 3) := by decide +kernel
theorem dX2_walk_21 : decode cX2_walk 21 = .ok (.invokevirtual 50, 3) := by decide +kernel
theorem dX2_walk_24 : decode cX2_walk 24 = .ok (.if_icmp .ge 36, 3) := by decide +kernel
theorem dX2_walk_27 : decode cX2_walk 27 = .ok (.aload_n 0, 1) := by decide +kernel
theorem dX2_walk_28 : decode cX2_walk 28 = .ok (.iload_n 2, 1) := by decide +kernel
theorem dX2_walk_29 : decode cX2_walk 29 = .ok (.iload_n 3, 1) := by decide +kernel
theorem dX2_walk_30 : decode cX2_walk 30 = .ok (.iload 4, 2) := by decide +kernel
theorem dX2_walk_32 : decode cX2_walk 32 = .ok (.invokevirtual 81, 3) := by decide +kernel
theorem dX2_walk_35 : decode cX2_walk 35 = .ok (.ifCond .eq 19, 3) := by decide +kernel
theorem dX2_walk_38 : decode cX2_walk 38 = .ok (.aload_n 0, 1) := by decide +kernel
theorem dX2_walk_39 : decode cX2_walk 39 = .ok (.iload_n 3, 1) := by decide +kernel
theorem dX2_walk_40 : decode cX2_walk 40 = .ok (.iload 4, 2) := by decide +kernel
theorem dX2_walk_42 : decode cX2_walk 42 = .ok (.invokevirtual 85, 3) := by decide +kernel
theorem dX2_walk_45 : decode cX2_walk 45 = .ok (.aload_n 0, 1) := by decide +kernel
theorem dX2_walk_46 : decode cX2_walk 46 = .ok (.aload_n 1, 1) := by decide +kernel
theorem dX2_walk_47 : decode cX2_walk 47 = .ok (.iload_n 2, 1) := by decide +kernel
theorem dX2_walk_48 : decode cX2_walk 48 = .ok (.iload_n 3, 1) := by decide +kernel
theorem dX2_walk_49 : decode cX2_walk 49 = .ok (.iconst 1, 1) := by decide +kernel
theorem dX2_walk_50 : decode cX2_walk 50 = .ok (.iadd, 1) := by decide +kernel
theorem dX2_walk_51 : decode cX2_walk 51 = .ok (.invokestatic 73, 3) := by decide +kernel
theorem dX2_walk_54 : decode cX2_walk 54 = .ok (.iinc 4 1, 3) := by decide +kernel
theorem dX2_walk_57 : decode cX2_walk 57 = .ok (.goto (-42), 3) := by decide +kernel
theorem dX2_walk_60 : decode cX2_walk 60 = .ok (.return_, 1) := by decide +kernel
theorem dX2_leadsOn_0 : decode cX2_leadsOn 0 = .ok (.aload_n 0, 1) := by decide +kernel
theorem dX2_leadsOn_1 : decode cX2_leadsOn 1 = .ok (.getfield 19, 3) := by decide +kernel
theorem dX2_leadsOn_4 : decode cX2_leadsOn 4 = .ok (.iload_n 1, 1) := by decide +kernel
theorem dX2_leadsOn_5 : decode cX2_leadsOn 5 = .ok (.iload_n 2, 1) := by decide +kernel
theorem dX2_leadsOn_6 : decode cX2_leadsOn 6 = .ok (.isub, 1) := by decide +kernel
theorem dX2_leadsOn_7 : decode cX2_leadsOn 7 = .ok (.aaload, 1) := by decide +kernel
theorem dX2_leadsOn_8 : decode cX2_leadsOn 8 = .ok (.iload_n 3, 1) := by decide +kernel
theorem dX2_leadsOn_9 : decode cX2_leadsOn 9 = .ok (.iaload, 1) := by decide +kernel
theorem dX2_leadsOn_10 : decode cX2_leadsOn 10 = .ok (.ifCond .le 30, 3) := by decide +kernel
theorem dX2_leadsOn_13 : decode cX2_leadsOn 13 = .ok (.iload_n 2, 1) := by decide +kernel
theorem dX2_leadsOn_14 : decode cX2_leadsOn 14 = .ok (.ifCond .eq 22, 3) := by decide +kernel
theorem dX2_leadsOn_17 : decode cX2_leadsOn 17 = .ok (.aload_n 0, 1) := by decide +kernel
theorem dX2_leadsOn_18 : decode cX2_leadsOn 18 = .ok (.getfield 31, 3) := by decide +kernel
theorem dX2_leadsOn_21 : decode cX2_leadsOn 21 = .ok (.aload_n 0, 1) := by decide +kernel
theorem dX2_leadsOn_22 : decode cX2_leadsOn 22 = .ok (.getfield 27, 3) := by decide +kernel
theorem dX2_leadsOn_25 : decode cX2_leadsOn 25 = .ok (.iload_n 2, 1) := by decide +kernel
theorem dX2_leadsOn_26 : decode cX2_leadsOn 26 = .ok (.iconst 1, 1) := by decide +kernel
theorem dX2_leadsOn_27 : decode cX2_leadsOn 27 = .ok (.isub, 1) := by decide +kernel
theorem dX2_leadsOn_28 : decode cX2_leadsOn 28 = .ok (.iaload, 1) := by decide +kernel
theorem dX2_leadsOn_29 : decode cX2_leadsOn 29 = .ok (.iload_n 3, 1) := by decide +kernel
theorem dX2_leadsOn_30 : decode cX2_leadsOn 30 = .ok (.invokevirtual 66, 3) := by decide +kernel
theorem dX2_leadsOn_33 : decode cX2_leadsOn 33 = .ok (.ifCond .eq 7, 3) := by decide +kernel
theorem dX2_leadsOn_36 : decode cX2_leadsOn 36 = .ok (.iconst 1, 1) := by decide +kernel
theorem dX2_leadsOn_37 : decode cX2_leadsOn 37 = .ok (.goto 4, 3) := by decide +kernel
theorem dX2_leadsOn_40 : decode cX2_leadsOn 40 = .ok (.iconst 0, 1) := by decide +kernel
theorem dX2_leadsOn_41 : decode cX2_leadsOn 41 = .ok (.ireturn, 1) := by decide +kernel
theorem dX2_extendPrefix_0 : decode cX2_extendPrefix 0 = .ok (.aload_n 0, 1) := by decide +kernel
theorem dX2_extendPrefix_1 : decode cX2_extendPrefix 1 = .ok (.getfield 27, 3) := by decide +kernel
theorem dX2_extendPrefix_4 : decode cX2_extendPrefix 4 = .ok (.iload_n 1, 1) := by decide +kernel
theorem dX2_extendPrefix_5 : decode cX2_extendPrefix 5 = .ok (.iload_n 2, 1) := by decide +kernel
theorem dX2_extendPrefix_6 : decode cX2_extendPrefix 6 = .ok (.iastore, 1) := by decide +kernel
theorem dX2_extendPrefix_7 : decode cX2_extendPrefix 7 = .ok (.iload_n 1, 1) := by decide +kernel
theorem dX2_extendPrefix_8 : decode cX2_extendPrefix 8 = .ok (.ifCond .ne 27, 3) := by decide +kernel
theorem dX2_extendPrefix_11 : decode cX2_extendPrefix 11 = .ok (.aload_n 0, 1) := by decide +kernel
theorem dX2_extendPrefix_12 : decode cX2_extendPrefix 12 = .ok (.getfield 31, 3) := by decide +kernel
theorem dX2_extendPrefix_15 : decode cX2_extendPrefix 15 = .ok (.iload_n 2, 1) := by decide +kernel
theorem dX2_extendPrefix_16 : decode cX2_extendPrefix 16 = .ok (.invokevirtual 89, 3) := by decide +kernel
theorem dX2_extendPrefix_19 : decode cX2_extendPrefix 19 = .ok (.iconst 0, 1) := by decide +kernel
theorem dX2_extendPrefix_20 : decode cX2_extendPrefix 20 = .ok (.aload_n 0, 1) := by decide +kernel
theorem dX2_extendPrefix_21 : decode cX2_extendPrefix 21 = .ok (.getfield 24, 3) := by decide +kernel
theorem dX2_extendPrefix_24 : decode cX2_extendPrefix 24 = .ok (.iconst 0, 1) := by decide +kernel
theorem dX2_extendPrefix_25 : decode cX2_extendPrefix 25 = .ok (.aaload, 1) := by decide +kernel
theorem dX2_extendPrefix_26 : decode cX2_extendPrefix 26 = .ok (.iconst 0, 1) := by decide +kernel
theorem dX2_extendPrefix_27 : decode cX2_extendPrefix 27 = .ok (.bipush 9, 2) := by decide +kernel
theorem dX2_extendPrefix_29 : decode cX2_extendPrefix 29 = .ok (.invokestatic 93, 3) := by decide +kernel
theorem dX2_extendPrefix_32 : decode cX2_extendPrefix 32 = .ok (.goto 32, 3) := by decide +kernel
theorem dX2_extendPrefix_35 : decode cX2_extendPrefix 35 = .ok (.aload_n 0, 1) := by decide +kernel
theorem dX2_extendPrefix_36 : decode cX2_extendPrefix 36 = .ok (.getfield 31, 3) := by decide +kernel
theorem dX2_extendPrefix_39 : decode cX2_extendPrefix 39 = .ok (.aload_n 0, 1) := by decide +kernel
theorem dX2_extendPrefix_40 : decode cX2_extendPrefix 40 = .ok (.getfield 24, 3) := by decide +kernel
theorem dX2_extendPrefix_43 : decode cX2_extendPrefix 43 = .ok (.iload_n 1, 1) := by decide +kernel
theorem dX2_extendPrefix_44 : decode cX2_extendPrefix 44 = .ok (.iconst 1, 1) := by decide +kernel
theorem dX2_extendPrefix_45 : decode cX2_extendPrefix 45 = .ok (.isub, 1) := by decide +kernel
theorem dX2_extendPrefix_46 : decode cX2_extendPrefix 46 = .ok (.aaload, 1) := by decide +kernel
theorem dX2_extendPrefix_47 : decode cX2_extendPrefix 47 = .ok (.aload_n 0, 1) := by decide +kernel
theorem dX2_extendPrefix_48 : decode cX2_extendPrefix 48 = .ok (.getfield 31, 3) := by decide +kernel
theorem dX2_extendPrefix_51 : decode cX2_extendPrefix 51 = .ok (.iload_n 2, 1) := by decide +kernel
theorem dX2_extendPrefix_52 : decode cX2_extendPrefix 52 = .ok (.invokevirtual 89, 3) := by decide +kernel
theorem dX2_extendPrefix_55 : decode cX2_extendPrefix 55 = .ok (.aload_n 0, 1) := by decide +kernel
theorem dX2_extendPrefix_56 : decode cX2_extendPrefix 56 = .ok (.getfield 24, 3) := by decide +kernel
theorem dX2_extendPrefix_59 : decode cX2_extendPrefix 59 = .ok (.iload_n 1, 1) := by decide +kernel
theorem dX2_extendPrefix_60 : decode cX2_extendPrefix 60 = .ok (.aaload, 1) := by decide +kernel
theorem dX2_extendPrefix_61 : decode cX2_extendPrefix 61 = .ok (.invokevirtual 99, 3) := by decide +kernel
theorem dX2_extendPrefix_64 : decode cX2_extendPrefix 64 = .ok (.return_, 1) := by decide +kernel
theorem dX2_noteWord_0 : decode cX2_noteWord 0 = .ok (.aload_n 0, 1) := by decide +kernel
theorem dX2_noteWord_1 : decode cX2_noteWord 1 = .ok (.getfield 24, 3) := by decide +kernel
theorem dX2_noteWord_4 : decode cX2_noteWord 4 = .ok (.iload_n 2, 1) := by decide +kernel
theorem dX2_noteWord_5 : decode cX2_noteWord 5 = .ok (.iconst 1, 1) := by decide +kernel
theorem dX2_noteWord_6 : decode cX2_noteWord 6 = .ok (.isub, 1) := by decide +kernel
theorem dX2_noteWord_7 : decode cX2_noteWord 7 = .ok (.aaload, 1) := by decide +kernel
theorem dX2_noteWord_8 : decode cX2_noteWord 8 = .ok (.astore_n 3, 1) := by decide +kernel
theorem dX2_noteWord_9 : decode cX2_noteWord 9 = .ok (.aload_n 1, 1) := by decide +kernel
theorem dX2_noteWord_10 : decode cX2_noteWord 10 = .ok (.aload_n 0, 1) := by decide +kernel
theorem dX2_noteWord_11 : decode cX2_noteWord 11 = .ok (.getfield 27, 3) := by decide +kernel
theorem dX2_noteWord_14 : decode cX2_noteWord 14 = .ok (.iload_n 2, 1) := by decide +kernel
theorem dX2_noteWord_15 : decode cX2_noteWord 15 = .ok (.aload_n 0, 1) := by decide +kernel
theorem dX2_noteWord_16 : decode cX2_noteWord 16 = .ok (.getfield 31, 3) := by decide +kernel
theorem dX2_noteWord_19 : decode cX2_noteWord 19 = .ok (.aload_n 3, 1) := by decide +kernel
theorem dX2_noteWord_20 : decode cX2_noteWord 20 = .ok (.invokevirtual 103, 3) := by decide +kernel
theorem dX2_noteWord_23 : decode cX2_noteWord 23 = .ok (.invokevirtual 107, 3) := by decide +kernel
theorem dX2_noteWord_26 : decode cX2_noteWord 26 = .ok (.aload_n 0, 1) := by decide +kernel
theorem dX2_noteWord_27 : decode cX2_noteWord 27 = .ok (.getfield 31, 3) := by decide +kernel
theorem dX2_noteWord_30 : decode cX2_noteWord 30 = .ok (.aload_n 0, 1) := by decide +kernel
theorem dX2_noteWord_31 : decode cX2_noteWord 31 = .ok (.getfield 27, 3) := by decide +kernel
theorem dX2_noteWord_34 : decode cX2_noteWord 34 = .ok (.iload_n 2, 1) := by decide +kernel
theorem dX2_noteWord_35 : decode cX2_noteWord 35 = .ok (.invokevirtual 111, 3) := by decide +kernel
theorem dX2_noteWord_38 : decode cX2_noteWord 38 = .ok (.ifCond .ne 4, 3) := by decide +kernel
theorem dX2_noteWord_41 : decode cX2_noteWord 41 = .ok (.return_, 1) := by decide +kernel
theorem dX2_noteWord_42 : decode cX2_noteWord 42 = .ok (.aload_n 0, 1) := by decide +kernel
theorem dX2_noteWord_43 : decode cX2_noteWord 43 = .ok (.getfield 31, 3) := by decide +kernel
theorem dX2_noteWord_46 : decode cX2_noteWord 46 = .ok (.aload_n 3, 1) := by decide +kernel
theorem dX2_noteWord_47 : decode cX2_noteWord 47 = .ok (.invokevirtual 115, 3) := by decide +kernel
theorem dX2_noteWord_50 : decode cX2_noteWord 50 = .ok (.lstore 4, 2) := by decide +kernel
theorem dX2_noteWord_52 : decode cX2_noteWord 52 = .ok (.aload_n 1, 1) := by decide +kernel
theorem dX2_noteWord_53 : decode cX2_noteWord 53 = .ok (.lload 4, 2) := by decide +kernel
theorem dX2_noteWord_55 : decode cX2_noteWord 55 = .ok (.invokevirtual 118, 3) := by decide +kernel
theorem dX2_noteWord_58 : decode cX2_noteWord 58 = .ok (.aload_n 0, 1) := by decide +kernel
theorem dX2_noteWord_59 : decode cX2_noteWord 59 = .ok (.getfield 27, 3) := by decide +kernel
theorem dX2_noteWord_62 : decode cX2_noteWord 62 = .ok (.iload_n 2, 1) := by decide +kernel
theorem dX2_noteWord_63 : decode cX2_noteWord 63 = .ok (.invokestatic 122, 3) := by decide +kernel
theorem dX2_noteWord_66 : decode cX2_noteWord 66 = .ok (.ifCond .eq 14, 3) := by decide +kernel
theorem dX2_noteWord_69 : decode cX2_noteWord 69 = .ok (.aload_n 1, 1) := by decide +kernel
theorem dX2_noteWord_70 : decode cX2_noteWord 70 = .ok (.aload_n 0, 1) := by decide +kernel
theorem dX2_noteWord_71 : decode cX2_noteWord 71 = .ok (.getfield 27, 3) := by decide +kernel
theorem dX2_noteWord_74 : decode cX2_noteWord 74 = .ok (.iload_n 2, 1) := by decide +kernel
theorem dX2_noteWord_75 : decode cX2_noteWord 75 = .ok (.lload 4, 2) := by decide +kernel
theorem dX2_noteWord_77 : decode cX2_noteWord 77 = .ok (.invokevirtual 127, 3) := by decide +kernel
theorem dX2_noteWord_80 : decode cX2_noteWord 80 = .ok (.return_, 1) := by decide +kernel
theorem dX2_compareGrowth_0 : decode cX2_compareGrowth 0 = .ok (.iconst 0, 1) := by decide +kernel
theorem dX2_compareGrowth_1 : decode cX2_compareGrowth 1 = .ok (.istore 4, 2) := by decide +kernel
theorem dX2_compareGrowth_3 : decode cX2_compareGrowth 3 = .ok (.lconst 1, 1) := by decide +kernel
theorem dX2_compareGrowth_4 : decode cX2_compareGrowth 4 = .ok (.lstore 5, 2) := by decide +kernel
theorem dX2_compareGrowth_6 : decode cX2_compareGrowth 6 = .ok (.lconst 1, 1) := by decide +kernel
theorem dX2_compareGrowth_7 : decode cX2_compareGrowth 7 = .ok (.lstore 7, 2) := by decide +kernel
theorem dX2_compareGrowth_9 : decode cX2_compareGrowth 9 = .ok (.iconst 1, 1) := by decide +kernel
theorem dX2_compareGrowth_10 : decode cX2_compareGrowth 10 = .ok (.istore 9, 2) := by decide +kernel
theorem dX2_compareGrowth_12 : decode cX2_compareGrowth 12 = .ok (.iload 9, 2) := by decide +kernel
theorem dX2_compareGrowth_14 : decode cX2_compareGrowth 14 = .ok (.iload_n 3, 1) := by decide +kernel
theorem dX2_compareGrowth_15 : decode cX2_compareGrowth 15 = .ok (.if_icmp .gt 91, 3) := by decide +kernel
theorem dX2_compareGrowth_18 : decode cX2_compareGrowth 18 = .ok (.lload 5, 2) := by decide +kernel
theorem dX2_compareGrowth_20 : decode cX2_compareGrowth 20 = .ok (.iload_n 1, 1) := by decide +kernel
theorem dX2_compareGrowth_21 : decode cX2_compareGrowth 21 = .ok (.i2l, 1) := by decide +kernel
theorem dX2_compareGrowth_22 : decode cX2_compareGrowth 22 = .ok (.lmul, 1) := by decide +kernel
theorem dX2_compareGrowth_23 : decode cX2_compareGrowth 23 = .ok (.lstore 5, 2) := by decide +kernel
theorem dX2_compareGrowth_25 : decode cX2_compareGrowth 25 = .ok (.lload 7, 2) := by decide +kernel
theorem dX2_compareGrowth_27 : decode cX2_compareGrowth 27 = .ok (.iload_n 2, 1) := by decide +kernel
theorem dX2_compareGrowth_28 : decode cX2_compareGrowth 28 = .ok (.i2l, 1) := by decide +kernel
theorem dX2_compareGrowth_29 : decode cX2_compareGrowth 29 = .ok (.lmul, 1) := by decide +kernel
theorem dX2_compareGrowth_30 : decode cX2_compareGrowth 30 = .ok (.lstore 7, 2) := by decide +kernel
theorem dX2_compareGrowth_32 : decode cX2_compareGrowth 32 = .ok (.aload_n 0, 1) := by decide +kernel
theorem dX2_compareGrowth_33 : decode cX2_compareGrowth 33 = .ok (.iload 9, 2) := by decide +kernel
theorem dX2_compareGrowth_35 : decode cX2_compareGrowth 35 = .ok (.invokevirtual 130, 3) := by decide +kernel
theorem dX2_compareGrowth_38 : decode cX2_compareGrowth 38 = .ok (.astore 10, 2) := by decide +kernel
theorem dX2_compareGrowth_40 : decode cX2_compareGrowth 40 = .ok (.aload 10, 2) := by decide +kernel
theorem dX2_compareGrowth_42 : decode cX2_compareGrowth 42 = .ok (.getfield 134, 3) := by decide +kernel
theorem dX2_compareGrowth_45 : decode cX2_compareGrowth 45 = .ok (.lload 7, 2) := by decide +kernel
theorem dX2_compareGrowth_47 : decode cX2_compareGrowth 47 = .ok (.lmul, 1) := by decide +kernel
theorem dX2_compareGrowth_48 : decode cX2_compareGrowth 48 = .ok (.aload_n 0, 1) := by decide +kernel
theorem dX2_compareGrowth_49 : decode cX2_compareGrowth 49 = .ok (.getfield 31, 3) := by decide +kernel
theorem dX2_compareGrowth_52 : decode cX2_compareGrowth 52 = .ok (.invokevirtual 138, 3) := by decide +kernel
theorem dX2_compareGrowth_55 : decode cX2_compareGrowth 55 = .ok (.i2l, 1) := by decide +kernel
theorem dX2_compareGrowth_56 : decode cX2_compareGrowth 56 = .ok (.lload 5, 2) := by decide +kernel
theorem dX2_compareGrowth_58 : decode cX2_compareGrowth 58 = .ok (.lmul, 1) := by decide +kernel
theorem dX2_compareGrowth_59 : decode cX2_compareGrowth 59 = .ok (.lcmp, 1) := by decide +kernel
theorem dX2_compareGrowth_60 : decode cX2_compareGrowth 60 = .ok (.ifCond .le 5, 3) := by decide +kernel
theorem dX2_compareGrowth_63 : decode cX2_compareGrowth 63 = .ok (.iconst 1, 1) := by decide +kernel
theorem dX2_compareGrowth_64 : decode cX2_compareGrowth 64 = .ok (.ireturn, 1) := by decide +kernel
theorem dX2_compareGrowth_65 : decode cX2_compareGrowth 65 = .ok (.iload 4, 2) := by decide +kernel
theorem dX2_compareGrowth_67 : decode cX2_compareGrowth 67 = .ok (.ifCond .ne 26, 3) := by decide +kernel
theorem dX2_compareGrowth_70 : decode cX2_compareGrowth 70 = .ok (.aload_n 0, 1) := by decide +kernel
theorem dX2_compareGrowth_71 : decode cX2_compareGrowth 71 = .ok (.iload 9, 2) := by decide +kernel
theorem dX2_compareGrowth_73 : decode cX2_compareGrowth 73 = .ok (.invokevirtual 43, 3) := by decide +kernel
theorem dX2_compareGrowth_76 : decode cX2_compareGrowth 76 = .ok (.ifCond .eq 17, 3) := by decide +kernel
theorem dX2_compareGrowth_79 : decode cX2_compareGrowth 79 = .ok (.aload 10, 2) := by decide +kernel
theorem dX2_compareGrowth_81 : decode cX2_compareGrowth 81 = .ok (.getfield 141, 3) := by decide +kernel
theorem dX2_compareGrowth_84 : decode cX2_compareGrowth 84 = .ok (.lload 7, 2) := by decide +kernel
theorem dX2_compareGrowth_86 : decode cX2_compareGrowth 86 = .ok (.lmul, 1) := by decide +kernel
theorem dX2_compareGrowth_87 : decode cX2_compareGrowth 87 = .ok (.lload 5, 2) := by decide +kernel
theorem dX2_compareGrowth_89 : decode cX2_compareGrowth 89 = .ok (.lcmp, 1) := by decide +kernel
theorem dX2_compareGrowth_90 : decode cX2_compareGrowth 90 = .ok (.ifCond .ge 7, 3) := by decide +kernel
theorem dX2_compareGrowth_93 : decode cX2_compareGrowth 93 = .ok (.iconst 1, 1) := by decide +kernel
theorem dX2_compareGrowth_94 : decode cX2_compareGrowth 94 = .ok (.goto 4, 3) := by decide +kernel
theorem dX2_compareGrowth_97 : decode cX2_compareGrowth 97 = .ok (.iconst 0, 1) := by decide +kernel
theorem dX2_compareGrowth_98 : decode cX2_compareGrowth 98 = .ok (.istore 4, 2) := by decide +kernel
theorem dX2_compareGrowth_100 : decode cX2_compareGrowth 100 = .ok (.iinc 9 1, 3) := by decide +kernel
theorem dX2_compareGrowth_103 : decode cX2_compareGrowth 103 = .ok (.goto (-91), 3) := by decide +kernel
theorem dX2_compareGrowth_106 : decode cX2_compareGrowth 106 = .ok (.iload 4, 2) := by decide +kernel
theorem dX2_compareGrowth_108 : decode cX2_compareGrowth 108 = .ok (.ifCond .eq 7, 3) := by decide +kernel
theorem dX2_compareGrowth_111 : decode cX2_compareGrowth 111 = .ok (.iconst (-1), 1) := by decide +kernel
theorem dX2_compareGrowth_112 : decode cX2_compareGrowth 112 = .ok (.goto 4, 3) := by decide +kernel
theorem dX2_compareGrowth_115 : decode cX2_compareGrowth 115 = .ok (.iconst 0, 1) := by decide +kernel
theorem dX2_compareGrowth_116 : decode cX2_compareGrowth 116 = .ok (.ireturn, 1) := by decide +kernel

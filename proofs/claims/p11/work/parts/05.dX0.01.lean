theorem dX0_load_9 : decode cX0_load 9 = .ok (.iconst 0, 1) := by decide +kernel
theorem dX0_load_10 : decode cX0_load 10 = .ok (.bipush 9, 2) := by decide +kernel
theorem dX0_load_12 : decode cX0_load 12 = .ok (.invokestatic 103, 3) := by decide +kernel
theorem dX0_load_15 : decode cX0_load 15 = .ok (.return_, 1) := by decide +kernel
theorem dX0_multiplyNumbered_0 : decode cX0_multiplyNumbered 0 = .ok (.aload_n 0, 1) := by decide +kernel
theorem dX0_multiplyNumbered_1 : decode cX0_multiplyNumbered 1 = .ok (.iload_n 1, 1) := by decide +kernel
theorem dX0_multiplyNumbered_2 : decode cX0_multiplyNumbered 2 = .ok (.aload_n 0, 1) := by decide +kernel
theorem dX0_multiplyNumbered_3 : decode cX0_multiplyNumbered 3 = .ok (.getfield 9, 3) := by decide +kernel
theorem dX0_multiplyNumbered_6 : decode cX0_multiplyNumbered 6 = .ok (.invokevirtual 91, 3) := by decide +kernel
theorem dX0_multiplyNumbered_9 : decode cX0_multiplyNumbered 9 = .ok (.aload_n 0, 1) := by decide +kernel
theorem dX0_multiplyNumbered_10 : decode cX0_multiplyNumbered 10 = .ok (.iload_n 2, 1) := by decide +kernel
theorem dX0_multiplyNumbered_11 : decode cX0_multiplyNumbered 11 = .ok (.aload_n 0, 1) := by decide +kernel
theorem dX0_multiplyNumbered_12 : decode cX0_multiplyNumbered 12 = .ok (.getfield 15, 3) := by decide +kernel
theorem dX0_multiplyNumbered_15 : decode cX0_multiplyNumbered 15 = .ok (.invokevirtual 91, 3) := by decide +kernel
theorem dX0_multiplyNumbered_18 : decode cX0_multiplyNumbered 18 = .ok (.aload_n 0, 1) := by decide +kernel
theorem dX0_multiplyNumbered_19 : decode cX0_multiplyNumbered 19 = .ok (.getfield 25, 3) := by decide +kernel
theorem dX0_multiplyNumbered_22 : decode cX0_multiplyNumbered 22 = .ok (.aload_n 0, 1) := by decide +kernel
theorem dX0_multiplyNumbered_23 : decode cX0_multiplyNumbered 23 = .ok (.getfield 9, 3) := by decide +kernel
theorem dX0_multiplyNumbered_26 : decode cX0_multiplyNumbered 26 = .ok (.aload_n 0, 1) := by decide +kernel
theorem dX0_multiplyNumbered_27 : decode cX0_multiplyNumbered 27 = .ok (.getfield 15, 3) := by decide +kernel
theorem dX0_multiplyNumbered_30 : decode cX0_multiplyNumbered 30 = .ok (.aload_n 0, 1) := by decide +kernel
theorem dX0_multiplyNumbered_31 : decode cX0_multiplyNumbered 31 = .ok (.getfield 18, 3) := by decide +kernel
theorem dX0_multiplyNumbered_34 : decode cX0_multiplyNumbered 34 = .ok (.invokevirtual 95, 3) := by decide +kernel
theorem dX0_multiplyNumbered_37 : decode cX0_multiplyNumbered 37 = .ok (.return_, 1) := by decide +kernel
theorem dX0_sumUp_0 : decode cX0_sumUp 0 = .ok (.aload_n 0, 1) := by decide +kernel
theorem dX0_sumUp_1 : decode cX0_sumUp 1 = .ok (.iconst 0, 1) := by decide +kernel
theorem dX0_sumUp_2 : decode cX0_sumUp 2 = .ok (.putfield 125, 3) := by decide +kernel
theorem dX0_sumUp_5 : decode cX0_sumUp 5 = .ok (.aload_n 0, 1) := by decide +kernel
theorem dX0_sumUp_6 : decode cX0_sumUp 6 = .ok (.bipush (-9), 2) := by decide +kernel
theorem dX0_sumUp_8 : decode cX0_sumUp 8 = .ok (.putfield 129, 3) := by decide +kernel
theorem dX0_sumUp_11 : decode cX0_sumUp 11 = .ok (.aload_n 0, 1) := by decide +kernel
theorem dX0_sumUp_12 : decode cX0_sumUp 12 = .ok (.iconst 0, 1) := by decide +kernel
theorem dX0_sumUp_13 : decode cX0_sumUp 13 = .ok (.putfield 132, 3) := by decide +kernel
theorem dX0_sumUp_16 : decode cX0_sumUp 16 = .ok (.iconst 0, 1) := by decide +kernel
theorem dX0_sumUp_17 : decode cX0_sumUp 17 = .ok (.istore_n 1, 1) := by decide +kernel
theorem dX0_sumUp_18 : decode cX0_sumUp 18 = .ok (.iload_n 1, 1) := by decide +kernel
theorem dX0_sumUp_19 : decode cX0_sumUp 19 = .ok (.aload_n 0, 1) := by decide +kernel
theorem dX0_sumUp_20 : decode cX0_sumUp 20 = .ok (.getfield 33, 3) := by decide +kernel
theorem dX0_sumUp_23 : decode cX0_sumUp 23 = .ok (.if_icmp .ge 77, 3) := by decide +kernel
theorem dX0_sumUp_26 : decode cX0_sumUp 26 = .ok (.aload_n 0, 1) := by decide +kernel
theorem dX0_sumUp_27 : decode cX0_sumUp 27 = .ok (.iload_n 1, 1) := by decide +kernel
theorem dX0_sumUp_28 : decode cX0_sumUp 28 = .ok (.iload_n 1, 1) := by decide +kernel
theorem dX0_sumUp_29 : decode cX0_sumUp 29 = .ok (.invokevirtual 46, 3) := by decide +kernel
theorem dX0_sumUp_32 : decode cX0_sumUp 32 = .ok (.aload_n 0, 1) := by decide +kernel
theorem dX0_sumUp_33 : decode cX0_sumUp 33 = .ok (.iload_n 1, 1) := by decide +kernel
theorem dX0_sumUp_34 : decode cX0_sumUp 34 = .ok (.aload_n 0, 1) := by decide +kernel
theorem dX0_sumUp_35 : decode cX0_sumUp 35 = .ok (.getfield 18, 3) := by decide +kernel
theorem dX0_sumUp_38 : decode cX0_sumUp 38 = .ok (.invokevirtual 120, 3) := by decide +kernel
theorem dX0_sumUp_41 : decode cX0_sumUp 41 = .ok (.ifCond .eq 13, 3) := by decide +kernel
theorem dX0_sumUp_44 : decode cX0_sumUp 44 = .ok (.aload_n 0, 1) := by decide +kernel
theorem dX0_sumUp_45 : decode cX0_sumUp 45 = .ok (.dup, 1) := by decide +kernel
theorem dX0_sumUp_46 : decode cX0_sumUp 46 = .ok (.getfield 132, 3) := by decide +kernel
theorem dX0_sumUp_49 : decode cX0_sumUp 49 = .ok (.iconst 1, 1) := by decide +kernel
theorem dX0_sumUp_50 : decode cX0_sumUp 50 = .ok (.iadd, 1) := by decide +kernel
theorem dX0_sumUp_51 : decode cX0_sumUp 51 = .ok (.putfield 132, 3) := by decide +kernel
theorem dX0_sumUp_54 : decode cX0_sumUp 54 = .ok (.aload_n 0, 1) := by decide +kernel
theorem dX0_sumUp_55 : decode cX0_sumUp 55 = .ok (.getfield 25, 3) := by decide +kernel
theorem dX0_sumUp_58 : decode cX0_sumUp 58 = .ok (.aload_n 0, 1) := by decide +kernel
theorem dX0_sumUp_59 : decode cX0_sumUp 59 = .ok (.getfield 9, 3) := by decide +kernel
theorem dX0_sumUp_62 : decode cX0_sumUp 62 = .ok (.invokevirtual 135, 3) := by decide +kernel
theorem dX0_sumUp_65 : decode cX0_sumUp 65 = .ok (.ifCond .eq 8, 3) := by decide +kernel
theorem dX0_sumUp_68 : decode cX0_sumUp 68 = .ok (.aload_n 0, 1) := by decide +kernel
theorem dX0_sumUp_69 : decode cX0_sumUp 69 = .ok (.iload_n 1, 1) := by decide +kernel
theorem dX0_sumUp_70 : decode cX0_sumUp 70 = .ok (.putfield 129, 3) := by decide +kernel
theorem dX0_sumUp_73 : decode cX0_sumUp 73 = .ok (.aload_n 0, 1) := by decide +kernel
theorem dX0_sumUp_74 : decode cX0_sumUp 74 = .ok (.getfield 25, 3) := by decide +kernel
theorem dX0_sumUp_77 : decode cX0_sumUp 77 = .ok (.aload_n 0, 1) := by decide +kernel
theorem dX0_sumUp_78 : decode cX0_sumUp 78 = .ok (.getfield 9, 3) := by decide +kernel
theorem dX0_sumUp_81 : decode cX0_sumUp 81 = .ok (.invokevirtual 138, 3) := by decide +kernel
theorem dX0_sumUp_84 : decode cX0_sumUp 84 = .ok (.lconst 0, 1) := by decide +kernel
theorem dX0_sumUp_85 : decode cX0_sumUp 85 = .ok (.lcmp, 1) := by decide +kernel
theorem dX0_sumUp_86 : decode cX0_sumUp 86 = .ok (.ifCond .ne 8, 3) := by decide +kernel
theorem dX0_sumUp_89 : decode cX0_sumUp 89 = .ok (.aload_n 0, 1) := by decide +kernel
theorem dX0_sumUp_90 : decode cX0_sumUp 90 = .ok (.iconst 1, 1) := by decide +kernel
theorem dX0_sumUp_91 : decode cX0_sumUp 91 = .ok (.putfield 125, 3) := by decide +kernel
theorem dX0_sumUp_94 : decode cX0_sumUp 94 = .ok (.iinc 1 1, 3) := by decide +kernel
theorem dX0_sumUp_97 : decode cX0_sumUp 97 = .ok (.goto (-79), 3) := by decide +kernel
theorem dX0_sumUp_100 : decode cX0_sumUp 100 = .ok (.return_, 1) := by decide +kernel

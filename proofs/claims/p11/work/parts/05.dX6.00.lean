theorem dX6_init_0 : decode cX6_init 0 = .ok (.aload_n 0, 1) := by decide +kernel
theorem dX6_init_1 : decode cX6_init 1 = .ok (.invokespecial 3, 3) := by decide +kernel
theorem dX6_init_4 : decode cX6_init 4 = .ok (.aload_n 0, 1) := by decide +kernel
theorem dX6_init_5 : decode cX6_init 5 = .ok (.bipush 8, 2) := by decide +kernel
theorem dX6_init_7 : decode cX6_init 7 = .ok (.newarray .int, 2) := by decide +kernel
theorem dX6_init_9 : decode cX6_init 9 = .ok (.putfield 9, 3) := by decide +kernel
theorem dX6_init_12 : decode cX6_init 12 = .ok (.aload_n 0, 1) := by decide +kernel
theorem dX6_init_13 : decode cX6_init 13 = .ok (.bipush 8, 2) := by decide +kernel
theorem dX6_init_15 : decode cX6_init 15 = .ok (.newarray .int, 2) := by decide +kernel
theorem dX6_init_17 : decode cX6_init 17 = .ok (.putfield 15, 3) := by decide +kernel
theorem dX6_init_20 : decode cX6_init 20 = .ok (.aload_n 0, 1) := by decide +kernel
theorem dX6_init_21 : decode cX6_init 21 = .ok (.bipush 8, 2) := by decide +kernel
theorem dX6_init_23 : decode cX6_init 23 = .ok (.newarray .int, 2) := by decide +kernel
theorem dX6_init_25 : decode cX6_init 25 = .ok (.putfield 18, 3) := by decide +kernel
theorem dX6_init_28 : decode cX6_init 28 = .ok (.return_, 1) := by decide +kernel
theorem dX6_restart_0 : decode cX6_restart 0 = .ok (.aload_n 0, 1) := by decide +kernel
theorem dX6_restart_1 : decode cX6_restart 1 = .ok (.iconst 0, 1) := by decide +kernel
theorem dX6_restart_2 : decode cX6_restart 2 = .ok (.putfield 21, 3) := by decide +kernel
theorem dX6_restart_5 : decode cX6_restart 5 = .ok (.aload_n 0, 1) := by decide +kernel
theorem dX6_restart_6 : decode cX6_restart 6 = .ok (.iconst 0, 1) := by decide +kernel
theorem dX6_restart_7 : decode cX6_restart 7 = .ok (.putfield 25, 3) := by decide +kernel
theorem dX6_restart_10 : decode cX6_restart 10 = .ok (.aload_n 0, 1) := by decide +kernel
theorem dX6_restart_11 : decode cX6_restart 11 = .ok (.iconst 0, 1) := by decide +kernel
theorem dX6_restart_12 : decode cX6_restart 12 = .ok (.putfield 29, 3) := by decide +kernel
theorem dX6_restart_15 : decode cX6_restart 15 = .ok (.aload_n 0, 1) := by decide +kernel
theorem dX6_restart_16 : decode cX6_restart 16 = .ok (.ldc2_w 32, 3) := by decide +kernel
theorem dX6_restart_19 : decode cX6_restart 19 = .ok (.putfield 34, 3) := by decide +kernel
theorem dX6_restart_22 : decode cX6_restart 22 = .ok (.aload_n 0, 1) := by decide +kernel
theorem dX6_restart_23 : decode cX6_restart 23 = .ok (.ldc2_w 40, 3) := by decide +kernel
theorem dX6_restart_26 : decode cX6_restart 26 = .ok (.putfield 42, 3) := by decide +kernel
theorem dX6_restart_29 : decode cX6_restart 29 = .ok (.aload_n 0, 1) := by decide +kernel
theorem dX6_restart_30 : decode cX6_restart 30 = .ok (.lconst 0, 1) := by decide +kernel
theorem dX6_restart_31 : decode cX6_restart 31 = .ok (.putfield 45, 3) := by decide +kernel
theorem dX6_restart_34 : decode cX6_restart 34 = .ok (.aload_n 0, 1) := by decide +kernel
theorem dX6_restart_35 : decode cX6_restart 35 = .ok (.ldc2_w 32, 3) := by decide +kernel
theorem dX6_restart_38 : decode cX6_restart 38 = .ok (.putfield 48, 3) := by decide +kernel
theorem dX6_restart_41 : decode cX6_restart 41 = .ok (.return_, 1) := by decide +kernel
theorem dX6_noteNorm_0 : decode cX6_noteNorm 0 = .ok (.lload_n 3, 1) := by decide +kernel
theorem dX6_noteNorm_1 : decode cX6_noteNorm 1 = .ok (.lconst 0, 1) := by decide +kernel
theorem dX6_noteNorm_2 : decode cX6_noteNorm 2 = .ok (.lcmp, 1) := by decide +kernel
theorem dX6_noteNorm_3 : decode cX6_noteNorm 3 = .ok (.ifCond .ne 13, 3) := by decide +kernel
theorem dX6_noteNorm_6 : decode cX6_noteNorm 6 = .ok (.aload_n 0, 1) := by decide +kernel
theorem dX6_noteNorm_7 : decode cX6_noteNorm 7 = .ok (.dup, 1) := by decide +kernel
theorem dX6_noteNorm_8 : decode cX6_noteNorm 8 = .ok (.getfield 25, 3) := by decide +kernel
theorem dX6_noteNorm_11 : decode cX6_noteNorm 11 = .ok (.iconst 1, 1) := by decide +kernel
theorem dX6_noteNorm_12 : decode cX6_noteNorm 12 = .ok (.iadd, 1) := by decide +kernel
theorem dX6_noteNorm_13 : decode cX6_noteNorm 13 = .ok (.putfield 25, 3) := by decide +kernel
theorem dX6_noteNorm_16 : decode cX6_noteNorm 16 = .ok (.lload_n 3, 1) := by decide +kernel
theorem dX6_noteNorm_17 : decode cX6_noteNorm 17 = .ok (.aload_n 0, 1) := by decide +kernel
theorem dX6_noteNorm_18 : decode cX6_noteNorm 18 = .ok (.getfield 34, 3) := by decide +kernel
theorem dX6_noteNorm_21 : decode cX6_noteNorm 21 = .ok (.lcmp, 1) := by decide +kernel
theorem dX6_noteNorm_22 : decode cX6_noteNorm 22 = .ok (.ifCond .le 19, 3) := by decide +kernel
theorem dX6_noteNorm_25 : decode cX6_noteNorm 25 = .ok (.aload_n 0, 1) := by decide +kernel
theorem dX6_noteNorm_26 : decode cX6_noteNorm 26 = .ok (.lload_n 3, 1) := by decide +kernel
theorem dX6_noteNorm_27 : decode cX6_noteNorm 27 = .ok (.putfield 34, 3) := by decide +kernel
theorem dX6_noteNorm_30 : decode cX6_noteNorm 30 = .ok (.aload_n 1, 1) := by decide +kernel
theorem dX6_noteNorm_31 : decode cX6_noteNorm 31 = .ok (.iconst 0, 1) := by decide +kernel
theorem dX6_noteNorm_32 : decode cX6_noteNorm 32 = .ok (.aload_n 0, 1) := by decide +kernel
theorem dX6_noteNorm_33 : decode cX6_noteNorm 33 = .ok (.getfield 9, 3) := by decide +kernel
theorem dX6_noteNorm_36 : decode cX6_noteNorm 36 = .ok (.iconst 0, 1) := by decide +kernel
theorem dX6_noteNorm_37 : decode cX6_noteNorm 37 = .ok (.iload_n 2, 1) := by decide +kernel
theorem dX6_noteNorm_38 : decode cX6_noteNorm 38 = .ok (.invokestatic 51, 3) := by decide +kernel
theorem dX6_noteNorm_41 : decode cX6_noteNorm 41 = .ok (.lload_n 3, 1) := by decide +kernel
theorem dX6_noteNorm_42 : decode cX6_noteNorm 42 = .ok (.aload_n 0, 1) := by decide +kernel
theorem dX6_noteNorm_43 : decode cX6_noteNorm 43 = .ok (.getfield 42, 3) := by decide +kernel
theorem dX6_noteNorm_46 : decode cX6_noteNorm 46 = .ok (.lcmp, 1) := by decide +kernel
theorem dX6_noteNorm_47 : decode cX6_noteNorm 47 = .ok (.ifCond .ge 19, 3) := by decide +kernel
theorem dX6_noteNorm_50 : decode cX6_noteNorm 50 = .ok (.aload_n 0, 1) := by decide +kernel
theorem dX6_noteNorm_51 : decode cX6_noteNorm 51 = .ok (.lload_n 3, 1) := by decide +kernel
theorem dX6_noteNorm_52 : decode cX6_noteNorm 52 = .ok (.putfield 42, 3) := by decide +kernel
theorem dX6_noteNorm_55 : decode cX6_noteNorm 55 = .ok (.aload_n 1, 1) := by decide +kernel
theorem dX6_noteNorm_56 : decode cX6_noteNorm 56 = .ok (.iconst 0, 1) := by decide +kernel
theorem dX6_noteNorm_57 : decode cX6_noteNorm 57 = .ok (.aload_n 0, 1) := by decide +kernel
theorem dX6_noteNorm_58 : decode cX6_noteNorm 58 = .ok (.getfield 15, 3) := by decide +kernel
theorem dX6_noteNorm_61 : decode cX6_noteNorm 61 = .ok (.iconst 0, 1) := by decide +kernel
theorem dX6_noteNorm_62 : decode cX6_noteNorm 62 = .ok (.iload_n 2, 1) := by decide +kernel
theorem dX6_noteNorm_63 : decode cX6_noteNorm 63 = .ok (.invokestatic 51, 3) := by decide +kernel
theorem dX6_noteNorm_66 : decode cX6_noteNorm 66 = .ok (.return_, 1) := by decide +kernel
theorem dX6_noteTurnable_0 : decode cX6_noteTurnable 0 = .ok (.aload_n 0, 1) := by decide +kernel
theorem dX6_noteTurnable_1 : decode cX6_noteTurnable 1 = .ok (.aload_n 0, 1) := by decide +kernel
theorem dX6_noteTurnable_2 : decode cX6_noteTurnable 2 = .ok (.getfield 48, 3) := by decide +kernel
theorem dX6_noteTurnable_5 : decode cX6_noteTurnable 5 = .ok (.lload_n 1, 1) := by decide +kernel
theorem dX6_noteTurnable_6 : decode cX6_noteTurnable 6 = .ok (.invokestatic 57, 3) := by decide +kernel
theorem dX6_noteTurnable_9 : decode cX6_noteTurnable 9 = .ok (.invokestatic 63, 3) := by decide +kernel
theorem dX6_noteTurnable_12 : decode cX6_noteTurnable 12 = .ok (.putfield 48, 3) := by decide +kernel
theorem dX6_noteTurnable_15 : decode cX6_noteTurnable 15 = .ok (.return_, 1) := by decide +kernel
theorem dX6_noteRing_0 : decode cX6_noteRing 0 = .ok (.aload_n 0, 1) := by decide +kernel
theorem dX6_noteRing_1 : decode cX6_noteRing 1 = .ok (.dup, 1) := by decide +kernel
theorem dX6_noteRing_2 : decode cX6_noteRing 2 = .ok (.getfield 29, 3) := by decide +kernel
theorem dX6_noteRing_5 : decode cX6_noteRing 5 = .ok (.iconst 1, 1) := by decide +kernel
theorem dX6_noteRing_6 : decode cX6_noteRing 6 = .ok (.iadd, 1) := by decide +kernel
theorem dX6_noteRing_7 : decode cX6_noteRing 7 = .ok (.putfield 29, 3) := by decide +kernel
theorem dX6_noteRing_10 : decode cX6_noteRing 10 = .ok (.aload_n 0, 1) := by decide +kernel
theorem dX6_noteRing_11 : decode cX6_noteRing 11 = .ok (.getfield 29, 3) := by decide +kernel
theorem dX6_noteRing_14 : decode cX6_noteRing 14 = .ok (.iconst 1, 1) := by decide +kernel
theorem dX6_noteRing_15 : decode cX6_noteRing 15 = .ok (.if_icmp .eq 18, 3) := by decide +kernel
theorem dX6_noteRing_18 : decode cX6_noteRing 18 = .ok (.lload_n 3, 1) := by decide +kernel
theorem dX6_noteRing_19 : decode cX6_noteRing 19 = .ok (.invokestatic 57, 3) := by decide +kernel
theorem dX6_noteRing_22 : decode cX6_noteRing 22 = .ok (.aload_n 0, 1) := by decide +kernel
theorem dX6_noteRing_23 : decode cX6_noteRing 23 = .ok (.getfield 45, 3) := by decide +kernel
theorem dX6_noteRing_26 : decode cX6_noteRing 26 = .ok (.invokestatic 57, 3) := by decide +kernel
theorem dX6_noteRing_29 : decode cX6_noteRing 29 = .ok (.lcmp, 1) := by decide +kernel
theorem dX6_noteRing_30 : decode cX6_noteRing 30 = .ok (.ifCond .le 19, 3) := by decide +kernel
theorem dX6_noteRing_33 : decode cX6_noteRing 33 = .ok (.aload_n 0, 1) := by decide +kernel
theorem dX6_noteRing_34 : decode cX6_noteRing 34 = .ok (.lload_n 3, 1) := by decide +kernel
theorem dX6_noteRing_35 : decode cX6_noteRing 35 = .ok (.putfield 45, 3) := by decide +kernel
theorem dX6_noteRing_38 : decode cX6_noteRing 38 = .ok (.aload_n 1, 1) := by decide +kernel
theorem dX6_noteRing_39 : decode cX6_noteRing 39 = .ok (.iconst 0, 1) := by decide +kernel
theorem dX6_noteRing_40 : decode cX6_noteRing 40 = .ok (.aload_n 0, 1) := by decide +kernel
theorem dX6_noteRing_41 : decode cX6_noteRing 41 = .ok (.getfield 18, 3) := by decide +kernel
theorem dX6_noteRing_44 : decode cX6_noteRing 44 = .ok (.iconst 0, 1) := by decide +kernel
theorem dX6_noteRing_45 : decode cX6_noteRing 45 = .ok (.iload_n 2, 1) := by decide +kernel
theorem dX6_noteRing_46 : decode cX6_noteRing 46 = .ok (.invokestatic 51, 3) := by decide +kernel
theorem dX6_noteRing_49 : decode cX6_noteRing 49 = .ok (.return_, 1) := by decide +kernel

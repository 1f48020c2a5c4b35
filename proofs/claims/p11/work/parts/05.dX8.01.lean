theorem dX8_multiply_53 : decode cX8_multiply 53 = .ok (.aload_n 2, 1) := by decide +kernel
theorem dX8_multiply_54 : decode cX8_multiply 54 = .ok (.iload 8, 2) := by decide +kernel
theorem dX8_multiply_56 : decode cX8_multiply 56 = .ok (.aload_n 0, 1) := by decide +kernel
theorem dX8_multiply_57 : decode cX8_multiply 57 = .ok (.getfield 30, 3) := by decide +kernel
theorem dX8_multiply_60 : decode cX8_multiply 60 = .ok (.imul, 1) := by decide +kernel
theorem dX8_multiply_61 : decode cX8_multiply 61 = .ok (.iload 5, 2) := by decide +kernel
theorem dX8_multiply_63 : decode cX8_multiply 63 = .ok (.iadd, 1) := by decide +kernel
theorem dX8_multiply_64 : decode cX8_multiply 64 = .ok (.laload, 1) := by decide +kernel
theorem dX8_multiply_65 : decode cX8_multiply 65 = .ok (.lmul, 1) := by decide +kernel
theorem dX8_multiply_66 : decode cX8_multiply 66 = .ok (.ladd, 1) := by decide +kernel
theorem dX8_multiply_67 : decode cX8_multiply 67 = .ok (.lstore 6, 2) := by decide +kernel
theorem dX8_multiply_69 : decode cX8_multiply 69 = .ok (.iinc 8 1, 3) := by decide +kernel
theorem dX8_multiply_72 : decode cX8_multiply 72 = .ok (.goto (-42), 3) := by decide +kernel
theorem dX8_multiply_75 : decode cX8_multiply 75 = .ok (.aload_n 3, 1) := by decide +kernel
theorem dX8_multiply_76 : decode cX8_multiply 76 = .ok (.iload 4, 2) := by decide +kernel
theorem dX8_multiply_78 : decode cX8_multiply 78 = .ok (.aload_n 0, 1) := by decide +kernel
theorem dX8_multiply_79 : decode cX8_multiply 79 = .ok (.getfield 30, 3) := by decide +kernel
theorem dX8_multiply_82 : decode cX8_multiply 82 = .ok (.imul, 1) := by decide +kernel
theorem dX8_multiply_83 : decode cX8_multiply 83 = .ok (.iload 5, 2) := by decide +kernel
theorem dX8_multiply_85 : decode cX8_multiply 85 = .ok (.iadd, 1) := by decide +kernel
theorem dX8_multiply_86 : decode cX8_multiply 86 = .ok (.aload_n 0, 1) := by decide +kernel
theorem dX8_multiply_87 : decode cX8_multiply 87 = .ok (.lload 6, 2) := by decide +kernel
theorem dX8_multiply_89 : decode cX8_multiply 89 = .ok (.invokevirtual 49, 3) := by decide +kernel
theorem dX8_multiply_92 : decode cX8_multiply 92 = .ok (.lastore, 1) := by decide +kernel
theorem dX8_multiply_93 : decode cX8_multiply 93 = .ok (.iinc 5 1, 3) := by decide +kernel
theorem dX8_multiply_96 : decode cX8_multiply 96 = .ok (.goto (-81), 3) := by decide +kernel
theorem dX8_multiply_99 : decode cX8_multiply 99 = .ok (.iinc 4 1, 3) := by decide +kernel
theorem dX8_multiply_102 : decode cX8_multiply 102 = .ok (.goto (-99), 3) := by decide +kernel
theorem dX8_multiply_105 : decode cX8_multiply 105 = .ok (.return_, 1) := by decide +kernel
theorem dX8_multiplyAll_0 : decode cX8_multiplyAll 0 = .ok (.aload_n 0, 1) := by decide +kernel
theorem dX8_multiplyAll_1 : decode cX8_multiplyAll 1 = .ok (.getfield 19, 3) := by decide +kernel
theorem dX8_multiplyAll_4 : decode cX8_multiplyAll 4 = .ok (.aload_n 1, 1) := by decide +kernel
theorem dX8_multiplyAll_5 : decode cX8_multiplyAll 5 = .ok (.iconst 0, 1) := by decide +kernel
theorem dX8_multiplyAll_6 : decode cX8_multiplyAll 6 = .ok (.iaload, 1) := by decide +kernel
theorem dX8_multiplyAll_7 : decode cX8_multiplyAll 7 = .ok (.aaload, 1) := by decide +kernel
theorem dX8_multiplyAll_8 : decode cX8_multiplyAll 8 = .ok (.iconst 0, 1) := by decide +kernel
theorem dX8_multiplyAll_9 : decode cX8_multiplyAll 9 = .ok (.aload_n 3, 1) := by decide +kernel
theorem dX8_multiplyAll_10 : decode cX8_multiplyAll 10 = .ok (.iconst 0, 1) := by decide +kernel
theorem dX8_multiplyAll_11 : decode cX8_multiplyAll 11 = .ok (.bipush 9, 2) := by decide +kernel
theorem dX8_multiplyAll_13 : decode cX8_multiplyAll 13 = .ok (.invokestatic 77, 3) := by decide +kernel
theorem dX8_multiplyAll_16 : decode cX8_multiplyAll 16 = .ok (.iconst 1, 1) := by decide +kernel
theorem dX8_multiplyAll_17 : decode cX8_multiplyAll 17 = .ok (.istore 4, 2) := by decide +kernel
theorem dX8_multiplyAll_19 : decode cX8_multiplyAll 19 = .ok (.iload 4, 2) := by decide +kernel
theorem dX8_multiplyAll_21 : decode cX8_multiplyAll 21 = .ok (.iload_n 2, 1) := by decide +kernel
theorem dX8_multiplyAll_22 : decode cX8_multiplyAll 22 = .ok (.if_icmp .ge 39, 3) := by decide +kernel
theorem dX8_multiplyAll_25 : decode cX8_multiplyAll 25 = .ok (.aload_n 0, 1) := by decide +kernel
theorem dX8_multiplyAll_26 : decode cX8_multiplyAll 26 = .ok (.aload_n 3, 1) := by decide +kernel
theorem dX8_multiplyAll_27 : decode cX8_multiplyAll 27 = .ok (.aload_n 0, 1) := by decide +kernel
theorem dX8_multiplyAll_28 : decode cX8_multiplyAll 28 = .ok (.getfield 19, 3) := by decide +kernel
theorem dX8_multiplyAll_31 : decode cX8_multiplyAll 31 = .ok (.aload_n 1, 1) := by decide +kernel
theorem dX8_multiplyAll_32 : decode cX8_multiplyAll 32 = .ok (.iload 4, 2) := by decide +kernel
theorem dX8_multiplyAll_34 : decode cX8_multiplyAll 34 = .ok (.iaload, 1) := by decide +kernel
theorem dX8_multiplyAll_35 : decode cX8_multiplyAll 35 = .ok (.aaload, 1) := by decide +kernel
theorem dX8_multiplyAll_36 : decode cX8_multiplyAll 36 = .ok (.aload_n 0, 1) := by decide +kernel
theorem dX8_multiplyAll_37 : decode cX8_multiplyAll 37 = .ok (.getfield 26, 3) := by decide +kernel
theorem dX8_multiplyAll_40 : decode cX8_multiplyAll 40 = .ok (.invokevirtual 83, 3) := by decide +kernel
theorem dX8_multiplyAll_43 : decode cX8_multiplyAll 43 = .ok (.aload_n 0, 1) := by decide +kernel
theorem dX8_multiplyAll_44 : decode cX8_multiplyAll 44 = .ok (.getfield 26, 3) := by decide +kernel
theorem dX8_multiplyAll_47 : decode cX8_multiplyAll 47 = .ok (.iconst 0, 1) := by decide +kernel
theorem dX8_multiplyAll_48 : decode cX8_multiplyAll 48 = .ok (.aload_n 3, 1) := by decide +kernel
theorem dX8_multiplyAll_49 : decode cX8_multiplyAll 49 = .ok (.iconst 0, 1) := by decide +kernel
theorem dX8_multiplyAll_50 : decode cX8_multiplyAll 50 = .ok (.bipush 9, 2) := by decide +kernel
theorem dX8_multiplyAll_52 : decode cX8_multiplyAll 52 = .ok (.invokestatic 77, 3) := by decide +kernel
theorem dX8_multiplyAll_55 : decode cX8_multiplyAll 55 = .ok (.iinc 4 1, 3) := by decide +kernel
theorem dX8_multiplyAll_58 : decode cX8_multiplyAll 58 = .ok (.goto (-39), 3) := by decide +kernel
theorem dX8_multiplyAll_61 : decode cX8_multiplyAll 61 = .ok (.return_, 1) := by decide +kernel
theorem dX8_norm_0 : decode cX8_norm 0 = .ok (.lconst 0, 1) := by decide +kernel
theorem dX8_norm_1 : decode cX8_norm 1 = .ok (.lstore_n 2, 1) := by decide +kernel
theorem dX8_norm_2 : decode cX8_norm 2 = .ok (.iconst 0, 1) := by decide +kernel
theorem dX8_norm_3 : decode cX8_norm 3 = .ok (.istore 4, 2) := by decide +kernel
theorem dX8_norm_5 : decode cX8_norm 5 = .ok (.iload 4, 2) := by decide +kernel
theorem dX8_norm_7 : decode cX8_norm 7 = .ok (.aload_n 0, 1) := by decide +kernel
theorem dX8_norm_8 : decode cX8_norm 8 = .ok (.getfield 30, 3) := by decide +kernel
theorem dX8_norm_11 : decode cX8_norm 11 = .ok (.if_icmp .ge 57, 3) := by decide +kernel
theorem dX8_norm_14 : decode cX8_norm 14 = .ok (.lconst 0, 1) := by decide +kernel
theorem dX8_norm_15 : decode cX8_norm 15 = .ok (.lstore 5, 2) := by decide +kernel
theorem dX8_norm_17 : decode cX8_norm 17 = .ok (.iconst 0, 1) := by decide +kernel
theorem dX8_norm_18 : decode cX8_norm 18 = .ok (.istore 7, 2) := by decide +kernel
theorem dX8_norm_20 : decode cX8_norm 20 = .ok (.iload 7, 2) := by decide +kernel
theorem dX8_norm_22 : decode cX8_norm 22 = .ok (.aload_n 0, 1) := by decide +kernel
theorem dX8_norm_23 : decode cX8_norm 23 = .ok (.getfield 30, 3) := by decide +kernel
theorem dX8_norm_26 : decode cX8_norm 26 = .ok (.if_icmp .ge 29, 3) := by decide +kernel
theorem dX8_norm_29 : decode cX8_norm 29 = .ok (.lload 5, 2) := by decide +kernel
theorem dX8_norm_31 : decode cX8_norm 31 = .ok (.aload_n 1, 1) := by decide +kernel
theorem dX8_norm_32 : decode cX8_norm 32 = .ok (.iload 4, 2) := by decide +kernel
theorem dX8_norm_34 : decode cX8_norm 34 = .ok (.aload_n 0, 1) := by decide +kernel
theorem dX8_norm_35 : decode cX8_norm 35 = .ok (.getfield 30, 3) := by decide +kernel
theorem dX8_norm_38 : decode cX8_norm 38 = .ok (.imul, 1) := by decide +kernel
theorem dX8_norm_39 : decode cX8_norm 39 = .ok (.iload 7, 2) := by decide +kernel
theorem dX8_norm_41 : decode cX8_norm 41 = .ok (.iadd, 1) := by decide +kernel
theorem dX8_norm_42 : decode cX8_norm 42 = .ok (.laload, 1) := by decide +kernel
theorem dX8_norm_43 : decode cX8_norm 43 = .ok (.invokestatic 87, 3) := by decide +kernel
theorem dX8_norm_46 : decode cX8_norm 46 = .ok (.ladd, 1) := by decide +kernel
theorem dX8_norm_47 : decode cX8_norm 47 = .ok (.lstore 5, 2) := by decide +kernel
theorem dX8_norm_49 : decode cX8_norm 49 = .ok (.iinc 7 1, 3) := by decide +kernel
theorem dX8_norm_52 : decode cX8_norm 52 = .ok (.goto (-32), 3) := by decide +kernel
theorem dX8_norm_55 : decode cX8_norm 55 = .ok (.lload_n 2, 1) := by decide +kernel
theorem dX8_norm_56 : decode cX8_norm 56 = .ok (.lload 5, 2) := by decide +kernel
theorem dX8_norm_58 : decode cX8_norm 58 = .ok (.invokestatic 92, 3) := by decide +kernel
theorem dX8_norm_61 : decode cX8_norm 61 = .ok (.lstore_n 2, 1) := by decide +kernel
theorem dX8_norm_62 : decode cX8_norm 62 = .ok (.iinc 4 1, 3) := by decide +kernel
theorem dX8_norm_65 : decode cX8_norm 65 = .ok (.goto (-60), 3) := by decide +kernel
theorem dX8_norm_68 : decode cX8_norm 68 = .ok (.lload_n 2, 1) := by decide +kernel
theorem dX8_norm_69 : decode cX8_norm 69 = .ok (.lreturn, 1) := by decide +kernel
theorem dX8_track_0 : decode cX8_track 0 = .ok (.lconst 0, 1) := by decide +kernel
theorem dX8_track_1 : decode cX8_track 1 = .ok (.lstore_n 2, 1) := by decide +kernel
theorem dX8_track_2 : decode cX8_track 2 = .ok (.iconst 0, 1) := by decide +kernel
theorem dX8_track_3 : decode cX8_track 3 = .ok (.istore 4, 2) := by decide +kernel
theorem dX8_track_5 : decode cX8_track 5 = .ok (.iload 4, 2) := by decide +kernel
theorem dX8_track_7 : decode cX8_track 7 = .ok (.aload_n 0, 1) := by decide +kernel
theorem dX8_track_8 : decode cX8_track 8 = .ok (.getfield 30, 3) := by decide +kernel
theorem dX8_track_11 : decode cX8_track 11 = .ok (.if_icmp .ge 24, 3) := by decide +kernel
theorem dX8_track_14 : decode cX8_track 14 = .ok (.lload_n 2, 1) := by decide +kernel
theorem dX8_track_15 : decode cX8_track 15 = .ok (.aload_n 1, 1) := by decide +kernel
theorem dX8_track_16 : decode cX8_track 16 = .ok (.iload 4, 2) := by decide +kernel
theorem dX8_track_18 : decode cX8_track 18 = .ok (.aload_n 0, 1) := by decide +kernel
theorem dX8_track_19 : decode cX8_track 19 = .ok (.getfield 30, 3) := by decide +kernel
theorem dX8_track_22 : decode cX8_track 22 = .ok (.imul, 1) := by decide +kernel
theorem dX8_track_23 : decode cX8_track 23 = .ok (.iload 4, 2) := by decide +kernel
theorem dX8_track_25 : decode cX8_track 25 = .ok (.iadd, 1) := by decide +kernel
theorem dX8_track_26 : decode cX8_track 26 = .ok (.laload, 1) := by decide +kernel
theorem dX8_track_27 : decode cX8_track 27 = .ok (.ladd, 1) := by decide +kernel
theorem dX8_track_28 : decode cX8_track 28 = .ok (.lstore_n 2, 1) := by decide +kernel
theorem dX8_track_29 : decode cX8_track 29 = .ok (.iinc 4 1, 3) := by decide +kernel
theorem dX8_track_32 : decode cX8_track 32 = .ok (.goto (-27), 3) := by decide +kernel
theorem dX8_track_35 : decode cX8_track 35 = .ok (.lload_n 2, 1) := by decide +kernel
theorem dX8_track_36 : decode cX8_track 36 = .ok (.lreturn, 1) := by decide +kernel
theorem dX8_isUnit_0 : decode cX8_isUnit 0 = .ok (.iconst 0, 1) := by decide +kernel
theorem dX8_isUnit_1 : decode cX8_isUnit 1 = .ok (.istore_n 2, 1) := by decide +kernel
theorem dX8_isUnit_2 : decode cX8_isUnit 2 = .ok (.iload_n 2, 1) := by decide +kernel
theorem dX8_isUnit_3 : decode cX8_isUnit 3 = .ok (.aload_n 0, 1) := by decide +kernel
theorem dX8_isUnit_4 : decode cX8_isUnit 4 = .ok (.getfield 30, 3) := by decide +kernel
theorem dX8_isUnit_7 : decode cX8_isUnit 7 = .ok (.if_icmp .ge 52, 3) := by decide +kernel
theorem dX8_isUnit_10 : decode cX8_isUnit 10 = .ok (.iconst 0, 1) := by decide +kernel
theorem dX8_isUnit_11 : decode cX8_isUnit 11 = .ok (.istore_n 3, 1) := by decide +kernel
theorem dX8_isUnit_12 : decode cX8_isUnit 12 = .ok (.iload_n 3, 1) := by decide +kernel
theorem dX8_isUnit_13 : decode cX8_isUnit 13 = .ok (.aload_n 0, 1) := by decide +kernel
theorem dX8_isUnit_14 : decode cX8_isUnit 14 = .ok (.getfield 30, 3) := by decide +kernel
theorem dX8_isUnit_17 : decode cX8_isUnit 17 = .ok (.if_icmp .ge 36, 3) := by decide +kernel
theorem dX8_isUnit_20 : decode cX8_isUnit 20 = .ok (.aload_n 1, 1) := by decide +kernel
theorem dX8_isUnit_21 : decode cX8_isUnit 21 = .ok (.iload_n 2, 1) := by decide +kernel
theorem dX8_isUnit_22 : decode cX8_isUnit 22 = .ok (.aload_n 0, 1) := by decide +kernel
theorem dX8_isUnit_23 : decode cX8_isUnit 23 = .ok (.getfield 30, 3) := by decide +kernel
theorem dX8_isUnit_26 : decode cX8_isUnit 26 = .ok (.imul, 1) := by decide +kernel
theorem dX8_isUnit_27 : decode cX8_isUnit 27 = .ok (.iload_n 3, 1) := by decide +kernel
theorem dX8_isUnit_28 : decode cX8_isUnit 28 = .ok (.iadd, 1) := by decide +kernel
theorem dX8_isUnit_29 : decode cX8_isUnit 29 = .ok (.laload, 1) := by decide +kernel
theorem dX8_isUnit_30 : decode cX8_isUnit 30 = .ok (.iload_n 2, 1) := by decide +kernel
theorem dX8_isUnit_31 : decode cX8_isUnit 31 = .ok (.iload_n 3, 1) := by decide +kernel
theorem dX8_isUnit_32 : decode cX8_isUnit 32 = .ok (.if_icmp .ne 7, 3) := by decide +kernel
theorem dX8_isUnit_35 : decode cX8_isUnit 35 = .ok (.iconst 1, 1) := by decide +kernel
theorem dX8_isUnit_36 : decode cX8_isUnit 36 = .ok (.goto 4, 3) := by decide +kernel
theorem dX8_isUnit_39 : decode cX8_isUnit 39 = .ok (.iconst 0, 1) := by decide +kernel
theorem dX8_isUnit_40 : decode cX8_isUnit 40 = .ok (.i2l, 1) := by decide +kernel
theorem dX8_isUnit_41 : decode cX8_isUnit 41 = .ok (.lcmp, 1) := by decide +kernel
theorem dX8_isUnit_42 : decode cX8_isUnit 42 = .ok (.ifCond .eq 5, 3) := by decide +kernel
theorem dX8_isUnit_45 : decode cX8_isUnit 45 = .ok (.iconst 0, 1) := by decide +kernel
theorem dX8_isUnit_46 : decode cX8_isUnit 46 = .ok (.ireturn, 1) := by decide +kernel
theorem dX8_isUnit_47 : decode cX8_isUnit 47 = .ok (.iinc 3 1, 3) := by decide +kernel
theorem dX8_isUnit_50 : decode cX8_isUnit 50 = .ok (.goto (-38), 3) := by decide +kernel
theorem dX8_isUnit_53 : decode cX8_isUnit 53 = .ok (.iinc 2 1, 3) := by decide +kernel
theorem dX8_isUnit_56 : decode cX8_isUnit 56 = .ok (.goto (-54), 3) := by decide +kernel
theorem dX8_isUnit_59 : decode cX8_isUnit 59 = .ok (.iconst 1, 1) := by decide +kernel
theorem dX8_isUnit_60 : decode cX8_isUnit 60 = .ok (.ireturn, 1) := by decide +kernel

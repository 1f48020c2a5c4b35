theorem dX12_findRings_5 : decode cX12_findRings 5 = .ok (.aload_n 0, 1) := by decide +kernel
theorem dX12_findRings_6 : decode cX12_findRings 6 = .ok (.lconst 0, 1) := by decide +kernel
theorem dX12_findRings_7 : decode cX12_findRings 7 = .ok (.putfield 186, 3) := by decide +kernel
theorem dX12_findRings_10 : decode cX12_findRings 10 = .ok (.aload_n 0, 1) := by decide +kernel
theorem dX12_findRings_11 : decode cX12_findRings 11 = .ok (.invokevirtual 155, 3) := by decide +kernel
theorem dX12_findRings_14 : decode cX12_findRings 14 = .ok (.aload_n 0, 1) := by decide +kernel
theorem dX12_findRings_15 : decode cX12_findRings 15 = .ok (.iload_n 1, 1) := by decide +kernel
theorem dX12_findRings_16 : decode cX12_findRings 16 = .ok (.invokevirtual 158, 3) := by decide +kernel
theorem dX12_findRings_19 : decode cX12_findRings 19 = .ok (.ifCond .eq 112, 3) := by decide +kernel
theorem dX12_findRings_22 : decode cX12_findRings 22 = .ok (.iconst 0, 1) := by decide +kernel
theorem dX12_findRings_23 : decode cX12_findRings 23 = .ok (.istore_n 2, 1) := by decide +kernel
theorem dX12_findRings_24 : decode cX12_findRings 24 = .ok (.iload_n 2, 1) := by decide +kernel
theorem dX12_findRings_25 : decode cX12_findRings 25 = .ok (.iload_n 1, 1) := by decide +kernel
theorem dX12_findRings_26 : decode cX12_findRings 26 = .ok (.if_icmp .ge 21, 3) := by decide +kernel
theorem dX12_findRings_29 : decode cX12_findRings 29 = .ok (.aload_n 0, 1) := by decide +kernel
theorem dX12_findRings_30 : decode cX12_findRings 30 = .ok (.getfield 49, 3) := by decide +kernel
theorem dX12_findRings_33 : decode cX12_findRings 33 = .ok (.iload_n 2, 1) := by decide +kernel
theorem dX12_findRings_34 : decode cX12_findRings 34 = .ok (.aload_n 0, 1) := by decide +kernel
theorem dX12_findRings_35 : decode cX12_findRings 35 = .ok (.getfield 34, 3) := by decide +kernel
theorem dX12_findRings_38 : decode cX12_findRings 38 = .ok (.iload_n 2, 1) := by decide +kernel
theorem dX12_findRings_39 : decode cX12_findRings 39 = .ok (.iaload, 1) := by decide +kernel
theorem dX12_findRings_40 : decode cX12_findRings 40 = .ok (.iastore, 1) := by decide +kernel
theorem dX12_findRings_41 : decode cX12_findRings 41 = .ok (.iinc 2 1, 3) := by decide +kernel
theorem dX12_findRings_44 : decode cX12_findRings 44 = .ok (.goto (-20), 3) := by decide +kernel
theorem dX12_findRings_47 : decode cX12_findRings 47 = .ok (.aload_n 0, 1) := by decide +kernel
theorem dX12_findRings_48 : decode cX12_findRings 48 = .ok (.iload_n 1, 1) := by decide +kernel
theorem dX12_findRings_49 : decode cX12_findRings 49 = .ok (.invokevirtual 189, 3) := by decide +kernel
theorem dX12_findRings_52 : decode cX12_findRings 52 = .ok (.ifCond .ne 6, 3) := by decide +kernel
theorem dX12_findRings_55 : decode cX12_findRings 55 = .ok (.goto (-41), 3) := by decide +kernel
theorem dX12_findRings_58 : decode cX12_findRings 58 = .ok (.aload_n 0, 1) := by decide +kernel
theorem dX12_findRings_59 : decode cX12_findRings 59 = .ok (.getfield 183, 3) := by decide +kernel
theorem dX12_findRings_62 : decode cX12_findRings 62 = .ok (.ifCond .eq 22, 3) := by decide +kernel
theorem dX12_findRings_65 : decode cX12_findRings 65 = .ok (.aload_n 0, 1) := by decide +kernel
theorem dX12_findRings_66 : decode cX12_findRings 66 = .ok (.iload_n 1, 1) := by decide +kernel
theorem dX12_findRings_67 : decode cX12_findRings 67 = .ok (.invokevirtual 192, 3) := by decide +kernel
theorem dX12_findRings_70 : decode cX12_findRings 70 = .ok (.invokestatic 124, 3) := by decide +kernel
theorem dX12_findRings_73 : decode cX12_findRings 73 = .ok (.aload_n 0, 1) := by decide +kernel
theorem dX12_findRings_74 : decode cX12_findRings 74 = .ok (.getfield 186, 3) := by decide +kernel
theorem dX12_findRings_77 : decode cX12_findRings 77 = .ok (.invokestatic 124, 3) := by decide +kernel
theorem dX12_findRings_80 : decode cX12_findRings 80 = .ok (.lcmp, 1) := by decide +kernel
theorem dX12_findRings_81 : decode cX12_findRings 81 = .ok (.ifCond .le 37, 3) := by decide +kernel
theorem dX12_findRings_84 : decode cX12_findRings 84 = .ok (.aload_n 0, 1) := by decide +kernel
theorem dX12_findRings_85 : decode cX12_findRings 85 = .ok (.aload_n 0, 1) := by decide +kernel
theorem dX12_findRings_86 : decode cX12_findRings 86 = .ok (.iload_n 1, 1) := by decide +kernel
theorem dX12_findRings_87 : decode cX12_findRings 87 = .ok (.invokevirtual 192, 3) := by decide +kernel
theorem dX12_findRings_90 : decode cX12_findRings 90 = .ok (.putfield 186, 3) := by decide +kernel
theorem dX12_findRings_93 : decode cX12_findRings 93 = .ok (.iconst 0, 1) := by decide +kernel
theorem dX12_findRings_94 : decode cX12_findRings 94 = .ok (.istore_n 2, 1) := by decide +kernel
theorem dX12_findRings_95 : decode cX12_findRings 95 = .ok (.iload_n 2, 1) := by decide +kernel
theorem dX12_findRings_96 : decode cX12_findRings 96 = .ok (.iload_n 1, 1) := by decide +kernel
theorem dX12_findRings_97 : decode cX12_findRings 97 = .ok (.if_icmp .ge 21, 3) := by decide +kernel
theorem dX12_findRings_100 : decode cX12_findRings 100 = .ok (.aload_n 0, 1) := by decide +kernel
theorem dX12_findRings_101 : decode cX12_findRings 101 = .ok (.getfield 52, 3) := by decide +kernel
theorem dX12_findRings_104 : decode cX12_findRings 104 = .ok (.iload_n 2, 1) := by decide +kernel
theorem dX12_findRings_105 : decode cX12_findRings 105 = .ok (.aload_n 0, 1) := by decide +kernel
theorem dX12_findRings_106 : decode cX12_findRings 106 = .ok (.getfield 34, 3) := by decide +kernel
theorem dX12_findRings_109 : decode cX12_findRings 109 = .ok (.iload_n 2, 1) := by decide +kernel
theorem dX12_findRings_110 : decode cX12_findRings 110 = .ok (.iaload, 1) := by decide +kernel
theorem dX12_findRings_111 : decode cX12_findRings 111 = .ok (.iastore, 1) := by decide +kernel
theorem dX12_findRings_112 : decode cX12_findRings 112 = .ok (.iinc 2 1, 3) := by decide +kernel
theorem dX12_findRings_115 : decode cX12_findRings 115 = .ok (.goto (-20), 3) := by decide +kernel
theorem dX12_findRings_118 : decode cX12_findRings 118 = .ok (.aload_n 0, 1) := by decide +kernel
theorem dX12_findRings_119 : decode cX12_findRings 119 = .ok (.dup, 1) := by decide +kernel
theorem dX12_findRings_120 : decode cX12_findRings 120 = .ok (.getfield 183, 3) := by decide +kernel
theorem dX12_findRings_123 : decode cX12_findRings 123 = .ok (.iconst 1, 1) := by decide +kernel
theorem dX12_findRings_124 : decode cX12_findRings 124 = .ok (.iadd, 1) := by decide +kernel
theorem dX12_findRings_125 : decode cX12_findRings 125 = .ok (.putfield 183, 3) := by decide +kernel
theorem dX12_findRings_128 : decode cX12_findRings 128 = .ok (.goto (-114), 3) := by decide +kernel
theorem dX12_findRings_131 : decode cX12_findRings 131 = .ok (.return_, 1) := by decide +kernel
theorem dX12_rings_0 : decode cX12_rings 0 = .ok (.iload_n 1, 1) := by decide +kernel
theorem dX12_rings_1 : decode cX12_rings 1 = .ok (.i2l, 1) := by decide +kernel
theorem dX12_rings_2 : decode cX12_rings 2 = .ok (.lconst 1, 1) := by decide +kernel
theorem dX12_rings_3 : decode cX12_rings 3 = .ok (.ldc2_w 165, 3) := by decide +kernel
theorem dX12_rings_6 : decode cX12_rings 6 = .ok (.invokestatic 84, 3) := by decide +kernel
theorem dX12_rings_9 : decode cX12_rings 9 = .ok (.ifCond .ne 6, 3) := by decide +kernel
theorem dX12_rings_12 : decode cX12_rings 12 = .ok (.bipush (-2), 2) := by decide +kernel
theorem dX12_rings_14 : decode cX12_rings 14 = .ok (.ireturn, 1) := by decide +kernel
theorem dX12_rings_15 : decode cX12_rings 15 = .ok (.aload_n 0, 1) := by decide +kernel
theorem dX12_rings_16 : decode cX12_rings 16 = .ok (.iload_n 1, 1) := by decide +kernel
theorem dX12_rings_17 : decode cX12_rings 17 = .ok (.invokevirtual 167, 3) := by decide +kernel
theorem dX12_rings_20 : decode cX12_rings 20 = .ok (.ifCond .eq 6, 3) := by decide +kernel
theorem dX12_rings_23 : decode cX12_rings 23 = .ok (.bipush (-6), 2) := by decide +kernel
theorem dX12_rings_25 : decode cX12_rings 25 = .ok (.ireturn, 1) := by decide +kernel
theorem dX12_rings_26 : decode cX12_rings 26 = .ok (.aload_n 0, 1) := by decide +kernel
theorem dX12_rings_27 : decode cX12_rings 27 = .ok (.iload_n 1, 1) := by decide +kernel
theorem dX12_rings_28 : decode cX12_rings 28 = .ok (.invokevirtual 195, 3) := by decide +kernel
theorem dX12_rings_31 : decode cX12_rings 31 = .ok (.aload_n 0, 1) := by decide +kernel
theorem dX12_rings_32 : decode cX12_rings 32 = .ok (.getfield 183, 3) := by decide +kernel
theorem dX12_rings_35 : decode cX12_rings 35 = .ok (.ireturn, 1) := by decide +kernel
theorem dX12_ringTrack_0 : decode cX12_ringTrack 0 = .ok (.iload_n 1, 1) := by decide +kernel
theorem dX12_ringTrack_1 : decode cX12_ringTrack 1 = .ok (.i2l, 1) := by decide +kernel
theorem dX12_ringTrack_2 : decode cX12_ringTrack 2 = .ok (.lconst 1, 1) := by decide +kernel
theorem dX12_ringTrack_3 : decode cX12_ringTrack 3 = .ok (.ldc2_w 165, 3) := by decide +kernel
theorem dX12_ringTrack_6 : decode cX12_ringTrack 6 = .ok (.invokestatic 84, 3) := by decide +kernel
theorem dX12_ringTrack_9 : decode cX12_ringTrack 9 = .ok (.ifCond .eq 11, 3) := by decide +kernel
theorem dX12_ringTrack_12 : decode cX12_ringTrack 12 = .ok (.aload_n 0, 1) := by decide +kernel
theorem dX12_ringTrack_13 : decode cX12_ringTrack 13 = .ok (.iload_n 1, 1) := by decide +kernel
theorem dX12_ringTrack_14 : decode cX12_ringTrack 14 = .ok (.invokevirtual 167, 3) := by decide +kernel
theorem dX12_ringTrack_17 : decode cX12_ringTrack 17 = .ok (.ifCond .eq 7, 3) := by decide +kernel
theorem dX12_ringTrack_20 : decode cX12_ringTrack 20 = .ok (.ldc2_w 79, 3) := by decide +kernel
theorem dX12_ringTrack_23 : decode cX12_ringTrack 23 = .ok (.lreturn, 1) := by decide +kernel
theorem dX12_ringTrack_24 : decode cX12_ringTrack 24 = .ok (.aload_n 0, 1) := by decide +kernel
theorem dX12_ringTrack_25 : decode cX12_ringTrack 25 = .ok (.iload_n 1, 1) := by decide +kernel
theorem dX12_ringTrack_26 : decode cX12_ringTrack 26 = .ok (.invokevirtual 195, 3) := by decide +kernel
theorem dX12_ringTrack_29 : decode cX12_ringTrack 29 = .ok (.aload_n 0, 1) := by decide +kernel
theorem dX12_ringTrack_30 : decode cX12_ringTrack 30 = .ok (.getfield 183, 3) := by decide +kernel
theorem dX12_ringTrack_33 : decode cX12_ringTrack 33 = .ok (.ifCond .ne 9, 3) := by decide +kernel
theorem dX12_ringTrack_36 : decode cX12_ringTrack 36 = .ok (.ldc2_w 79, 3) := by decide +kernel
theorem dX12_ringTrack_39 : decode cX12_ringTrack 39 = .ok (.goto 7, 3) := by decide +kernel
theorem dX12_ringTrack_42 : decode cX12_ringTrack 42 = .ok (.aload_n 0, 1) := by decide +kernel
theorem dX12_ringTrack_43 : decode cX12_ringTrack 43 = .ok (.getfield 186, 3) := by decide +kernel
theorem dX12_ringTrack_46 : decode cX12_ringTrack 46 = .ok (.lreturn, 1) := by decide +kernel
theorem dX12_ring_0 : decode cX12_ring 0 = .ok (.iload_n 1, 1) := by decide +kernel
theorem dX12_ring_1 : decode cX12_ring 1 = .ok (.i2l, 1) := by decide +kernel
theorem dX12_ring_2 : decode cX12_ring 2 = .ok (.lconst 1, 1) := by decide +kernel
theorem dX12_ring_3 : decode cX12_ring 3 = .ok (.ldc2_w 165, 3) := by decide +kernel
theorem dX12_ring_6 : decode cX12_ring 6 = .ok (.invokestatic 84, 3) := by decide +kernel
theorem dX12_ring_9 : decode cX12_ring 9 = .ok (.ifCond .eq 16, 3) := by decide +kernel
theorem dX12_ring_12 : decode cX12_ring 12 = .ok (.iload_n 2, 1) := by decide +kernel
theorem dX12_ring_13 : decode cX12_ring 13 = .ok (.i2l, 1) := by decide +kernel
theorem dX12_ring_14 : decode cX12_ring 14 = .ok (.lconst 0, 1) := by decide +kernel
theorem dX12_ring_15 : decode cX12_ring 15 = .ok (.iload_n 1, 1) := by decide +kernel
theorem dX12_ring_16 : decode cX12_ring 16 = .ok (.i2l, 1) := by decide +kernel
theorem dX12_ring_17 : decode cX12_ring 17 = .ok (.lconst 1, 1) := by decide +kernel
theorem dX12_ring_18 : decode cX12_ring 18 = .ok (.lsub, 1) := by decide +kernel
theorem dX12_ring_19 : decode cX12_ring 19 = .ok (.invokestatic 84, 3) := by decide +kernel
theorem dX12_ring_22 : decode cX12_ring 22 = .ok (.ifCond .ne 6, 3) := by decide +kernel
theorem dX12_ring_25 : decode cX12_ring 25 = .ok (.bipush (-2), 2) := by decide +kernel
theorem dX12_ring_27 : decode cX12_ring 27 = .ok (.ireturn, 1) := by decide +kernel
theorem dX12_ring_28 : decode cX12_ring 28 = .ok (.aload_n 0, 1) := by decide +kernel
theorem dX12_ring_29 : decode cX12_ring 29 = .ok (.iload_n 1, 1) := by decide +kernel
theorem dX12_ring_30 : decode cX12_ring 30 = .ok (.invokevirtual 167, 3) := by decide +kernel
theorem dX12_ring_33 : decode cX12_ring 33 = .ok (.ifCond .eq 6, 3) := by decide +kernel
theorem dX12_ring_36 : decode cX12_ring 36 = .ok (.bipush (-6), 2) := by decide +kernel
theorem dX12_ring_38 : decode cX12_ring 38 = .ok (.ireturn, 1) := by decide +kernel
theorem dX12_ring_39 : decode cX12_ring 39 = .ok (.aload_n 0, 1) := by decide +kernel
theorem dX12_ring_40 : decode cX12_ring 40 = .ok (.iload_n 1, 1) := by decide +kernel
theorem dX12_ring_41 : decode cX12_ring 41 = .ok (.invokevirtual 195, 3) := by decide +kernel
theorem dX12_ring_44 : decode cX12_ring 44 = .ok (.aload_n 0, 1) := by decide +kernel
theorem dX12_ring_45 : decode cX12_ring 45 = .ok (.getfield 183, 3) := by decide +kernel
theorem dX12_ring_48 : decode cX12_ring 48 = .ok (.ifCond .ne 8, 3) := by decide +kernel
theorem dX12_ring_51 : decode cX12_ring 51 = .ok (.bipush (-9), 2) := by decide +kernel
theorem dX12_ring_53 : decode cX12_ring 53 = .ok (.goto 9, 3) := by decide +kernel
theorem dX12_ring_56 : decode cX12_ring 56 = .ok (.aload_n 0, 1) := by decide +kernel
theorem dX12_ring_57 : decode cX12_ring 57 = .ok (.getfield 52, 3) := by decide +kernel
theorem dX12_ring_60 : decode cX12_ring 60 = .ok (.iload_n 2, 1) := by decide +kernel
theorem dX12_ring_61 : decode cX12_ring 61 = .ok (.iaload, 1) := by decide +kernel
theorem dX12_ring_62 : decode cX12_ring 62 = .ok (.ireturn, 1) := by decide +kernel
theorem dX12_power_0 : decode cX12_power 0 = .ok (.lconst 1, 1) := by decide +kernel
theorem dX12_power_1 : decode cX12_power 1 = .ok (.lstore_n 3, 1) := by decide +kernel
theorem dX12_power_2 : decode cX12_power 2 = .ok (.iconst 0, 1) := by decide +kernel
theorem dX12_power_3 : decode cX12_power 3 = .ok (.istore 5, 2) := by decide +kernel
theorem dX12_power_5 : decode cX12_power 5 = .ok (.iload 5, 2) := by decide +kernel
theorem dX12_power_7 : decode cX12_power 7 = .ok (.iload_n 2, 1) := by decide +kernel
theorem dX12_power_8 : decode cX12_power 8 = .ok (.if_icmp .ge 13, 3) := by decide +kernel
theorem dX12_power_11 : decode cX12_power 11 = .ok (.lload_n 3, 1) := by decide +kernel
theorem dX12_power_12 : decode cX12_power 12 = .ok (.lload_n 0, 1) := by decide +kernel
theorem dX12_power_13 : decode cX12_power 13 = .ok (.lmul, 1) := by decide +kernel
theorem dX12_power_14 : decode cX12_power 14 = .ok (.lstore_n 3, 1) := by decide +kernel
theorem dX12_power_15 : decode cX12_power 15 = .ok (.iinc 5 1, 3) := by decide +kernel
theorem dX12_power_18 : decode cX12_power 18 = .ok (.goto (-13), 3) := by decide +kernel
theorem dX12_power_21 : decode cX12_power 21 = .ok (.lload_n 3, 1) := by decide +kernel
theorem dX12_power_22 : decode cX12_power 22 = .ok (.lreturn, 1) := by decide +kernel
theorem dX12_growth_0 : decode cX12_growth 0 = .ok (.iload_n 1, 1) := by decide +kernel
theorem dX12_growth_1 : decode cX12_growth 1 = .ok (.i2l, 1) := by decide +kernel
theorem dX12_growth_2 : decode cX12_growth 2 = .ok (.lconst 1, 1) := by decide +kernel
theorem dX12_growth_3 : decode cX12_growth 3 = .ok (.ldc2_w 110, 3) := by decide +kernel
theorem dX12_growth_6 : decode cX12_growth 6 = .ok (.invokestatic 84, 3) := by decide +kernel
theorem dX12_growth_9 : decode cX12_growth 9 = .ok (.ifCond .eq 27, 3) := by decide +kernel
theorem dX12_growth_12 : decode cX12_growth 12 = .ok (.iload_n 2, 1) := by decide +kernel
theorem dX12_growth_13 : decode cX12_growth 13 = .ok (.i2l, 1) := by decide +kernel
theorem dX12_growth_14 : decode cX12_growth 14 = .ok (.lconst 1, 1) := by decide +kernel
theorem dX12_growth_15 : decode cX12_growth 15 = .ok (.ldc2_w 110, 3) := by decide +kernel
theorem dX12_growth_18 : decode cX12_growth 18 = .ok (.invokestatic 84, 3) := by decide +kernel
theorem dX12_growth_21 : decode cX12_growth 21 = .ok (.ifCond .eq 15, 3) := by decide +kernel
theorem dX12_growth_24 : decode cX12_growth 24 = .ok (.iload_n 3, 1) := by decide +kernel
theorem dX12_growth_25 : decode cX12_growth 25 = .ok (.i2l, 1) := by decide +kernel
theorem dX12_growth_26 : decode cX12_growth 26 = .ok (.lconst 1, 1) := by decide +kernel
theorem dX12_growth_27 : decode cX12_growth 27 = .ok (.ldc2_w 198, 3) := by decide +kernel
theorem dX12_growth_30 : decode cX12_growth 30 = .ok (.invokestatic 84, 3) := by decide +kernel
theorem dX12_growth_33 : decode cX12_growth 33 = .ok (.ifCond .ne 6, 3) := by decide +kernel
theorem dX12_growth_36 : decode cX12_growth 36 = .ok (.bipush (-2), 2) := by decide +kernel
theorem dX12_growth_38 : decode cX12_growth 38 = .ok (.ireturn, 1) := by decide +kernel
theorem dX12_growth_39 : decode cX12_growth 39 = .ok (.aload_n 0, 1) := by decide +kernel
theorem dX12_growth_40 : decode cX12_growth 40 = .ok (.getfield 94, 3) := by decide +kernel
theorem dX12_growth_43 : decode cX12_growth 43 = .ok (.ifCond .gt 10, 3) := by decide +kernel
theorem dX12_growth_46 : decode cX12_growth 46 = .ok (.aload_n 0, 1) := by decide +kernel
theorem dX12_growth_47 : decode cX12_growth 47 = .ok (.getfield 81, 3) := by decide +kernel
theorem dX12_growth_50 : decode cX12_growth 50 = .ok (.ifCond .ne 6, 3) := by decide +kernel
theorem dX12_growth_53 : decode cX12_growth 53 = .ok (.bipush (-3), 2) := by decide +kernel
theorem dX12_growth_55 : decode cX12_growth 55 = .ok (.ireturn, 1) := by decide +kernel
theorem dX12_growth_56 : decode cX12_growth 56 = .ok (.iconst 1, 1) := by decide +kernel
theorem dX12_growth_57 : decode cX12_growth 57 = .ok (.istore 4, 2) := by decide +kernel
theorem dX12_growth_59 : decode cX12_growth 59 = .ok (.iload 4, 2) := by decide +kernel
theorem dX12_growth_61 : decode cX12_growth 61 = .ok (.iload_n 3, 1) := by decide +kernel
theorem dX12_growth_62 : decode cX12_growth 62 = .ok (.if_icmp .gt 21, 3) := by decide +kernel
theorem dX12_growth_65 : decode cX12_growth 65 = .ok (.aload_n 0, 1) := by decide +kernel
theorem dX12_growth_66 : decode cX12_growth 66 = .ok (.iload 4, 2) := by decide +kernel
theorem dX12_growth_68 : decode cX12_growth 68 = .ok (.invokevirtual 167, 3) := by decide +kernel
theorem dX12_growth_71 : decode cX12_growth 71 = .ok (.ifCond .eq 6, 3) := by decide +kernel
theorem dX12_growth_74 : decode cX12_growth 74 = .ok (.bipush (-6), 2) := by decide +kernel
theorem dX12_growth_76 : decode cX12_growth 76 = .ok (.ireturn, 1) := by decide +kernel
theorem dX12_growth_77 : decode cX12_growth 77 = .ok (.iinc 4 1, 3) := by decide +kernel
theorem dX12_growth_80 : decode cX12_growth 80 = .ok (.goto (-21), 3) := by decide +kernel
theorem dX12_growth_83 : decode cX12_growth 83 = .ok (.iconst 0, 1) := by decide +kernel
theorem dX12_growth_84 : decode cX12_growth 84 = .ok (.istore 4, 2) := by decide +kernel
theorem dX12_growth_86 : decode cX12_growth 86 = .ok (.iconst 1, 1) := by decide +kernel
theorem dX12_growth_87 : decode cX12_growth 87 = .ok (.istore 5, 2) := by decide +kernel
theorem dX12_growth_89 : decode cX12_growth 89 = .ok (.iload 5, 2) := by decide +kernel
theorem dX12_growth_91 : decode cX12_growth 91 = .ok (.iload_n 3, 1) := by decide +kernel
theorem dX12_growth_92 : decode cX12_growth 92 = .ok (.if_icmp .gt 128, 3) := by decide +kernel
theorem dX12_growth_95 : decode cX12_growth 95 = .ok (.iconst 1, 1) := by decide +kernel
theorem dX12_growth_96 : decode cX12_growth 96 = .ok (.istore 6, 2) := by decide +kernel
theorem dX12_growth_98 : decode cX12_growth 98 = .ok (.aload_n 0, 1) := by decide +kernel
theorem dX12_growth_99 : decode cX12_growth 99 = .ok (.invokevirtual 155, 3) := by decide +kernel
theorem dX12_growth_102 : decode cX12_growth 102 = .ok (.aload_n 0, 1) := by decide +kernel
theorem dX12_growth_103 : decode cX12_growth 103 = .ok (.iload 5, 2) := by decide +kernel
theorem dX12_growth_105 : decode cX12_growth 105 = .ok (.invokevirtual 158, 3) := by decide +kernel
theorem dX12_growth_108 : decode cX12_growth 108 = .ok (.ifCond .eq 99, 3) := by decide +kernel
theorem dX12_growth_111 : decode cX12_growth 111 = .ok (.aload_n 0, 1) := by decide +kernel
theorem dX12_growth_112 : decode cX12_growth 112 = .ok (.aload_n 0, 1) := by decide +kernel
theorem dX12_growth_113 : decode cX12_growth 113 = .ok (.getfield 34, 3) := by decide +kernel
theorem dX12_growth_116 : decode cX12_growth 116 = .ok (.iload 5, 2) := by decide +kernel
theorem dX12_growth_118 : decode cX12_growth 118 = .ok (.iconst 1, 1) := by decide +kernel
theorem dX12_growth_119 : decode cX12_growth 119 = .ok (.isub, 1) := by decide +kernel
theorem dX12_growth_120 : decode cX12_growth 120 = .ok (.iaload, 1) := by decide +kernel
theorem dX12_growth_121 : decode cX12_growth 121 = .ok (.aload_n 0, 1) := by decide +kernel
theorem dX12_growth_122 : decode cX12_growth 122 = .ok (.getfield 34, 3) := by decide +kernel
theorem dX12_growth_125 : decode cX12_growth 125 = .ok (.iconst 0, 1) := by decide +kernel
theorem dX12_growth_126 : decode cX12_growth 126 = .ok (.iaload, 1) := by decide +kernel
theorem dX12_growth_127 : decode cX12_growth 127 = .ok (.invokevirtual 127, 3) := by decide +kernel
theorem dX12_growth_130 : decode cX12_growth 130 = .ok (.ifCond .eq 39, 3) := by decide +kernel
theorem dX12_growth_133 : decode cX12_growth 133 = .ok (.aload_n 0, 1) := by decide +kernel
theorem dX12_growth_134 : decode cX12_growth 134 = .ok (.iload 5, 2) := by decide +kernel
theorem dX12_growth_136 : decode cX12_growth 136 = .ok (.invokevirtual 192, 3) := by decide +kernel
theorem dX12_growth_139 : decode cX12_growth 139 = .ok (.invokestatic 124, 3) := by decide +kernel
theorem dX12_growth_142 : decode cX12_growth 142 = .ok (.iload_n 2, 1) := by decide +kernel
theorem dX12_growth_143 : decode cX12_growth 143 = .ok (.i2l, 1) := by decide +kernel
theorem dX12_growth_144 : decode cX12_growth 144 = .ok (.iload 5, 2) := by decide +kernel
theorem dX12_growth_146 : decode cX12_growth 146 = .ok (.invokestatic 200, 3) := by decide +kernel
theorem dX12_growth_149 : decode cX12_growth 149 = .ok (.lmul, 1) := by decide +kernel
theorem dX12_growth_150 : decode cX12_growth 150 = .ok (.aload_n 0, 1) := by decide +kernel
theorem dX12_growth_151 : decode cX12_growth 151 = .ok (.getfield 7, 3) := by decide +kernel
theorem dX12_growth_154 : decode cX12_growth 154 = .ok (.i2l, 1) := by decide +kernel
theorem dX12_growth_155 : decode cX12_growth 155 = .ok (.iload_n 1, 1) := by decide +kernel
theorem dX12_growth_156 : decode cX12_growth 156 = .ok (.i2l, 1) := by decide +kernel
theorem dX12_growth_157 : decode cX12_growth 157 = .ok (.iload 5, 2) := by decide +kernel
theorem dX12_growth_159 : decode cX12_growth 159 = .ok (.invokestatic 200, 3) := by decide +kernel
theorem dX12_growth_162 : decode cX12_growth 162 = .ok (.lmul, 1) := by decide +kernel
theorem dX12_growth_163 : decode cX12_growth 163 = .ok (.lcmp, 1) := by decide +kernel
theorem dX12_growth_164 : decode cX12_growth 164 = .ok (.ifCond .le 5, 3) := by decide +kernel
theorem dX12_growth_167 : decode cX12_growth 167 = .ok (.iconst 1, 1) := by decide +kernel
theorem dX12_growth_168 : decode cX12_growth 168 = .ok (.ireturn, 1) := by decide +kernel
theorem dX12_growth_169 : decode cX12_growth 169 = .ok (.iload 6, 2) := by decide +kernel
theorem dX12_growth_171 : decode cX12_growth 171 = .ok (.aload_n 0, 1) := by decide +kernel
theorem dX12_growth_172 : decode cX12_growth 172 = .ok (.iload 5, 2) := by decide +kernel
theorem dX12_growth_174 : decode cX12_growth 174 = .ok (.invokevirtual 161, 3) := by decide +kernel
theorem dX12_growth_177 : decode cX12_growth 177 = .ok (.iload_n 2, 1) := by decide +kernel
theorem dX12_growth_178 : decode cX12_growth 178 = .ok (.i2l, 1) := by decide +kernel
theorem dX12_growth_179 : decode cX12_growth 179 = .ok (.iload 5, 2) := by decide +kernel
theorem dX12_growth_181 : decode cX12_growth 181 = .ok (.invokestatic 200, 3) := by decide +kernel
theorem dX12_growth_184 : decode cX12_growth 184 = .ok (.lmul, 1) := by decide +kernel
theorem dX12_growth_185 : decode cX12_growth 185 = .ok (.iload_n 1, 1) := by decide +kernel
theorem dX12_growth_186 : decode cX12_growth 186 = .ok (.i2l, 1) := by decide +kernel
theorem dX12_growth_187 : decode cX12_growth 187 = .ok (.iload 5, 2) := by decide +kernel
theorem dX12_growth_189 : decode cX12_growth 189 = .ok (.invokestatic 200, 3) := by decide +kernel
theorem dX12_growth_192 : decode cX12_growth 192 = .ok (.lcmp, 1) := by decide +kernel
theorem dX12_growth_193 : decode cX12_growth 193 = .ok (.ifCond .ge 7, 3) := by decide +kernel
theorem dX12_growth_196 : decode cX12_growth 196 = .ok (.iconst 1, 1) := by decide +kernel
theorem dX12_growth_197 : decode cX12_growth 197 = .ok (.goto 4, 3) := by decide +kernel
theorem dX12_growth_200 : decode cX12_growth 200 = .ok (.iconst 0, 1) := by decide +kernel
theorem dX12_growth_201 : decode cX12_growth 201 = .ok (.iand, 1) := by decide +kernel
theorem dX12_growth_202 : decode cX12_growth 202 = .ok (.istore 6, 2) := by decide +kernel
theorem dX12_growth_204 : decode cX12_growth 204 = .ok (.goto (-102), 3) := by decide +kernel
theorem dX12_growth_207 : decode cX12_growth 207 = .ok (.iload 4, 2) := by decide +kernel
theorem dX12_growth_209 : decode cX12_growth 209 = .ok (.iload 6, 2) := by decide +kernel
theorem dX12_growth_211 : decode cX12_growth 211 = .ok (.ior, 1) := by decide +kernel
theorem dX12_growth_212 : decode cX12_growth 212 = .ok (.istore 4, 2) := by decide +kernel
theorem dX12_growth_214 : decode cX12_growth 214 = .ok (.iinc 5 1, 3) := by decide +kernel
theorem dX12_growth_217 : decode cX12_growth 217 = .ok (.goto (-128), 3) := by decide +kernel
theorem dX12_growth_220 : decode cX12_growth 220 = .ok (.iload 4, 2) := by decide +kernel
theorem dX12_growth_222 : decode cX12_growth 222 = .ok (.ifCond .eq 7, 3) := by decide +kernel
theorem dX12_growth_225 : decode cX12_growth 225 = .ok (.iconst (-1), 1) := by decide +kernel
theorem dX12_growth_226 : decode cX12_growth 226 = .ok (.goto 4, 3) := by decide +kernel
theorem dX12_growth_229 : decode cX12_growth 229 = .ok (.iconst 0, 1) := by decide +kernel
theorem dX12_growth_230 : decode cX12_growth 230 = .ok (.ireturn, 1) := by decide +kernel
theorem dX12_chainOf_0 : decode cX12_chainOf 0 = .ok (.lconst 0, 1) := by decide +kernel
theorem dX12_chainOf_1 : decode cX12_chainOf 1 = .ok (.lstore_n 2, 1) := by decide +kernel
theorem dX12_chainOf_2 : decode cX12_chainOf 2 = .ok (.iconst 0, 1) := by decide +kernel
theorem dX12_chainOf_3 : decode cX12_chainOf 3 = .ok (.istore 4, 2) := by decide +kernel
theorem dX12_chainOf_5 : decode cX12_chainOf 5 = .ok (.iload 4, 2) := by decide +kernel
theorem dX12_chainOf_7 : decode cX12_chainOf 7 = .ok (.aload_n 0, 1) := by decide +kernel
theorem dX12_chainOf_8 : decode cX12_chainOf 8 = .ok (.getfield 7, 3) := by decide +kernel
theorem dX12_chainOf_11 : decode cX12_chainOf 11 = .ok (.aload_n 0, 1) := by decide +kernel
theorem dX12_chainOf_12 : decode cX12_chainOf 12 = .ok (.getfield 7, 3) := by decide +kernel
theorem dX12_chainOf_15 : decode cX12_chainOf 15 = .ok (.imul, 1) := by decide +kernel
theorem dX12_chainOf_16 : decode cX12_chainOf 16 = .ok (.if_icmp .ge 28, 3) := by decide +kernel
theorem dX12_chainOf_19 : decode cX12_chainOf 19 = .ok (.lload_n 2, 1) := by decide +kernel
theorem dX12_chainOf_20 : decode cX12_chainOf 20 = .ok (.ldc2_w 204, 3) := by decide +kernel
theorem dX12_chainOf_23 : decode cX12_chainOf 23 = .ok (.lmul, 1) := by decide +kernel
theorem dX12_chainOf_24 : decode cX12_chainOf 24 = .ok (.aload_n 0, 1) := by decide +kernel
theorem dX12_chainOf_25 : decode cX12_chainOf 25 = .ok (.getfield 30, 3) := by decide +kernel
theorem dX12_chainOf_28 : decode cX12_chainOf 28 = .ok (.bipush 9, 2) := by decide +kernel
theorem dX12_chainOf_30 : decode cX12_chainOf 30 = .ok (.iload_n 1, 1) := by decide +kernel
theorem dX12_chainOf_31 : decode cX12_chainOf 31 = .ok (.imul, 1) := by decide +kernel
theorem dX12_chainOf_32 : decode cX12_chainOf 32 = .ok (.iload 4, 2) := by decide +kernel
theorem dX12_chainOf_34 : decode cX12_chainOf 34 = .ok (.iadd, 1) := by decide +kernel
theorem dX12_chainOf_35 : decode cX12_chainOf 35 = .ok (.laload, 1) := by decide +kernel
theorem dX12_chainOf_36 : decode cX12_chainOf 36 = .ok (.ladd, 1) := by decide +kernel
theorem dX12_chainOf_37 : decode cX12_chainOf 37 = .ok (.lstore_n 2, 1) := by decide +kernel
theorem dX12_chainOf_38 : decode cX12_chainOf 38 = .ok (.iinc 4 1, 3) := by decide +kernel
theorem dX12_chainOf_41 : decode cX12_chainOf 41 = .ok (.goto (-36), 3) := by decide +kernel
theorem dX12_chainOf_44 : decode cX12_chainOf 44 = .ok (.lload_n 2, 1) := by decide +kernel
theorem dX12_chainOf_45 : decode cX12_chainOf 45 = .ok (.lload_n 2, 1) := by decide +kernel
theorem dX12_chainOf_46 : decode cX12_chainOf 46 = .ok (.bipush 21, 2) := by decide +kernel
theorem dX12_chainOf_48 : decode cX12_chainOf 48 = .ok (.lshr, 1) := by decide +kernel
theorem dX12_chainOf_49 : decode cX12_chainOf 49 = .ok (.lxor, 1) := by decide +kernel
theorem dX12_chainOf_50 : decode cX12_chainOf 50 = .ok (.ldc2_w 206, 3) := by decide +kernel
theorem dX12_chainOf_53 : decode cX12_chainOf 53 = .ok (.land, 1) := by decide +kernel
theorem dX12_chainOf_54 : decode cX12_chainOf 54 = .ok (.l2i, 1) := by decide +kernel
theorem dX12_chainOf_55 : decode cX12_chainOf 55 = .ok (.ireturn, 1) := by decide +kernel
theorem dX12_findAt_0 : decode cX12_findAt 0 = .ok (.aload_n 0, 1) := by decide +kernel
theorem dX12_findAt_1 : decode cX12_findAt 1 = .ok (.getfield 64, 3) := by decide +kernel
theorem dX12_findAt_4 : decode cX12_findAt 4 = .ok (.aload_n 0, 1) := by decide +kernel
theorem dX12_findAt_5 : decode cX12_findAt 5 = .ok (.iload_n 1, 1) := by decide +kernel
theorem dX12_findAt_6 : decode cX12_findAt 6 = .ok (.invokevirtual 208, 3) := by decide +kernel
theorem dX12_findAt_9 : decode cX12_findAt 9 = .ok (.iaload, 1) := by decide +kernel
theorem dX12_findAt_10 : decode cX12_findAt 10 = .ok (.istore_n 2, 1) := by decide +kernel
theorem dX12_findAt_11 : decode cX12_findAt 11 = .ok (.iload_n 2, 1) := by decide +kernel
theorem dX12_findAt_12 : decode cX12_findAt 12 = .ok (.bipush (-9), 2) := by decide +kernel
theorem dX12_findAt_14 : decode cX12_findAt 14 = .ok (.if_icmp .eq 75, 3) := by decide +kernel
theorem dX12_findAt_17 : decode cX12_findAt 17 = .ok (.iconst 0, 1) := by decide +kernel
theorem dX12_findAt_18 : decode cX12_findAt 18 = .ok (.istore_n 3, 1) := by decide +kernel
theorem dX12_findAt_19 : decode cX12_findAt 19 = .ok (.iload_n 3, 1) := by decide +kernel
theorem dX12_findAt_20 : decode cX12_findAt 20 = .ok (.aload_n 0, 1) := by decide +kernel
theorem dX12_findAt_21 : decode cX12_findAt 21 = .ok (.getfield 7, 3) := by decide +kernel
theorem dX12_findAt_24 : decode cX12_findAt 24 = .ok (.aload_n 0, 1) := by decide +kernel
theorem dX12_findAt_25 : decode cX12_findAt 25 = .ok (.getfield 7, 3) := by decide +kernel
theorem dX12_findAt_28 : decode cX12_findAt 28 = .ok (.imul, 1) := by decide +kernel
theorem dX12_findAt_29 : decode cX12_findAt 29 = .ok (.if_icmp .ge 35, 3) := by decide +kernel
theorem dX12_findAt_32 : decode cX12_findAt 32 = .ok (.aload_n 0, 1) := by decide +kernel
theorem dX12_findAt_33 : decode cX12_findAt 33 = .ok (.getfield 58, 3) := by decide +kernel
theorem dX12_findAt_36 : decode cX12_findAt 36 = .ok (.bipush 9, 2) := by decide +kernel
theorem dX12_findAt_38 : decode cX12_findAt 38 = .ok (.iload_n 2, 1) := by decide +kernel
theorem dX12_findAt_39 : decode cX12_findAt 39 = .ok (.imul, 1) := by decide +kernel
theorem dX12_findAt_40 : decode cX12_findAt 40 = .ok (.iload_n 3, 1) := by decide +kernel
theorem dX12_findAt_41 : decode cX12_findAt 41 = .ok (.iadd, 1) := by decide +kernel
theorem dX12_findAt_42 : decode cX12_findAt 42 = .ok (.laload, 1) := by decide +kernel
theorem dX12_findAt_43 : decode cX12_findAt 43 = .ok (.aload_n 0, 1) := by decide +kernel
theorem dX12_findAt_44 : decode cX12_findAt 44 = .ok (.getfield 30, 3) := by decide +kernel
theorem dX12_findAt_47 : decode cX12_findAt 47 = .ok (.bipush 9, 2) := by decide +kernel
theorem dX12_findAt_49 : decode cX12_findAt 49 = .ok (.iload_n 1, 1) := by decide +kernel
theorem dX12_findAt_50 : decode cX12_findAt 50 = .ok (.imul, 1) := by decide +kernel
theorem dX12_findAt_51 : decode cX12_findAt 51 = .ok (.iload_n 3, 1) := by decide +kernel
theorem dX12_findAt_52 : decode cX12_findAt 52 = .ok (.iadd, 1) := by decide +kernel
theorem dX12_findAt_53 : decode cX12_findAt 53 = .ok (.laload, 1) := by decide +kernel
theorem dX12_findAt_54 : decode cX12_findAt 54 = .ok (.lcmp, 1) := by decide +kernel
theorem dX12_findAt_55 : decode cX12_findAt 55 = .ok (.ifCond .ne 9, 3) := by decide +kernel
theorem dX12_findAt_58 : decode cX12_findAt 58 = .ok (.iinc 3 1, 3) := by decide +kernel
theorem dX12_findAt_61 : decode cX12_findAt 61 = .ok (.goto (-42), 3) := by decide +kernel
theorem dX12_findAt_64 : decode cX12_findAt 64 = .ok (.iload_n 3, 1) := by decide +kernel
theorem dX12_findAt_65 : decode cX12_findAt 65 = .ok (.aload_n 0, 1) := by decide +kernel
theorem dX12_findAt_66 : decode cX12_findAt 66 = .ok (.getfield 7, 3) := by decide +kernel
theorem dX12_findAt_69 : decode cX12_findAt 69 = .ok (.aload_n 0, 1) := by decide +kernel
theorem dX12_findAt_70 : decode cX12_findAt 70 = .ok (.getfield 7, 3) := by decide +kernel
theorem dX12_findAt_73 : decode cX12_findAt 73 = .ok (.imul, 1) := by decide +kernel
theorem dX12_findAt_74 : decode cX12_findAt 74 = .ok (.if_icmp .ne 5, 3) := by decide +kernel
theorem dX12_findAt_77 : decode cX12_findAt 77 = .ok (.iload_n 2, 1) := by decide +kernel
theorem dX12_findAt_78 : decode cX12_findAt 78 = .ok (.ireturn, 1) := by decide +kernel
theorem dX12_findAt_79 : decode cX12_findAt 79 = .ok (.aload_n 0, 1) := by decide +kernel
theorem dX12_findAt_80 : decode cX12_findAt 80 = .ok (.getfield 67, 3) := by decide +kernel
theorem dX12_findAt_83 : decode cX12_findAt 83 = .ok (.iload_n 2, 1) := by decide +kernel
theorem dX12_findAt_84 : decode cX12_findAt 84 = .ok (.iaload, 1) := by decide +kernel
theorem dX12_findAt_85 : decode cX12_findAt 85 = .ok (.istore_n 2, 1) := by decide +kernel
theorem dX12_findAt_86 : decode cX12_findAt 86 = .ok (.goto (-75), 3) := by decide +kernel
theorem dX12_findAt_89 : decode cX12_findAt 89 = .ok (.bipush (-9), 2) := by decide +kernel
theorem dX12_findAt_91 : decode cX12_findAt 91 = .ok (.ireturn, 1) := by decide +kernel
theorem dX12_comes_0 : decode cX12_comes 0 = .ok (.iconst 0, 1) := by decide +kernel
theorem dX12_comes_1 : decode cX12_comes 1 = .ok (.istore_n 3, 1) := by decide +kernel
theorem dX12_comes_2 : decode cX12_comes 2 = .ok (.iload_n 3, 1) := by decide +kernel
theorem dX12_comes_3 : decode cX12_comes 3 = .ok (.aload_n 0, 1) := by decide +kernel
theorem dX12_comes_4 : decode cX12_comes 4 = .ok (.getfield 7, 3) := by decide +kernel
theorem dX12_comes_7 : decode cX12_comes 7 = .ok (.aload_n 0, 1) := by decide +kernel
theorem dX12_comes_8 : decode cX12_comes 8 = .ok (.getfield 7, 3) := by decide +kernel
theorem dX12_comes_11 : decode cX12_comes 11 = .ok (.imul, 1) := by decide +kernel
theorem dX12_comes_12 : decode cX12_comes 12 = .ok (.if_icmp .ge 34, 3) := by decide +kernel
theorem dX12_comes_15 : decode cX12_comes 15 = .ok (.aload_n 0, 1) := by decide +kernel
theorem dX12_comes_16 : decode cX12_comes 16 = .ok (.getfield 30, 3) := by decide +kernel
theorem dX12_comes_19 : decode cX12_comes 19 = .ok (.bipush 9, 2) := by decide +kernel
theorem dX12_comes_21 : decode cX12_comes 21 = .ok (.iload_n 1, 1) := by decide +kernel
theorem dX12_comes_22 : decode cX12_comes 22 = .ok (.imul, 1) := by decide +kernel
theorem dX12_comes_23 : decode cX12_comes 23 = .ok (.iload_n 3, 1) := by decide +kernel
theorem dX12_comes_24 : decode cX12_comes 24 = .ok (.iadd, 1) := by decide +kernel
theorem dX12_comes_25 : decode cX12_comes 25 = .ok (.laload, 1) := by decide +kernel
theorem dX12_comes_26 : decode cX12_comes 26 = .ok (.ldc2_w 211, 3) := by decide +kernel
theorem dX12_comes_29 : decode cX12_comes 29 = .ok (.ldc2_w 213, 3) := by decide +kernel
theorem dX12_comes_32 : decode cX12_comes 32 = .ok (.invokestatic 84, 3) := by decide +kernel
theorem dX12_comes_35 : decode cX12_comes 35 = .ok (.ifCond .ne 5, 3) := by decide +kernel
theorem dX12_comes_38 : decode cX12_comes 38 = .ok (.iconst 0, 1) := by decide +kernel
theorem dX12_comes_39 : decode cX12_comes 39 = .ok (.ireturn, 1) := by decide +kernel

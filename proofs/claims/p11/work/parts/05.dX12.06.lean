theorem dX12_about_105 : decode cX12_about 105 = .ok (.ifCond .eq 7, 3) := by decide +kernel
theorem dX12_about_108 : decode cX12_about 108 = .ok (.iconst 1, 1) := by decide +kernel
theorem dX12_about_109 : decode cX12_about 109 = .ok (.goto 4, 3) := by decide +kernel
theorem dX12_about_112 : decode cX12_about 112 = .ok (.iconst 0, 1) := by decide +kernel
theorem dX12_about_113 : decode cX12_about 113 = .ok (.ireturn, 1) := by decide +kernel
theorem dX12_about_114 : decode cX12_about 114 = .ok (.aload_n 0, 1) := by decide +kernel
theorem dX12_about_115 : decode cX12_about 115 = .ok (.iload_n 3, 1) := by decide +kernel
theorem dX12_about_116 : decode cX12_about 116 = .ok (.invokevirtual 177, 3) := by decide +kernel
theorem dX12_about_119 : decode cX12_about 119 = .ok (.ireturn, 1) := by decide +kernel
theorem dX12_about_120 : decode cX12_about 120 = .ok (.bipush (-2), 2) := by decide +kernel
theorem dX12_about_122 : decode cX12_about 122 = .ok (.ireturn, 1) := by decide +kernel
theorem dX12_multiplyOut_0 : decode cX12_multiplyOut 0 = .ok (.aload_n 0, 1) := by decide +kernel
theorem dX12_multiplyOut_1 : decode cX12_multiplyOut 1 = .ok (.invokevirtual 132, 3) := by decide +kernel
theorem dX12_multiplyOut_4 : decode cX12_multiplyOut 4 = .ok (.iconst 0, 1) := by decide +kernel
theorem dX12_multiplyOut_5 : decode cX12_multiplyOut 5 = .ok (.istore_n 2, 1) := by decide +kernel
theorem dX12_multiplyOut_6 : decode cX12_multiplyOut 6 = .ok (.iload_n 2, 1) := by decide +kernel
theorem dX12_multiplyOut_7 : decode cX12_multiplyOut 7 = .ok (.aload_n 0, 1) := by decide +kernel
theorem dX12_multiplyOut_8 : decode cX12_multiplyOut 8 = .ok (.getfield 73, 3) := by decide +kernel
theorem dX12_multiplyOut_11 : decode cX12_multiplyOut 11 = .ok (.iload_n 1, 1) := by decide +kernel
theorem dX12_multiplyOut_12 : decode cX12_multiplyOut 12 = .ok (.iaload, 1) := by decide +kernel
theorem dX12_multiplyOut_13 : decode cX12_multiplyOut 13 = .ok (.if_icmp .ge 25, 3) := by decide +kernel
theorem dX12_multiplyOut_16 : decode cX12_multiplyOut 16 = .ok (.aload_n 0, 1) := by decide +kernel
theorem dX12_multiplyOut_17 : decode cX12_multiplyOut 17 = .ok (.iload_n 2, 1) := by decide +kernel
theorem dX12_multiplyOut_18 : decode cX12_multiplyOut 18 = .ok (.aload_n 0, 1) := by decide +kernel
theorem dX12_multiplyOut_19 : decode cX12_multiplyOut 19 = .ok (.getfield 70, 3) := by decide +kernel
theorem dX12_multiplyOut_22 : decode cX12_multiplyOut 22 = .ok (.bipush 12, 2) := by decide +kernel
theorem dX12_multiplyOut_24 : decode cX12_multiplyOut 24 = .ok (.iload_n 1, 1) := by decide +kernel
theorem dX12_multiplyOut_25 : decode cX12_multiplyOut 25 = .ok (.imul, 1) := by decide +kernel
theorem dX12_multiplyOut_26 : decode cX12_multiplyOut 26 = .ok (.iload_n 2, 1) := by decide +kernel
theorem dX12_multiplyOut_27 : decode cX12_multiplyOut 27 = .ok (.iadd, 1) := by decide +kernel
theorem dX12_multiplyOut_28 : decode cX12_multiplyOut 28 = .ok (.iaload, 1) := by decide +kernel
theorem dX12_multiplyOut_29 : decode cX12_multiplyOut 29 = .ok (.invokevirtual 138, 3) := by decide +kernel
theorem dX12_multiplyOut_32 : decode cX12_multiplyOut 32 = .ok (.iinc 2 1, 3) := by decide +kernel
theorem dX12_multiplyOut_35 : decode cX12_multiplyOut 35 = .ok (.goto (-29), 3) := by decide +kernel
theorem dX12_multiplyOut_38 : decode cX12_multiplyOut 38 = .ok (.return_, 1) := by decide +kernel
theorem dX12_entryOf_0 : decode cX12_entryOf 0 = .ok (.aload_n 0, 1) := by decide +kernel
theorem dX12_entryOf_1 : decode cX12_entryOf 1 = .ok (.iload_n 1, 1) := by decide +kernel
theorem dX12_entryOf_2 : decode cX12_entryOf 2 = .ok (.invokevirtual 240, 3) := by decide +kernel
theorem dX12_entryOf_5 : decode cX12_entryOf 5 = .ok (.ifCond .eq 12, 3) := by decide +kernel
theorem dX12_entryOf_8 : decode cX12_entryOf 8 = .ok (.aload_n 0, 1) := by decide +kernel
theorem dX12_entryOf_9 : decode cX12_entryOf 9 = .ok (.iload_n 2, 1) := by decide +kernel
theorem dX12_entryOf_10 : decode cX12_entryOf 10 = .ok (.iload_n 3, 1) := by decide +kernel
theorem dX12_entryOf_11 : decode cX12_entryOf 11 = .ok (.invokevirtual 116, 3) := by decide +kernel
theorem dX12_entryOf_14 : decode cX12_entryOf 14 = .ok (.ifCond .ne 7, 3) := by decide +kernel
theorem dX12_entryOf_17 : decode cX12_entryOf 17 = .ok (.ldc2_w 79, 3) := by decide +kernel
theorem dX12_entryOf_20 : decode cX12_entryOf 20 = .ok (.lreturn, 1) := by decide +kernel
theorem dX12_entryOf_21 : decode cX12_entryOf 21 = .ok (.aload_n 0, 1) := by decide +kernel
theorem dX12_entryOf_22 : decode cX12_entryOf 22 = .ok (.iload_n 1, 1) := by decide +kernel
theorem dX12_entryOf_23 : decode cX12_entryOf 23 = .ok (.invokevirtual 243, 3) := by decide +kernel
theorem dX12_entryOf_26 : decode cX12_entryOf 26 = .ok (.aload_n 0, 1) := by decide +kernel
theorem dX12_entryOf_27 : decode cX12_entryOf 27 = .ok (.getfield 30, 3) := by decide +kernel
theorem dX12_entryOf_30 : decode cX12_entryOf 30 = .ok (.bipush 9, 2) := by decide +kernel
theorem dX12_entryOf_32 : decode cX12_entryOf 32 = .ok (.aload_n 0, 1) := by decide +kernel
theorem dX12_entryOf_33 : decode cX12_entryOf 33 = .ok (.getfield 73, 3) := by decide +kernel
theorem dX12_entryOf_36 : decode cX12_entryOf 36 = .ok (.iload_n 1, 1) := by decide +kernel
theorem dX12_entryOf_37 : decode cX12_entryOf 37 = .ok (.iaload, 1) := by decide +kernel
theorem dX12_entryOf_38 : decode cX12_entryOf 38 = .ok (.imul, 1) := by decide +kernel
theorem dX12_entryOf_39 : decode cX12_entryOf 39 = .ok (.aload_n 0, 1) := by decide +kernel
theorem dX12_entryOf_40 : decode cX12_entryOf 40 = .ok (.getfield 7, 3) := by decide +kernel
theorem dX12_entryOf_43 : decode cX12_entryOf 43 = .ok (.iload_n 2, 1) := by decide +kernel
theorem dX12_entryOf_44 : decode cX12_entryOf 44 = .ok (.imul, 1) := by decide +kernel
theorem dX12_entryOf_45 : decode cX12_entryOf 45 = .ok (.iadd, 1) := by decide +kernel
theorem dX12_entryOf_46 : decode cX12_entryOf 46 = .ok (.iload_n 3, 1) := by decide +kernel
theorem dX12_entryOf_47 : decode cX12_entryOf 47 = .ok (.iadd, 1) := by decide +kernel
theorem dX12_entryOf_48 : decode cX12_entryOf 48 = .ok (.laload, 1) := by decide +kernel
theorem dX12_entryOf_49 : decode cX12_entryOf 49 = .ok (.lreturn, 1) := by decide +kernel
theorem dX12_size_0 : decode cX12_size 0 = .ok (.aload_n 0, 1) := by decide +kernel
theorem dX12_size_1 : decode cX12_size 1 = .ok (.iload_n 1, 1) := by decide +kernel
theorem dX12_size_2 : decode cX12_size 2 = .ok (.invokevirtual 240, 3) := by decide +kernel
theorem dX12_size_5 : decode cX12_size 5 = .ok (.ifCond .eq 13, 3) := by decide +kernel
theorem dX12_size_8 : decode cX12_size 8 = .ok (.iload_n 2, 1) := by decide +kernel
theorem dX12_size_9 : decode cX12_size 9 = .ok (.i2l, 1) := by decide +kernel
theorem dX12_size_10 : decode cX12_size 10 = .ok (.lconst 0, 1) := by decide +kernel
theorem dX12_size_11 : decode cX12_size 11 = .ok (.lconst 1, 1) := by decide +kernel
theorem dX12_size_12 : decode cX12_size 12 = .ok (.invokestatic 84, 3) := by decide +kernel
theorem dX12_size_15 : decode cX12_size 15 = .ok (.ifCond .ne 7, 3) := by decide +kernel
theorem dX12_size_18 : decode cX12_size 18 = .ok (.ldc2_w 79, 3) := by decide +kernel
theorem dX12_size_21 : decode cX12_size 21 = .ok (.lreturn, 1) := by decide +kernel
theorem dX12_size_22 : decode cX12_size 22 = .ok (.aload_n 0, 1) := by decide +kernel
theorem dX12_size_23 : decode cX12_size 23 = .ok (.iload_n 1, 1) := by decide +kernel
theorem dX12_size_24 : decode cX12_size 24 = .ok (.invokevirtual 243, 3) := by decide +kernel
theorem dX12_size_27 : decode cX12_size 27 = .ok (.iload_n 2, 1) := by decide +kernel
theorem dX12_size_28 : decode cX12_size 28 = .ok (.ifCond .ne 16, 3) := by decide +kernel
theorem dX12_size_31 : decode cX12_size 31 = .ok (.aload_n 0, 1) := by decide +kernel
theorem dX12_size_32 : decode cX12_size 32 = .ok (.aload_n 0, 1) := by decide +kernel
theorem dX12_size_33 : decode cX12_size 33 = .ok (.getfield 73, 3) := by decide +kernel
theorem dX12_size_36 : decode cX12_size 36 = .ok (.iload_n 1, 1) := by decide +kernel
theorem dX12_size_37 : decode cX12_size 37 = .ok (.iaload, 1) := by decide +kernel
theorem dX12_size_38 : decode cX12_size 38 = .ok (.invokevirtual 161, 3) := by decide +kernel
theorem dX12_size_41 : decode cX12_size 41 = .ok (.goto 13, 3) := by decide +kernel
theorem dX12_size_44 : decode cX12_size 44 = .ok (.aload_n 0, 1) := by decide +kernel
theorem dX12_size_45 : decode cX12_size 45 = .ok (.aload_n 0, 1) := by decide +kernel
theorem dX12_size_46 : decode cX12_size 46 = .ok (.getfield 73, 3) := by decide +kernel
theorem dX12_size_49 : decode cX12_size 49 = .ok (.iload_n 1, 1) := by decide +kernel
theorem dX12_size_50 : decode cX12_size 50 = .ok (.iaload, 1) := by decide +kernel
theorem dX12_size_51 : decode cX12_size 51 = .ok (.invokevirtual 192, 3) := by decide +kernel
theorem dX12_size_54 : decode cX12_size 54 = .ok (.lreturn, 1) := by decide +kernel
theorem dX12_sheet_0 : decode cX12_sheet 0 = .ok (.aload_n 0, 1) := by decide +kernel
theorem dX12_sheet_1 : decode cX12_sheet 1 = .ok (.iconst 0, 1) := by decide +kernel
theorem dX12_sheet_2 : decode cX12_sheet 2 = .ok (.putfield 76, 3) := by decide +kernel
theorem dX12_sheet_5 : decode cX12_sheet 5 = .ok (.iload_n 1, 1) := by decide +kernel
theorem dX12_sheet_6 : decode cX12_sheet 6 = .ok (.i2l, 1) := by decide +kernel
theorem dX12_sheet_7 : decode cX12_sheet 7 = .ok (.lconst 0, 1) := by decide +kernel
theorem dX12_sheet_8 : decode cX12_sheet 8 = .ok (.ldc2_w 90, 3) := by decide +kernel
theorem dX12_sheet_11 : decode cX12_sheet 11 = .ok (.invokestatic 84, 3) := by decide +kernel
theorem dX12_sheet_14 : decode cX12_sheet 14 = .ok (.ifCond .ne 5, 3) := by decide +kernel
theorem dX12_sheet_17 : decode cX12_sheet 17 = .ok (.iconst (-1), 1) := by decide +kernel
theorem dX12_sheet_18 : decode cX12_sheet 18 = .ok (.ireturn, 1) := by decide +kernel
theorem dX12_sheet_19 : decode cX12_sheet 19 = .ok (.iload_n 2, 1) := by decide +kernel
theorem dX12_sheet_20 : decode cX12_sheet 20 = .ok (.i2l, 1) := by decide +kernel
theorem dX12_sheet_21 : decode cX12_sheet 21 = .ok (.lconst 0, 1) := by decide +kernel
theorem dX12_sheet_22 : decode cX12_sheet 22 = .ok (.ldc2_w 88, 3) := by decide +kernel
theorem dX12_sheet_25 : decode cX12_sheet 25 = .ok (.invokestatic 84, 3) := by decide +kernel
theorem dX12_sheet_28 : decode cX12_sheet 28 = .ok (.ifCond .eq 9, 3) := by decide +kernel
theorem dX12_sheet_31 : decode cX12_sheet 31 = .ok (.iload_n 3, 1) := by decide +kernel
theorem dX12_sheet_32 : decode cX12_sheet 32 = .ok (.bipush 40, 2) := by decide +kernel
theorem dX12_sheet_34 : decode cX12_sheet 34 = .ok (.if_icmp .le 6, 3) := by decide +kernel
theorem dX12_sheet_37 : decode cX12_sheet 37 = .ok (.bipush (-2), 2) := by decide +kernel
theorem dX12_sheet_39 : decode cX12_sheet 39 = .ok (.ireturn, 1) := by decide +kernel
theorem dX12_sheet_40 : decode cX12_sheet 40 = .ok (.iload_n 3, 1) := by decide +kernel
theorem dX12_sheet_41 : decode cX12_sheet 41 = .ok (.ifCond .ge 9, 3) := by decide +kernel
theorem dX12_sheet_44 : decode cX12_sheet 44 = .ok (.aload_n 0, 1) := by decide +kernel
theorem dX12_sheet_45 : decode cX12_sheet 45 = .ok (.iconst 4, 1) := by decide +kernel
theorem dX12_sheet_46 : decode cX12_sheet 46 = .ok (.invokevirtual 100, 3) := by decide +kernel
theorem dX12_sheet_49 : decode cX12_sheet 49 = .ok (.ireturn, 1) := by decide +kernel
theorem dX12_sheet_50 : decode cX12_sheet 50 = .ok (.aload_n 0, 1) := by decide +kernel
theorem dX12_sheet_51 : decode cX12_sheet 51 = .ok (.getfield 21, 3) := by decide +kernel
theorem dX12_sheet_54 : decode cX12_sheet 54 = .ok (.iload_n 1, 1) := by decide +kernel
theorem dX12_sheet_55 : decode cX12_sheet 55 = .ok (.iload_n 2, 1) := by decide +kernel
theorem dX12_sheet_56 : decode cX12_sheet 56 = .ok (.iastore, 1) := by decide +kernel
theorem dX12_sheet_57 : decode cX12_sheet 57 = .ok (.aload_n 0, 1) := by decide +kernel
theorem dX12_sheet_58 : decode cX12_sheet 58 = .ok (.getfield 24, 3) := by decide +kernel
theorem dX12_sheet_61 : decode cX12_sheet 61 = .ok (.iload_n 1, 1) := by decide +kernel
theorem dX12_sheet_62 : decode cX12_sheet 62 = .ok (.iload_n 3, 1) := by decide +kernel
theorem dX12_sheet_63 : decode cX12_sheet 63 = .ok (.iastore, 1) := by decide +kernel
theorem dX12_sheet_64 : decode cX12_sheet 64 = .ok (.iconst 0, 1) := by decide +kernel
theorem dX12_sheet_65 : decode cX12_sheet 65 = .ok (.istore 4, 2) := by decide +kernel
theorem dX12_sheet_67 : decode cX12_sheet 67 = .ok (.iload 4, 2) := by decide +kernel
theorem dX12_sheet_69 : decode cX12_sheet 69 = .ok (.bipush 40, 2) := by decide +kernel
theorem dX12_sheet_71 : decode cX12_sheet 71 = .ok (.if_icmp .ge 22, 3) := by decide +kernel
theorem dX12_sheet_74 : decode cX12_sheet 74 = .ok (.aload_n 0, 1) := by decide +kernel
theorem dX12_sheet_75 : decode cX12_sheet 75 = .ok (.getfield 27, 3) := by decide +kernel
theorem dX12_sheet_78 : decode cX12_sheet 78 = .ok (.bipush 40, 2) := by decide +kernel
theorem dX12_sheet_80 : decode cX12_sheet 80 = .ok (.iload_n 1, 1) := by decide +kernel
theorem dX12_sheet_81 : decode cX12_sheet 81 = .ok (.imul, 1) := by decide +kernel
theorem dX12_sheet_82 : decode cX12_sheet 82 = .ok (.iload 4, 2) := by decide +kernel
theorem dX12_sheet_84 : decode cX12_sheet 84 = .ok (.iadd, 1) := by decide +kernel
theorem dX12_sheet_85 : decode cX12_sheet 85 = .ok (.iconst 0, 1) := by decide +kernel
theorem dX12_sheet_86 : decode cX12_sheet 86 = .ok (.iastore, 1) := by decide +kernel
theorem dX12_sheet_87 : decode cX12_sheet 87 = .ok (.iinc 4 1, 3) := by decide +kernel
theorem dX12_sheet_90 : decode cX12_sheet 90 = .ok (.goto (-23), 3) := by decide +kernel
theorem dX12_sheet_93 : decode cX12_sheet 93 = .ok (.iconst 1, 1) := by decide +kernel
theorem dX12_sheet_94 : decode cX12_sheet 94 = .ok (.ireturn, 1) := by decide +kernel
theorem dX12_lose_0 : decode cX12_lose 0 = .ok (.iload_n 1, 1) := by decide +kernel
theorem dX12_lose_1 : decode cX12_lose 1 = .ok (.i2l, 1) := by decide +kernel
theorem dX12_lose_2 : decode cX12_lose 2 = .ok (.lconst 0, 1) := by decide +kernel
theorem dX12_lose_3 : decode cX12_lose 3 = .ok (.ldc2_w 90, 3) := by decide +kernel
theorem dX12_lose_6 : decode cX12_lose 6 = .ok (.invokestatic 84, 3) := by decide +kernel
theorem dX12_lose_9 : decode cX12_lose 9 = .ok (.ifCond .ne 5, 3) := by decide +kernel
theorem dX12_lose_12 : decode cX12_lose 12 = .ok (.iconst (-1), 1) := by decide +kernel
theorem dX12_lose_13 : decode cX12_lose 13 = .ok (.ireturn, 1) := by decide +kernel
theorem dX12_lose_14 : decode cX12_lose 14 = .ok (.aload_n 0, 1) := by decide +kernel
theorem dX12_lose_15 : decode cX12_lose 15 = .ok (.getfield 21, 3) := by decide +kernel
theorem dX12_lose_18 : decode cX12_lose 18 = .ok (.iload_n 1, 1) := by decide +kernel
theorem dX12_lose_19 : decode cX12_lose 19 = .ok (.iaload, 1) := by decide +kernel
theorem dX12_lose_20 : decode cX12_lose 20 = .ok (.bipush (-9), 2) := by decide +kernel
theorem dX12_lose_22 : decode cX12_lose 22 = .ok (.if_icmp .ne 7, 3) := by decide +kernel
theorem dX12_lose_25 : decode cX12_lose 25 = .ok (.iconst 0, 1) := by decide +kernel
theorem dX12_lose_26 : decode cX12_lose 26 = .ok (.goto 4, 3) := by decide +kernel
theorem dX12_lose_29 : decode cX12_lose 29 = .ok (.iconst 1, 1) := by decide +kernel
theorem dX12_lose_30 : decode cX12_lose 30 = .ok (.istore_n 2, 1) := by decide +kernel
theorem dX12_lose_31 : decode cX12_lose 31 = .ok (.aload_n 0, 1) := by decide +kernel
theorem dX12_lose_32 : decode cX12_lose 32 = .ok (.getfield 21, 3) := by decide +kernel
theorem dX12_lose_35 : decode cX12_lose 35 = .ok (.iload_n 1, 1) := by decide +kernel
theorem dX12_lose_36 : decode cX12_lose 36 = .ok (.bipush (-9), 2) := by decide +kernel
theorem dX12_lose_38 : decode cX12_lose 38 = .ok (.iastore, 1) := by decide +kernel
theorem dX12_lose_39 : decode cX12_lose 39 = .ok (.iload_n 2, 1) := by decide +kernel
theorem dX12_lose_40 : decode cX12_lose 40 = .ok (.ireturn, 1) := by decide +kernel
theorem dX12_put_0 : decode cX12_put 0 = .ok (.aload_n 0, 1) := by decide +kernel
theorem dX12_put_1 : decode cX12_put 1 = .ok (.iconst 0, 1) := by decide +kernel
theorem dX12_put_2 : decode cX12_put 2 = .ok (.putfield 76, 3) := by decide +kernel
theorem dX12_put_5 : decode cX12_put 5 = .ok (.iload_n 1, 1) := by decide +kernel
theorem dX12_put_6 : decode cX12_put 6 = .ok (.i2l, 1) := by decide +kernel
theorem dX12_put_7 : decode cX12_put 7 = .ok (.lconst 0, 1) := by decide +kernel
theorem dX12_put_8 : decode cX12_put 8 = .ok (.ldc2_w 90, 3) := by decide +kernel
theorem dX12_put_11 : decode cX12_put 11 = .ok (.invokestatic 84, 3) := by decide +kernel
theorem dX12_put_14 : decode cX12_put 14 = .ok (.ifCond .ne 5, 3) := by decide +kernel
theorem dX12_put_17 : decode cX12_put 17 = .ok (.iconst (-1), 1) := by decide +kernel
theorem dX12_put_18 : decode cX12_put 18 = .ok (.ireturn, 1) := by decide +kernel
theorem dX12_put_19 : decode cX12_put 19 = .ok (.aload_n 0, 1) := by decide +kernel
theorem dX12_put_20 : decode cX12_put 20 = .ok (.getfield 21, 3) := by decide +kernel
theorem dX12_put_23 : decode cX12_put 23 = .ok (.iload_n 1, 1) := by decide +kernel
theorem dX12_put_24 : decode cX12_put 24 = .ok (.iaload, 1) := by decide +kernel
theorem dX12_put_25 : decode cX12_put 25 = .ok (.bipush (-9), 2) := by decide +kernel
theorem dX12_put_27 : decode cX12_put 27 = .ok (.if_icmp .ne 9, 3) := by decide +kernel
theorem dX12_put_30 : decode cX12_put 30 = .ok (.aload_n 0, 1) := by decide +kernel
theorem dX12_put_31 : decode cX12_put 31 = .ok (.iconst 1, 1) := by decide +kernel
theorem dX12_put_32 : decode cX12_put 32 = .ok (.invokevirtual 100, 3) := by decide +kernel
theorem dX12_put_35 : decode cX12_put 35 = .ok (.ireturn, 1) := by decide +kernel
theorem dX12_put_36 : decode cX12_put 36 = .ok (.iload_n 2, 1) := by decide +kernel
theorem dX12_put_37 : decode cX12_put 37 = .ok (.i2l, 1) := by decide +kernel
theorem dX12_put_38 : decode cX12_put 38 = .ok (.lconst 0, 1) := by decide +kernel
theorem dX12_put_39 : decode cX12_put 39 = .ok (.aload_n 0, 1) := by decide +kernel
theorem dX12_put_40 : decode cX12_put 40 = .ok (.getfield 24, 3) := by decide +kernel
theorem dX12_put_43 : decode cX12_put 43 = .ok (.iload_n 1, 1) := by decide +kernel
theorem dX12_put_44 : decode cX12_put 44 = .ok (.iaload, 1) := by decide +kernel
theorem dX12_put_45 : decode cX12_put 45 = .ok (.i2l, 1) := by decide +kernel
theorem dX12_put_46 : decode cX12_put 46 = .ok (.lconst 1, 1) := by decide +kernel
theorem dX12_put_47 : decode cX12_put 47 = .ok (.lsub, 1) := by decide +kernel
theorem dX12_put_48 : decode cX12_put 48 = .ok (.invokestatic 84, 3) := by decide +kernel
theorem dX12_put_51 : decode cX12_put 51 = .ok (.ifCond .ne 9, 3) := by decide +kernel
theorem dX12_put_54 : decode cX12_put 54 = .ok (.aload_n 0, 1) := by decide +kernel
theorem dX12_put_55 : decode cX12_put 55 = .ok (.iconst 3, 1) := by decide +kernel
theorem dX12_put_56 : decode cX12_put 56 = .ok (.invokevirtual 100, 3) := by decide +kernel
theorem dX12_put_59 : decode cX12_put 59 = .ok (.ireturn, 1) := by decide +kernel
theorem dX12_put_60 : decode cX12_put 60 = .ok (.aload_n 0, 1) := by decide +kernel
theorem dX12_put_61 : decode cX12_put 61 = .ok (.getfield 27, 3) := by decide +kernel
theorem dX12_put_64 : decode cX12_put 64 = .ok (.bipush 40, 2) := by decide +kernel
theorem dX12_put_66 : decode cX12_put 66 = .ok (.iload_n 1, 1) := by decide +kernel
theorem dX12_put_67 : decode cX12_put 67 = .ok (.imul, 1) := by decide +kernel
theorem dX12_put_68 : decode cX12_put 68 = .ok (.iload_n 2, 1) := by decide +kernel
theorem dX12_put_69 : decode cX12_put 69 = .ok (.iadd, 1) := by decide +kernel
theorem dX12_put_70 : decode cX12_put 70 = .ok (.aload_n 0, 1) := by decide +kernel
theorem dX12_put_71 : decode cX12_put 71 = .ok (.getfield 21, 3) := by decide +kernel
theorem dX12_put_74 : decode cX12_put 74 = .ok (.iload_n 1, 1) := by decide +kernel
theorem dX12_put_75 : decode cX12_put 75 = .ok (.iaload, 1) := by decide +kernel
theorem dX12_put_76 : decode cX12_put 76 = .ok (.ifCond .ne 8, 3) := by decide +kernel
theorem dX12_put_79 : decode cX12_put 79 = .ok (.iload_n 3, 1) := by decide +kernel
theorem dX12_put_80 : decode cX12_put 80 = .ok (.i2b, 1) := by decide +kernel
theorem dX12_put_81 : decode cX12_put 81 = .ok (.goto 19, 3) := by decide +kernel
theorem dX12_put_84 : decode cX12_put 84 = .ok (.aload_n 0, 1) := by decide +kernel
theorem dX12_put_85 : decode cX12_put 85 = .ok (.getfield 21, 3) := by decide +kernel
theorem dX12_put_88 : decode cX12_put 88 = .ok (.iload_n 1, 1) := by decide +kernel
theorem dX12_put_89 : decode cX12_put 89 = .ok (.iaload, 1) := by decide +kernel
theorem dX12_put_90 : decode cX12_put 90 = .ok (.iconst 1, 1) := by decide +kernel
theorem dX12_put_91 : decode cX12_put 91 = .ok (.if_icmp .ne 8, 3) := by decide +kernel
theorem dX12_put_94 : decode cX12_put 94 = .ok (.iload_n 3, 1) := by decide +kernel
theorem dX12_put_95 : decode cX12_put 95 = .ok (.i2s, 1) := by decide +kernel
theorem dX12_put_96 : decode cX12_put 96 = .ok (.goto 4, 3) := by decide +kernel
theorem dX12_put_99 : decode cX12_put 99 = .ok (.iload_n 3, 1) := by decide +kernel
theorem dX12_put_100 : decode cX12_put 100 = .ok (.iastore, 1) := by decide +kernel
theorem dX12_put_101 : decode cX12_put 101 = .ok (.iconst 1, 1) := by decide +kernel
theorem dX12_put_102 : decode cX12_put 102 = .ok (.ireturn, 1) := by decide +kernel
theorem dX12_at_0 : decode cX12_at 0 = .ok (.aload_n 0, 1) := by decide +kernel
theorem dX12_at_1 : decode cX12_at 1 = .ok (.iconst 0, 1) := by decide +kernel
theorem dX12_at_2 : decode cX12_at 2 = .ok (.putfield 76, 3) := by decide +kernel
theorem dX12_at_5 : decode cX12_at 5 = .ok (.iload_n 1, 1) := by decide +kernel
theorem dX12_at_6 : decode cX12_at 6 = .ok (.i2l, 1) := by decide +kernel
theorem dX12_at_7 : decode cX12_at 7 = .ok (.lconst 0, 1) := by decide +kernel
theorem dX12_at_8 : decode cX12_at 8 = .ok (.ldc2_w 90, 3) := by decide +kernel
theorem dX12_at_11 : decode cX12_at 11 = .ok (.invokestatic 84, 3) := by decide +kernel
theorem dX12_at_14 : decode cX12_at 14 = .ok (.ifCond .eq 15, 3) := by decide +kernel
theorem dX12_at_17 : decode cX12_at 17 = .ok (.iload_n 3, 1) := by decide +kernel
theorem dX12_at_18 : decode cX12_at 18 = .ok (.i2l, 1) := by decide +kernel
theorem dX12_at_19 : decode cX12_at 19 = .ok (.lconst 0, 1) := by decide +kernel
theorem dX12_at_20 : decode cX12_at 20 = .ok (.ldc2_w 88, 3) := by decide +kernel
theorem dX12_at_23 : decode cX12_at 23 = .ok (.invokestatic 84, 3) := by decide +kernel
theorem dX12_at_26 : decode cX12_at 26 = .ok (.ifCond .ne 7, 3) := by decide +kernel
theorem dX12_at_29 : decode cX12_at 29 = .ok (.ldc2_w 79, 3) := by decide +kernel
theorem dX12_at_32 : decode cX12_at 32 = .ok (.lreturn, 1) := by decide +kernel
theorem dX12_at_33 : decode cX12_at 33 = .ok (.aload_n 0, 1) := by decide +kernel
theorem dX12_at_34 : decode cX12_at 34 = .ok (.getfield 21, 3) := by decide +kernel
theorem dX12_at_37 : decode cX12_at 37 = .ok (.iload_n 1, 1) := by decide +kernel
theorem dX12_at_38 : decode cX12_at 38 = .ok (.iaload, 1) := by decide +kernel
theorem dX12_at_39 : decode cX12_at 39 = .ok (.bipush (-9), 2) := by decide +kernel
theorem dX12_at_41 : decode cX12_at 41 = .ok (.if_icmp .eq 19, 3) := by decide +kernel
theorem dX12_at_44 : decode cX12_at 44 = .ok (.aload_n 0, 1) := by decide +kernel
theorem dX12_at_45 : decode cX12_at 45 = .ok (.getfield 21, 3) := by decide +kernel
theorem dX12_at_48 : decode cX12_at 48 = .ok (.iload_n 1, 1) := by decide +kernel
theorem dX12_at_49 : decode cX12_at 49 = .ok (.iaload, 1) := by decide +kernel
theorem dX12_at_50 : decode cX12_at 50 = .ok (.iload_n 3, 1) := by decide +kernel
theorem dX12_at_51 : decode cX12_at 51 = .ok (.if_icmp .eq 9, 3) := by decide +kernel
theorem dX12_at_54 : decode cX12_at 54 = .ok (.aload_n 0, 1) := by decide +kernel
theorem dX12_at_55 : decode cX12_at 55 = .ok (.iconst 2, 1) := by decide +kernel
theorem dX12_at_56 : decode cX12_at 56 = .ok (.invokevirtual 246, 3) := by decide +kernel
theorem dX12_at_59 : decode cX12_at 59 = .ok (.lreturn, 1) := by decide +kernel
theorem dX12_at_60 : decode cX12_at 60 = .ok (.aload_n 0, 1) := by decide +kernel
theorem dX12_at_61 : decode cX12_at 61 = .ok (.getfield 21, 3) := by decide +kernel
theorem dX12_at_64 : decode cX12_at 64 = .ok (.iload_n 1, 1) := by decide +kernel
theorem dX12_at_65 : decode cX12_at 65 = .ok (.iaload, 1) := by decide +kernel
theorem dX12_at_66 : decode cX12_at 66 = .ok (.bipush (-9), 2) := by decide +kernel
theorem dX12_at_68 : decode cX12_at 68 = .ok (.if_icmp .ne 9, 3) := by decide +kernel
theorem dX12_at_71 : decode cX12_at 71 = .ok (.aload_n 0, 1) := by decide +kernel
theorem dX12_at_72 : decode cX12_at 72 = .ok (.iconst 1, 1) := by decide +kernel
theorem dX12_at_73 : decode cX12_at 73 = .ok (.invokevirtual 246, 3) := by decide +kernel
theorem dX12_at_76 : decode cX12_at 76 = .ok (.lreturn, 1) := by decide +kernel
theorem dX12_at_77 : decode cX12_at 77 = .ok (.iload_n 2, 1) := by decide +kernel
theorem dX12_at_78 : decode cX12_at 78 = .ok (.i2l, 1) := by decide +kernel
theorem dX12_at_79 : decode cX12_at 79 = .ok (.lconst 0, 1) := by decide +kernel
theorem dX12_at_80 : decode cX12_at 80 = .ok (.aload_n 0, 1) := by decide +kernel
theorem dX12_at_81 : decode cX12_at 81 = .ok (.getfield 24, 3) := by decide +kernel
theorem dX12_at_84 : decode cX12_at 84 = .ok (.iload_n 1, 1) := by decide +kernel
theorem dX12_at_85 : decode cX12_at 85 = .ok (.iaload, 1) := by decide +kernel
theorem dX12_at_86 : decode cX12_at 86 = .ok (.i2l, 1) := by decide +kernel
theorem dX12_at_87 : decode cX12_at 87 = .ok (.lconst 1, 1) := by decide +kernel
theorem dX12_at_88 : decode cX12_at 88 = .ok (.lsub, 1) := by decide +kernel
theorem dX12_at_89 : decode cX12_at 89 = .ok (.invokestatic 84, 3) := by decide +kernel
theorem dX12_at_92 : decode cX12_at 92 = .ok (.ifCond .ne 9, 3) := by decide +kernel
theorem dX12_at_95 : decode cX12_at 95 = .ok (.aload_n 0, 1) := by decide +kernel
theorem dX12_at_96 : decode cX12_at 96 = .ok (.iconst 3, 1) := by decide +kernel
theorem dX12_at_97 : decode cX12_at 97 = .ok (.invokevirtual 246, 3) := by decide +kernel
theorem dX12_at_100 : decode cX12_at 100 = .ok (.lreturn, 1) := by decide +kernel
theorem dX12_at_101 : decode cX12_at 101 = .ok (.aload_n 0, 1) := by decide +kernel
theorem dX12_at_102 : decode cX12_at 102 = .ok (.getfield 27, 3) := by decide +kernel
theorem dX12_at_105 : decode cX12_at 105 = .ok (.bipush 40, 2) := by decide +kernel
theorem dX12_at_107 : decode cX12_at 107 = .ok (.iload_n 1, 1) := by decide +kernel
theorem dX12_at_108 : decode cX12_at 108 = .ok (.imul, 1) := by decide +kernel
theorem dX12_at_109 : decode cX12_at 109 = .ok (.iload_n 2, 1) := by decide +kernel
theorem dX12_at_110 : decode cX12_at 110 = .ok (.iadd, 1) := by decide +kernel
theorem dX12_at_111 : decode cX12_at 111 = .ok (.iaload, 1) := by decide +kernel
theorem dX12_at_112 : decode cX12_at 112 = .ok (.i2l, 1) := by decide +kernel
theorem dX12_at_113 : decode cX12_at 113 = .ok (.lreturn, 1) := by decide +kernel
theorem dX12_begins_0 : decode cX12_begins 0 = .ok (.aload_n 0, 1) := by decide +kernel
theorem dX12_begins_1 : decode cX12_begins 1 = .ok (.bipush 31, 2) := by decide +kernel
theorem dX12_begins_3 : decode cX12_begins 3 = .ok (.aload_n 0, 1) := by decide +kernel
theorem dX12_begins_4 : decode cX12_begins 4 = .ok (.getfield 249, 3) := by decide +kernel
theorem dX12_begins_7 : decode cX12_begins 7 = .ok (.imul, 1) := by decide +kernel
theorem dX12_begins_8 : decode cX12_begins 8 = .ok (.iload_n 1, 1) := by decide +kernel
theorem dX12_begins_9 : decode cX12_begins 9 = .ok (.iadd, 1) := by decide +kernel
theorem dX12_begins_10 : decode cX12_begins 10 = .ok (.putfield 249, 3) := by decide +kernel
theorem dX12_begins_13 : decode cX12_begins 13 = .ok (.return_, 1) := by decide +kernel
theorem dX12_greatestOf_0 : decode cX12_greatestOf 0 = .ok (.aload_n 0, 1) := by decide +kernel
theorem dX12_greatestOf_1 : decode cX12_greatestOf 1 = .ok (.getfield 13, 3) := by decide +kernel
theorem dX12_greatestOf_4 : decode cX12_greatestOf 4 = .ok (.bipush 9, 2) := by decide +kernel
theorem dX12_greatestOf_6 : decode cX12_greatestOf 6 = .ok (.iload_n 1, 1) := by decide +kernel
theorem dX12_greatestOf_7 : decode cX12_greatestOf 7 = .ok (.imul, 1) := by decide +kernel
theorem dX12_greatestOf_8 : decode cX12_greatestOf 8 = .ok (.iaload, 1) := by decide +kernel
theorem dX12_greatestOf_9 : decode cX12_greatestOf 9 = .ok (.istore_n 2, 1) := by decide +kernel
theorem dX12_greatestOf_10 : decode cX12_greatestOf 10 = .ok (.iconst 0, 1) := by decide +kernel
theorem dX12_greatestOf_11 : decode cX12_greatestOf 11 = .ok (.istore_n 3, 1) := by decide +kernel
theorem dX12_greatestOf_12 : decode cX12_greatestOf 12 = .ok (.iload_n 3, 1) := by decide +kernel
theorem dX12_greatestOf_13 : decode cX12_greatestOf 13 = .ok (.aload_n 0, 1) := by decide +kernel
theorem dX12_greatestOf_14 : decode cX12_greatestOf 14 = .ok (.getfield 7, 3) := by decide +kernel
theorem dX12_greatestOf_17 : decode cX12_greatestOf 17 = .ok (.aload_n 0, 1) := by decide +kernel
theorem dX12_greatestOf_18 : decode cX12_greatestOf 18 = .ok (.getfield 7, 3) := by decide +kernel
theorem dX12_greatestOf_21 : decode cX12_greatestOf 21 = .ok (.imul, 1) := by decide +kernel
theorem dX12_greatestOf_22 : decode cX12_greatestOf 22 = .ok (.if_icmp .ge 40, 3) := by decide +kernel
theorem dX12_greatestOf_25 : decode cX12_greatestOf 25 = .ok (.aload_n 0, 1) := by decide +kernel
theorem dX12_greatestOf_26 : decode cX12_greatestOf 26 = .ok (.getfield 13, 3) := by decide +kernel
theorem dX12_greatestOf_29 : decode cX12_greatestOf 29 = .ok (.bipush 9, 2) := by decide +kernel
theorem dX12_greatestOf_31 : decode cX12_greatestOf 31 = .ok (.iload_n 1, 1) := by decide +kernel
theorem dX12_greatestOf_32 : decode cX12_greatestOf 32 = .ok (.imul, 1) := by decide +kernel
theorem dX12_greatestOf_33 : decode cX12_greatestOf 33 = .ok (.iload_n 3, 1) := by decide +kernel
theorem dX12_greatestOf_34 : decode cX12_greatestOf 34 = .ok (.iadd, 1) := by decide +kernel
theorem dX12_greatestOf_35 : decode cX12_greatestOf 35 = .ok (.iaload, 1) := by decide +kernel
theorem dX12_greatestOf_36 : decode cX12_greatestOf 36 = .ok (.iload_n 2, 1) := by decide +kernel
theorem dX12_greatestOf_37 : decode cX12_greatestOf 37 = .ok (.if_icmp .le 17, 3) := by decide +kernel
theorem dX12_greatestOf_40 : decode cX12_greatestOf 40 = .ok (.aload_n 0, 1) := by decide +kernel
theorem dX12_greatestOf_41 : decode cX12_greatestOf 41 = .ok (.getfield 13, 3) := by decide +kernel
theorem dX12_greatestOf_44 : decode cX12_greatestOf 44 = .ok (.bipush 9, 2) := by decide +kernel
theorem dX12_greatestOf_46 : decode cX12_greatestOf 46 = .ok (.iload_n 1, 1) := by decide +kernel
theorem dX12_greatestOf_47 : decode cX12_greatestOf 47 = .ok (.imul, 1) := by decide +kernel
theorem dX12_greatestOf_48 : decode cX12_greatestOf 48 = .ok (.iload_n 3, 1) := by decide +kernel
theorem dX12_greatestOf_49 : decode cX12_greatestOf 49 = .ok (.iadd, 1) := by decide +kernel
theorem dX12_greatestOf_50 : decode cX12_greatestOf 50 = .ok (.iaload, 1) := by decide +kernel
theorem dX12_greatestOf_51 : decode cX12_greatestOf 51 = .ok (.goto 4, 3) := by decide +kernel
theorem dX12_greatestOf_54 : decode cX12_greatestOf 54 = .ok (.iload_n 2, 1) := by decide +kernel
theorem dX12_greatestOf_55 : decode cX12_greatestOf 55 = .ok (.istore_n 2, 1) := by decide +kernel
theorem dX12_greatestOf_56 : decode cX12_greatestOf 56 = .ok (.iinc 3 1, 3) := by decide +kernel
theorem dX12_greatestOf_59 : decode cX12_greatestOf 59 = .ok (.goto (-47), 3) := by decide +kernel
theorem dX12_greatestOf_62 : decode cX12_greatestOf 62 = .ok (.iload_n 2, 1) := by decide +kernel
theorem dX12_greatestOf_63 : decode cX12_greatestOf 63 = .ok (.ireturn, 1) := by decide +kernel
theorem dX12_trackOf_0 : decode cX12_trackOf 0 = .ok (.iconst 0, 1) := by decide +kernel
theorem dX12_trackOf_1 : decode cX12_trackOf 1 = .ok (.istore_n 2, 1) := by decide +kernel
theorem dX12_trackOf_2 : decode cX12_trackOf 2 = .ok (.iconst 0, 1) := by decide +kernel
theorem dX12_trackOf_3 : decode cX12_trackOf 3 = .ok (.istore_n 3, 1) := by decide +kernel
theorem dX12_trackOf_4 : decode cX12_trackOf 4 = .ok (.iload_n 3, 1) := by decide +kernel
theorem dX12_trackOf_5 : decode cX12_trackOf 5 = .ok (.aload_n 0, 1) := by decide +kernel
theorem dX12_trackOf_6 : decode cX12_trackOf 6 = .ok (.getfield 7, 3) := by decide +kernel
theorem dX12_trackOf_9 : decode cX12_trackOf 9 = .ok (.if_icmp .ge 30, 3) := by decide +kernel
theorem dX12_trackOf_12 : decode cX12_trackOf 12 = .ok (.iload_n 2, 1) := by decide +kernel
theorem dX12_trackOf_13 : decode cX12_trackOf 13 = .ok (.aload_n 0, 1) := by decide +kernel
theorem dX12_trackOf_14 : decode cX12_trackOf 14 = .ok (.getfield 13, 3) := by decide +kernel
theorem dX12_trackOf_17 : decode cX12_trackOf 17 = .ok (.bipush 9, 2) := by decide +kernel
theorem dX12_trackOf_19 : decode cX12_trackOf 19 = .ok (.iload_n 1, 1) := by decide +kernel
theorem dX12_trackOf_20 : decode cX12_trackOf 20 = .ok (.imul, 1) := by decide +kernel
theorem dX12_trackOf_21 : decode cX12_trackOf 21 = .ok (.aload_n 0, 1) := by decide +kernel
theorem dX12_trackOf_22 : decode cX12_trackOf 22 = .ok (.getfield 7, 3) := by decide +kernel
theorem dX12_trackOf_25 : decode cX12_trackOf 25 = .ok (.iload_n 3, 1) := by decide +kernel
theorem dX12_trackOf_26 : decode cX12_trackOf 26 = .ok (.imul, 1) := by decide +kernel
theorem dX12_trackOf_27 : decode cX12_trackOf 27 = .ok (.iadd, 1) := by decide +kernel
theorem dX12_trackOf_28 : decode cX12_trackOf 28 = .ok (.iload_n 3, 1) := by decide +kernel
theorem dX12_trackOf_29 : decode cX12_trackOf 29 = .ok (.iadd, 1) := by decide +kernel
theorem dX12_trackOf_30 : decode cX12_trackOf 30 = .ok (.iaload, 1) := by decide +kernel
theorem dX12_trackOf_31 : decode cX12_trackOf 31 = .ok (.iadd, 1) := by decide +kernel
theorem dX12_trackOf_32 : decode cX12_trackOf 32 = .ok (.istore_n 2, 1) := by decide +kernel
theorem dX12_trackOf_33 : decode cX12_trackOf 33 = .ok (.iinc 3 1, 3) := by decide +kernel
theorem dX12_trackOf_36 : decode cX12_trackOf 36 = .ok (.goto (-32), 3) := by decide +kernel
theorem dX12_trackOf_39 : decode cX12_trackOf 39 = .ok (.iload_n 2, 1) := by decide +kernel
theorem dX12_trackOf_40 : decode cX12_trackOf 40 = .ok (.ireturn, 1) := by decide +kernel
theorem dX12_kindOf_0 : decode cX12_kindOf 0 = .ok (.iconst 1, 1) := by decide +kernel
theorem dX12_kindOf_1 : decode cX12_kindOf 1 = .ok (.istore_n 2, 1) := by decide +kernel
theorem dX12_kindOf_2 : decode cX12_kindOf 2 = .ok (.iconst 1, 1) := by decide +kernel
theorem dX12_kindOf_3 : decode cX12_kindOf 3 = .ok (.istore_n 3, 1) := by decide +kernel
theorem dX12_kindOf_4 : decode cX12_kindOf 4 = .ok (.iconst 0, 1) := by decide +kernel
theorem dX12_kindOf_5 : decode cX12_kindOf 5 = .ok (.istore 4, 2) := by decide +kernel
theorem dX12_kindOf_7 : decode cX12_kindOf 7 = .ok (.iload 4, 2) := by decide +kernel
theorem dX12_kindOf_9 : decode cX12_kindOf 9 = .ok (.aload_n 0, 1) := by decide +kernel
theorem dX12_kindOf_10 : decode cX12_kindOf 10 = .ok (.getfield 7, 3) := by decide +kernel
theorem dX12_kindOf_13 : decode cX12_kindOf 13 = .ok (.if_icmp .ge 139, 3) := by decide +kernel

theorem dX12_may_17 : decode cX12_may 17 = .ok (.ireturn, 1) := by decide +kernel
theorem dX12_may_18 : decode cX12_may 18 = .ok (.aload_n 0, 1) := by decide +kernel
theorem dX12_may_19 : decode cX12_may 19 = .ok (.getfield 17, 3) := by decide +kernel
theorem dX12_may_22 : decode cX12_may 22 = .ok (.bipush 6, 2) := by decide +kernel
theorem dX12_may_24 : decode cX12_may 24 = .ok (.iload_n 1, 1) := by decide +kernel
theorem dX12_may_25 : decode cX12_may 25 = .ok (.imul, 1) := by decide +kernel
theorem dX12_may_26 : decode cX12_may 26 = .ok (.iload_n 2, 1) := by decide +kernel
theorem dX12_may_27 : decode cX12_may 27 = .ok (.iadd, 1) := by decide +kernel
theorem dX12_may_28 : decode cX12_may 28 = .ok (.baload, 1) := by decide +kernel
theorem dX12_may_29 : decode cX12_may 29 = .ok (.iload_n 3, 1) := by decide +kernel
theorem dX12_may_30 : decode cX12_may 30 = .ok (.if_icmp .ne 7, 3) := by decide +kernel
theorem dX12_may_33 : decode cX12_may 33 = .ok (.iconst 1, 1) := by decide +kernel
theorem dX12_may_34 : decode cX12_may 34 = .ok (.goto 4, 3) := by decide +kernel
theorem dX12_may_37 : decode cX12_may 37 = .ok (.iconst 0, 1) := by decide +kernel
theorem dX12_may_38 : decode cX12_may 38 = .ok (.istore 4, 2) := by decide +kernel
theorem dX12_may_40 : decode cX12_may 40 = .ok (.aload_n 0, 1) := by decide +kernel
theorem dX12_may_41 : decode cX12_may 41 = .ok (.getfield 17, 3) := by decide +kernel
theorem dX12_may_44 : decode cX12_may 44 = .ok (.bipush 6, 2) := by decide +kernel
theorem dX12_may_46 : decode cX12_may 46 = .ok (.iload_n 1, 1) := by decide +kernel
theorem dX12_may_47 : decode cX12_may 47 = .ok (.imul, 1) := by decide +kernel
theorem dX12_may_48 : decode cX12_may 48 = .ok (.iload_n 2, 1) := by decide +kernel
theorem dX12_may_49 : decode cX12_may 49 = .ok (.iadd, 1) := by decide +kernel
theorem dX12_may_50 : decode cX12_may 50 = .ok (.iload_n 3, 1) := by decide +kernel
theorem dX12_may_51 : decode cX12_may 51 = .ok (.ifCond .ne 7, 3) := by decide +kernel
theorem dX12_may_54 : decode cX12_may 54 = .ok (.iconst 1, 1) := by decide +kernel
theorem dX12_may_55 : decode cX12_may 55 = .ok (.goto 4, 3) := by decide +kernel
theorem dX12_may_58 : decode cX12_may 58 = .ok (.iconst 0, 1) := by decide +kernel
theorem dX12_may_59 : decode cX12_may 59 = .ok (.bastore, 1) := by decide +kernel
theorem dX12_may_60 : decode cX12_may 60 = .ok (.iload 4, 2) := by decide +kernel
theorem dX12_may_62 : decode cX12_may 62 = .ok (.ireturn, 1) := by decide +kernel
theorem dX12_mayFollow_0 : decode cX12_mayFollow 0 = .ok (.aload_n 0, 1) := by decide +kernel
theorem dX12_mayFollow_1 : decode cX12_mayFollow 1 = .ok (.getfield 17, 3) := by decide +kernel
theorem dX12_mayFollow_4 : decode cX12_mayFollow 4 = .ok (.bipush 6, 2) := by decide +kernel
theorem dX12_mayFollow_6 : decode cX12_mayFollow 6 = .ok (.iload_n 1, 1) := by decide +kernel
theorem dX12_mayFollow_7 : decode cX12_mayFollow 7 = .ok (.imul, 1) := by decide +kernel
theorem dX12_mayFollow_8 : decode cX12_mayFollow 8 = .ok (.iload_n 2, 1) := by decide +kernel
theorem dX12_mayFollow_9 : decode cX12_mayFollow 9 = .ok (.iadd, 1) := by decide +kernel
theorem dX12_mayFollow_10 : decode cX12_mayFollow 10 = .ok (.baload, 1) := by decide +kernel
theorem dX12_mayFollow_11 : decode cX12_mayFollow 11 = .ok (.ifCond .ne 7, 3) := by decide +kernel
theorem dX12_mayFollow_14 : decode cX12_mayFollow 14 = .ok (.iconst 1, 1) := by decide +kernel
theorem dX12_mayFollow_15 : decode cX12_mayFollow 15 = .ok (.goto 4, 3) := by decide +kernel
theorem dX12_mayFollow_18 : decode cX12_mayFollow 18 = .ok (.iconst 0, 1) := by decide +kernel
theorem dX12_mayFollow_19 : decode cX12_mayFollow 19 = .ok (.ireturn, 1) := by decide +kernel
theorem dX12_rest_0 : decode cX12_rest 0 = .ok (.aload_n 0, 1) := by decide +kernel
theorem dX12_rest_1 : decode cX12_rest 1 = .ok (.getfield 94, 3) := by decide +kernel
theorem dX12_rest_4 : decode cX12_rest 4 = .ok (.ifCond .ne 7, 3) := by decide +kernel
theorem dX12_rest_7 : decode cX12_rest 7 = .ok (.lload_n 1, 1) := by decide +kernel
theorem dX12_rest_8 : decode cX12_rest 8 = .ok (.goto 22, 3) := by decide +kernel
theorem dX12_rest_11 : decode cX12_rest 11 = .ok (.lload_n 1, 1) := by decide +kernel
theorem dX12_rest_12 : decode cX12_rest 12 = .ok (.aload_n 0, 1) := by decide +kernel
theorem dX12_rest_13 : decode cX12_rest 13 = .ok (.getfield 94, 3) := by decide +kernel
theorem dX12_rest_16 : decode cX12_rest 16 = .ok (.i2l, 1) := by decide +kernel
theorem dX12_rest_17 : decode cX12_rest 17 = .ok (.lrem, 1) := by decide +kernel
theorem dX12_rest_18 : decode cX12_rest 18 = .ok (.aload_n 0, 1) := by decide +kernel
theorem dX12_rest_19 : decode cX12_rest 19 = .ok (.getfield 94, 3) := by decide +kernel
theorem dX12_rest_22 : decode cX12_rest 22 = .ok (.i2l, 1) := by decide +kernel
theorem dX12_rest_23 : decode cX12_rest 23 = .ok (.ladd, 1) := by decide +kernel
theorem dX12_rest_24 : decode cX12_rest 24 = .ok (.aload_n 0, 1) := by decide +kernel
theorem dX12_rest_25 : decode cX12_rest 25 = .ok (.getfield 94, 3) := by decide +kernel
theorem dX12_rest_28 : decode cX12_rest 28 = .ok (.i2l, 1) := by decide +kernel
theorem dX12_rest_29 : decode cX12_rest 29 = .ok (.lrem, 1) := by decide +kernel
theorem dX12_rest_30 : decode cX12_rest 30 = .ok (.lreturn, 1) := by decide +kernel
theorem dX12_beginLevels_0 : decode cX12_beginLevels 0 = .ok (.iconst 0, 1) := by decide +kernel
theorem dX12_beginLevels_1 : decode cX12_beginLevels 1 = .ok (.istore_n 1, 1) := by decide +kernel
theorem dX12_beginLevels_2 : decode cX12_beginLevels 2 = .ok (.iload_n 1, 1) := by decide +kernel
theorem dX12_beginLevels_3 : decode cX12_beginLevels 3 = .ok (.aload_n 0, 1) := by decide +kernel
theorem dX12_beginLevels_4 : decode cX12_beginLevels 4 = .ok (.getfield 7, 3) := by decide +kernel
theorem dX12_beginLevels_7 : decode cX12_beginLevels 7 = .ok (.if_icmp .ge 48, 3) := by decide +kernel
theorem dX12_beginLevels_10 : decode cX12_beginLevels 10 = .ok (.iconst 0, 1) := by decide +kernel
theorem dX12_beginLevels_11 : decode cX12_beginLevels 11 = .ok (.istore_n 2, 1) := by decide +kernel
theorem dX12_beginLevels_12 : decode cX12_beginLevels 12 = .ok (.iload_n 2, 1) := by decide +kernel
theorem dX12_beginLevels_13 : decode cX12_beginLevels 13 = .ok (.aload_n 0, 1) := by decide +kernel
theorem dX12_beginLevels_14 : decode cX12_beginLevels 14 = .ok (.getfield 7, 3) := by decide +kernel
theorem dX12_beginLevels_17 : decode cX12_beginLevels 17 = .ok (.if_icmp .ge 32, 3) := by decide +kernel
theorem dX12_beginLevels_20 : decode cX12_beginLevels 20 = .ok (.aload_n 0, 1) := by decide +kernel
theorem dX12_beginLevels_21 : decode cX12_beginLevels 21 = .ok (.getfield 30, 3) := by decide +kernel
theorem dX12_beginLevels_24 : decode cX12_beginLevels 24 = .ok (.aload_n 0, 1) := by decide +kernel
theorem dX12_beginLevels_25 : decode cX12_beginLevels 25 = .ok (.getfield 7, 3) := by decide +kernel
theorem dX12_beginLevels_28 : decode cX12_beginLevels 28 = .ok (.iload_n 1, 1) := by decide +kernel
theorem dX12_beginLevels_29 : decode cX12_beginLevels 29 = .ok (.imul, 1) := by decide +kernel
theorem dX12_beginLevels_30 : decode cX12_beginLevels 30 = .ok (.iload_n 2, 1) := by decide +kernel
theorem dX12_beginLevels_31 : decode cX12_beginLevels 31 = .ok (.iadd, 1) := by decide +kernel
theorem dX12_beginLevels_32 : decode cX12_beginLevels 32 = .ok (.iload_n 1, 1) := by decide +kernel
theorem dX12_beginLevels_33 : decode cX12_beginLevels 33 = .ok (.iload_n 2, 1) := by decide +kernel
theorem dX12_beginLevels_34 : decode cX12_beginLevels 34 = .ok (.if_icmp .ne 7, 3) := by decide +kernel
theorem dX12_beginLevels_37 : decode cX12_beginLevels 37 = .ok (.lconst 1, 1) := by decide +kernel
theorem dX12_beginLevels_38 : decode cX12_beginLevels 38 = .ok (.goto 4, 3) := by decide +kernel
theorem dX12_beginLevels_41 : decode cX12_beginLevels 41 = .ok (.lconst 0, 1) := by decide +kernel
theorem dX12_beginLevels_42 : decode cX12_beginLevels 42 = .ok (.lastore, 1) := by decide +kernel
theorem dX12_beginLevels_43 : decode cX12_beginLevels 43 = .ok (.iinc 2 1, 3) := by decide +kernel
theorem dX12_beginLevels_46 : decode cX12_beginLevels 46 = .ok (.goto (-34), 3) := by decide +kernel
theorem dX12_beginLevels_49 : decode cX12_beginLevels 49 = .ok (.iinc 1 1, 3) := by decide +kernel
theorem dX12_beginLevels_52 : decode cX12_beginLevels 52 = .ok (.goto (-50), 3) := by decide +kernel
theorem dX12_beginLevels_55 : decode cX12_beginLevels 55 = .ok (.return_, 1) := by decide +kernel
theorem dX12_goOn_0 : decode cX12_goOn 0 = .ok (.iconst 0, 1) := by decide +kernel
theorem dX12_goOn_1 : decode cX12_goOn 1 = .ok (.istore_n 3, 1) := by decide +kernel
theorem dX12_goOn_2 : decode cX12_goOn 2 = .ok (.iload_n 3, 1) := by decide +kernel
theorem dX12_goOn_3 : decode cX12_goOn 3 = .ok (.aload_n 0, 1) := by decide +kernel
theorem dX12_goOn_4 : decode cX12_goOn 4 = .ok (.getfield 7, 3) := by decide +kernel
theorem dX12_goOn_7 : decode cX12_goOn 7 = .ok (.if_icmp .ge 122, 3) := by decide +kernel
theorem dX12_goOn_10 : decode cX12_goOn 10 = .ok (.iconst 0, 1) := by decide +kernel
theorem dX12_goOn_11 : decode cX12_goOn 11 = .ok (.istore 4, 2) := by decide +kernel
theorem dX12_goOn_13 : decode cX12_goOn 13 = .ok (.iload 4, 2) := by decide +kernel
theorem dX12_goOn_15 : decode cX12_goOn 15 = .ok (.aload_n 0, 1) := by decide +kernel
theorem dX12_goOn_16 : decode cX12_goOn 16 = .ok (.getfield 7, 3) := by decide +kernel
theorem dX12_goOn_19 : decode cX12_goOn 19 = .ok (.if_icmp .ge 104, 3) := by decide +kernel
theorem dX12_goOn_22 : decode cX12_goOn 22 = .ok (.lconst 0, 1) := by decide +kernel
theorem dX12_goOn_23 : decode cX12_goOn 23 = .ok (.lstore 5, 2) := by decide +kernel
theorem dX12_goOn_25 : decode cX12_goOn 25 = .ok (.iconst 0, 1) := by decide +kernel
theorem dX12_goOn_26 : decode cX12_goOn 26 = .ok (.istore 7, 2) := by decide +kernel
theorem dX12_goOn_28 : decode cX12_goOn 28 = .ok (.iload 7, 2) := by decide +kernel
theorem dX12_goOn_30 : decode cX12_goOn 30 = .ok (.aload_n 0, 1) := by decide +kernel
theorem dX12_goOn_31 : decode cX12_goOn 31 = .ok (.getfield 7, 3) := by decide +kernel
theorem dX12_goOn_34 : decode cX12_goOn 34 = .ok (.if_icmp .ge 55, 3) := by decide +kernel
theorem dX12_goOn_37 : decode cX12_goOn 37 = .ok (.lload 5, 2) := by decide +kernel
theorem dX12_goOn_39 : decode cX12_goOn 39 = .ok (.aload_n 0, 1) := by decide +kernel
theorem dX12_goOn_40 : decode cX12_goOn 40 = .ok (.getfield 30, 3) := by decide +kernel
theorem dX12_goOn_43 : decode cX12_goOn 43 = .ok (.bipush 9, 2) := by decide +kernel
theorem dX12_goOn_45 : decode cX12_goOn 45 = .ok (.iload_n 1, 1) := by decide +kernel
theorem dX12_goOn_46 : decode cX12_goOn 46 = .ok (.imul, 1) := by decide +kernel
theorem dX12_goOn_47 : decode cX12_goOn 47 = .ok (.aload_n 0, 1) := by decide +kernel
theorem dX12_goOn_48 : decode cX12_goOn 48 = .ok (.getfield 7, 3) := by decide +kernel
theorem dX12_goOn_51 : decode cX12_goOn 51 = .ok (.iload_n 3, 1) := by decide +kernel
theorem dX12_goOn_52 : decode cX12_goOn 52 = .ok (.imul, 1) := by decide +kernel
theorem dX12_goOn_53 : decode cX12_goOn 53 = .ok (.iadd, 1) := by decide +kernel
theorem dX12_goOn_54 : decode cX12_goOn 54 = .ok (.iload 7, 2) := by decide +kernel
theorem dX12_goOn_56 : decode cX12_goOn 56 = .ok (.iadd, 1) := by decide +kernel
theorem dX12_goOn_57 : decode cX12_goOn 57 = .ok (.laload, 1) := by decide +kernel
theorem dX12_goOn_58 : decode cX12_goOn 58 = .ok (.aload_n 0, 1) := by decide +kernel
theorem dX12_goOn_59 : decode cX12_goOn 59 = .ok (.getfield 13, 3) := by decide +kernel
theorem dX12_goOn_62 : decode cX12_goOn 62 = .ok (.bipush 9, 2) := by decide +kernel
theorem dX12_goOn_64 : decode cX12_goOn 64 = .ok (.iload_n 2, 1) := by decide +kernel
theorem dX12_goOn_65 : decode cX12_goOn 65 = .ok (.imul, 1) := by decide +kernel
theorem dX12_goOn_66 : decode cX12_goOn 66 = .ok (.aload_n 0, 1) := by decide +kernel
theorem dX12_goOn_67 : decode cX12_goOn 67 = .ok (.getfield 7, 3) := by decide +kernel
theorem dX12_goOn_70 : decode cX12_goOn 70 = .ok (.iload 7, 2) := by decide +kernel
theorem dX12_goOn_72 : decode cX12_goOn 72 = .ok (.imul, 1) := by decide +kernel
theorem dX12_goOn_73 : decode cX12_goOn 73 = .ok (.iadd, 1) := by decide +kernel
theorem dX12_goOn_74 : decode cX12_goOn 74 = .ok (.iload 4, 2) := by decide +kernel
theorem dX12_goOn_76 : decode cX12_goOn 76 = .ok (.iadd, 1) := by decide +kernel
theorem dX12_goOn_77 : decode cX12_goOn 77 = .ok (.iaload, 1) := by decide +kernel
theorem dX12_goOn_78 : decode cX12_goOn 78 = .ok (.i2l, 1) := by decide +kernel
theorem dX12_goOn_79 : decode cX12_goOn 79 = .ok (.lmul, 1) := by decide +kernel
theorem dX12_goOn_80 : decode cX12_goOn 80 = .ok (.ladd, 1) := by decide +kernel
theorem dX12_goOn_81 : decode cX12_goOn 81 = .ok (.lstore 5, 2) := by decide +kernel
theorem dX12_goOn_83 : decode cX12_goOn 83 = .ok (.iinc 7 1, 3) := by decide +kernel
theorem dX12_goOn_86 : decode cX12_goOn 86 = .ok (.goto (-58), 3) := by decide +kernel
theorem dX12_goOn_89 : decode cX12_goOn 89 = .ok (.aload_n 0, 1) := by decide +kernel
theorem dX12_goOn_90 : decode cX12_goOn 90 = .ok (.getfield 30, 3) := by decide +kernel
theorem dX12_goOn_93 : decode cX12_goOn 93 = .ok (.bipush 9, 2) := by decide +kernel
theorem dX12_goOn_95 : decode cX12_goOn 95 = .ok (.iload_n 1, 1) := by decide +kernel
theorem dX12_goOn_96 : decode cX12_goOn 96 = .ok (.imul, 1) := by decide +kernel
theorem dX12_goOn_97 : decode cX12_goOn 97 = .ok (.bipush 9, 2) := by decide +kernel
theorem dX12_goOn_99 : decode cX12_goOn 99 = .ok (.iadd, 1) := by decide +kernel
theorem dX12_goOn_100 : decode cX12_goOn 100 = .ok (.aload_n 0, 1) := by decide +kernel
theorem dX12_goOn_101 : decode cX12_goOn 101 = .ok (.getfield 7, 3) := by decide +kernel
theorem dX12_goOn_104 : decode cX12_goOn 104 = .ok (.iload_n 3, 1) := by decide +kernel
theorem dX12_goOn_105 : decode cX12_goOn 105 = .ok (.imul, 1) := by decide +kernel
theorem dX12_goOn_106 : decode cX12_goOn 106 = .ok (.iadd, 1) := by decide +kernel
theorem dX12_goOn_107 : decode cX12_goOn 107 = .ok (.iload 4, 2) := by decide +kernel
theorem dX12_goOn_109 : decode cX12_goOn 109 = .ok (.iadd, 1) := by decide +kernel
theorem dX12_goOn_110 : decode cX12_goOn 110 = .ok (.aload_n 0, 1) := by decide +kernel
theorem dX12_goOn_111 : decode cX12_goOn 111 = .ok (.lload 5, 2) := by decide +kernel
theorem dX12_goOn_113 : decode cX12_goOn 113 = .ok (.invokevirtual 120, 3) := by decide +kernel
theorem dX12_goOn_116 : decode cX12_goOn 116 = .ok (.lastore, 1) := by decide +kernel
theorem dX12_goOn_117 : decode cX12_goOn 117 = .ok (.iinc 4 1, 3) := by decide +kernel
theorem dX12_goOn_120 : decode cX12_goOn 120 = .ok (.goto (-107), 3) := by decide +kernel
theorem dX12_goOn_123 : decode cX12_goOn 123 = .ok (.iinc 3 1, 3) := by decide +kernel
theorem dX12_goOn_126 : decode cX12_goOn 126 = .ok (.goto (-124), 3) := by decide +kernel
theorem dX12_goOn_129 : decode cX12_goOn 129 = .ok (.return_, 1) := by decide +kernel
theorem dX12_normAt_0 : decode cX12_normAt 0 = .ok (.lconst 0, 1) := by decide +kernel
theorem dX12_normAt_1 : decode cX12_normAt 1 = .ok (.lstore_n 2, 1) := by decide +kernel
theorem dX12_normAt_2 : decode cX12_normAt 2 = .ok (.iconst 0, 1) := by decide +kernel
theorem dX12_normAt_3 : decode cX12_normAt 3 = .ok (.istore 4, 2) := by decide +kernel
theorem dX12_normAt_5 : decode cX12_normAt 5 = .ok (.iload 4, 2) := by decide +kernel
theorem dX12_normAt_7 : decode cX12_normAt 7 = .ok (.aload_n 0, 1) := by decide +kernel
theorem dX12_normAt_8 : decode cX12_normAt 8 = .ok (.getfield 7, 3) := by decide +kernel
theorem dX12_normAt_11 : decode cX12_normAt 11 = .ok (.if_icmp .ge 72, 3) := by decide +kernel
theorem dX12_normAt_14 : decode cX12_normAt 14 = .ok (.lconst 0, 1) := by decide +kernel
theorem dX12_normAt_15 : decode cX12_normAt 15 = .ok (.lstore 5, 2) := by decide +kernel
theorem dX12_normAt_17 : decode cX12_normAt 17 = .ok (.iconst 0, 1) := by decide +kernel
theorem dX12_normAt_18 : decode cX12_normAt 18 = .ok (.istore 7, 2) := by decide +kernel
theorem dX12_normAt_20 : decode cX12_normAt 20 = .ok (.iload 7, 2) := by decide +kernel
theorem dX12_normAt_22 : decode cX12_normAt 22 = .ok (.aload_n 0, 1) := by decide +kernel
theorem dX12_normAt_23 : decode cX12_normAt 23 = .ok (.getfield 7, 3) := by decide +kernel
theorem dX12_normAt_26 : decode cX12_normAt 26 = .ok (.if_icmp .ge 37, 3) := by decide +kernel
theorem dX12_normAt_29 : decode cX12_normAt 29 = .ok (.lload 5, 2) := by decide +kernel
theorem dX12_normAt_31 : decode cX12_normAt 31 = .ok (.aload_n 0, 1) := by decide +kernel
theorem dX12_normAt_32 : decode cX12_normAt 32 = .ok (.getfield 30, 3) := by decide +kernel
theorem dX12_normAt_35 : decode cX12_normAt 35 = .ok (.bipush 9, 2) := by decide +kernel
theorem dX12_normAt_37 : decode cX12_normAt 37 = .ok (.iload_n 1, 1) := by decide +kernel
theorem dX12_normAt_38 : decode cX12_normAt 38 = .ok (.imul, 1) := by decide +kernel
theorem dX12_normAt_39 : decode cX12_normAt 39 = .ok (.aload_n 0, 1) := by decide +kernel
theorem dX12_normAt_40 : decode cX12_normAt 40 = .ok (.getfield 7, 3) := by decide +kernel
theorem dX12_normAt_43 : decode cX12_normAt 43 = .ok (.iload 4, 2) := by decide +kernel
theorem dX12_normAt_45 : decode cX12_normAt 45 = .ok (.imul, 1) := by decide +kernel
theorem dX12_normAt_46 : decode cX12_normAt 46 = .ok (.iadd, 1) := by decide +kernel
theorem dX12_normAt_47 : decode cX12_normAt 47 = .ok (.iload 7, 2) := by decide +kernel
theorem dX12_normAt_49 : decode cX12_normAt 49 = .ok (.iadd, 1) := by decide +kernel
theorem dX12_normAt_50 : decode cX12_normAt 50 = .ok (.laload, 1) := by decide +kernel
theorem dX12_normAt_51 : decode cX12_normAt 51 = .ok (.invokestatic 124, 3) := by decide +kernel
theorem dX12_normAt_54 : decode cX12_normAt 54 = .ok (.ladd, 1) := by decide +kernel
theorem dX12_normAt_55 : decode cX12_normAt 55 = .ok (.lstore 5, 2) := by decide +kernel
theorem dX12_normAt_57 : decode cX12_normAt 57 = .ok (.iinc 7 1, 3) := by decide +kernel
theorem dX12_normAt_60 : decode cX12_normAt 60 = .ok (.goto (-40), 3) := by decide +kernel
theorem dX12_normAt_63 : decode cX12_normAt 63 = .ok (.lload 5, 2) := by decide +kernel
theorem dX12_normAt_65 : decode cX12_normAt 65 = .ok (.lload_n 2, 1) := by decide +kernel
theorem dX12_normAt_66 : decode cX12_normAt 66 = .ok (.lcmp, 1) := by decide +kernel
theorem dX12_normAt_67 : decode cX12_normAt 67 = .ok (.ifCond .le 8, 3) := by decide +kernel
theorem dX12_normAt_70 : decode cX12_normAt 70 = .ok (.lload 5, 2) := by decide +kernel
theorem dX12_normAt_72 : decode cX12_normAt 72 = .ok (.goto 4, 3) := by decide +kernel
theorem dX12_normAt_75 : decode cX12_normAt 75 = .ok (.lload_n 2, 1) := by decide +kernel
theorem dX12_normAt_76 : decode cX12_normAt 76 = .ok (.lstore_n 2, 1) := by decide +kernel
theorem dX12_normAt_77 : decode cX12_normAt 77 = .ok (.iinc 4 1, 3) := by decide +kernel
theorem dX12_normAt_80 : decode cX12_normAt 80 = .ok (.goto (-75), 3) := by decide +kernel
theorem dX12_normAt_83 : decode cX12_normAt 83 = .ok (.lload_n 2, 1) := by decide +kernel
theorem dX12_normAt_84 : decode cX12_normAt 84 = .ok (.lreturn, 1) := by decide +kernel
theorem dX12_trackAt_0 : decode cX12_trackAt 0 = .ok (.lconst 0, 1) := by decide +kernel
theorem dX12_trackAt_1 : decode cX12_trackAt 1 = .ok (.lstore_n 2, 1) := by decide +kernel
theorem dX12_trackAt_2 : decode cX12_trackAt 2 = .ok (.iconst 0, 1) := by decide +kernel
theorem dX12_trackAt_3 : decode cX12_trackAt 3 = .ok (.istore 4, 2) := by decide +kernel
theorem dX12_trackAt_5 : decode cX12_trackAt 5 = .ok (.iload 4, 2) := by decide +kernel
theorem dX12_trackAt_7 : decode cX12_trackAt 7 = .ok (.aload_n 0, 1) := by decide +kernel
theorem dX12_trackAt_8 : decode cX12_trackAt 8 = .ok (.getfield 7, 3) := by decide +kernel
theorem dX12_trackAt_11 : decode cX12_trackAt 11 = .ok (.if_icmp .ge 32, 3) := by decide +kernel
theorem dX12_trackAt_14 : decode cX12_trackAt 14 = .ok (.lload_n 2, 1) := by decide +kernel
theorem dX12_trackAt_15 : decode cX12_trackAt 15 = .ok (.aload_n 0, 1) := by decide +kernel
theorem dX12_trackAt_16 : decode cX12_trackAt 16 = .ok (.getfield 30, 3) := by decide +kernel
theorem dX12_trackAt_19 : decode cX12_trackAt 19 = .ok (.bipush 9, 2) := by decide +kernel
theorem dX12_trackAt_21 : decode cX12_trackAt 21 = .ok (.iload_n 1, 1) := by decide +kernel
theorem dX12_trackAt_22 : decode cX12_trackAt 22 = .ok (.imul, 1) := by decide +kernel
theorem dX12_trackAt_23 : decode cX12_trackAt 23 = .ok (.aload_n 0, 1) := by decide +kernel
theorem dX12_trackAt_24 : decode cX12_trackAt 24 = .ok (.getfield 7, 3) := by decide +kernel
theorem dX12_trackAt_27 : decode cX12_trackAt 27 = .ok (.iload 4, 2) := by decide +kernel
theorem dX12_trackAt_29 : decode cX12_trackAt 29 = .ok (.imul, 1) := by decide +kernel
theorem dX12_trackAt_30 : decode cX12_trackAt 30 = .ok (.iadd, 1) := by decide +kernel
theorem dX12_trackAt_31 : decode cX12_trackAt 31 = .ok (.iload 4, 2) := by decide +kernel
theorem dX12_trackAt_33 : decode cX12_trackAt 33 = .ok (.iadd, 1) := by decide +kernel
theorem dX12_trackAt_34 : decode cX12_trackAt 34 = .ok (.laload, 1) := by decide +kernel
theorem dX12_trackAt_35 : decode cX12_trackAt 35 = .ok (.ladd, 1) := by decide +kernel
theorem dX12_trackAt_36 : decode cX12_trackAt 36 = .ok (.lstore_n 2, 1) := by decide +kernel
theorem dX12_trackAt_37 : decode cX12_trackAt 37 = .ok (.iinc 4 1, 3) := by decide +kernel
theorem dX12_trackAt_40 : decode cX12_trackAt 40 = .ok (.goto (-35), 3) := by decide +kernel
theorem dX12_trackAt_43 : decode cX12_trackAt 43 = .ok (.lload_n 2, 1) := by decide +kernel
theorem dX12_trackAt_44 : decode cX12_trackAt 44 = .ok (.lreturn, 1) := by decide +kernel
theorem dX12_isSpent_0 : decode cX12_isSpent 0 = .ok (.iconst 0, 1) := by decide +kernel
theorem dX12_isSpent_1 : decode cX12_isSpent 1 = .ok (.istore_n 2, 1) := by decide +kernel
theorem dX12_isSpent_2 : decode cX12_isSpent 2 = .ok (.iload_n 2, 1) := by decide +kernel
theorem dX12_isSpent_3 : decode cX12_isSpent 3 = .ok (.aload_n 0, 1) := by decide +kernel
theorem dX12_isSpent_4 : decode cX12_isSpent 4 = .ok (.getfield 81, 3) := by decide +kernel
theorem dX12_isSpent_7 : decode cX12_isSpent 7 = .ok (.if_icmp .ge 16, 3) := by decide +kernel
theorem dX12_isSpent_10 : decode cX12_isSpent 10 = .ok (.aload_n 0, 1) := by decide +kernel
theorem dX12_isSpent_11 : decode cX12_isSpent 11 = .ok (.getfield 37, 3) := by decide +kernel
theorem dX12_isSpent_14 : decode cX12_isSpent 14 = .ok (.iload_n 2, 1) := by decide +kernel
theorem dX12_isSpent_15 : decode cX12_isSpent 15 = .ok (.lconst 1, 1) := by decide +kernel
theorem dX12_isSpent_16 : decode cX12_isSpent 16 = .ok (.lastore, 1) := by decide +kernel
theorem dX12_isSpent_17 : decode cX12_isSpent 17 = .ok (.iinc 2 1, 3) := by decide +kernel
theorem dX12_isSpent_20 : decode cX12_isSpent 20 = .ok (.goto (-18), 3) := by decide +kernel
theorem dX12_isSpent_23 : decode cX12_isSpent 23 = .ok (.iconst 1, 1) := by decide +kernel
theorem dX12_isSpent_24 : decode cX12_isSpent 24 = .ok (.istore_n 2, 1) := by decide +kernel
theorem dX12_isSpent_25 : decode cX12_isSpent 25 = .ok (.iload_n 2, 1) := by decide +kernel
theorem dX12_isSpent_26 : decode cX12_isSpent 26 = .ok (.iload_n 1, 1) := by decide +kernel
theorem dX12_isSpent_27 : decode cX12_isSpent 27 = .ok (.if_icmp .ge 108, 3) := by decide +kernel
theorem dX12_isSpent_30 : decode cX12_isSpent 30 = .ok (.iconst 0, 1) := by decide +kernel
theorem dX12_isSpent_31 : decode cX12_isSpent 31 = .ok (.istore_n 3, 1) := by decide +kernel
theorem dX12_isSpent_32 : decode cX12_isSpent 32 = .ok (.iload_n 3, 1) := by decide +kernel
theorem dX12_isSpent_33 : decode cX12_isSpent 33 = .ok (.aload_n 0, 1) := by decide +kernel
theorem dX12_isSpent_34 : decode cX12_isSpent 34 = .ok (.getfield 81, 3) := by decide +kernel
theorem dX12_isSpent_37 : decode cX12_isSpent 37 = .ok (.if_icmp .ge 64, 3) := by decide +kernel
theorem dX12_isSpent_40 : decode cX12_isSpent 40 = .ok (.aload_n 0, 1) := by decide +kernel
theorem dX12_isSpent_41 : decode cX12_isSpent 41 = .ok (.getfield 40, 3) := by decide +kernel
theorem dX12_isSpent_44 : decode cX12_isSpent 44 = .ok (.iload_n 3, 1) := by decide +kernel
theorem dX12_isSpent_45 : decode cX12_isSpent 45 = .ok (.lconst 0, 1) := by decide +kernel
theorem dX12_isSpent_46 : decode cX12_isSpent 46 = .ok (.lastore, 1) := by decide +kernel
theorem dX12_isSpent_47 : decode cX12_isSpent 47 = .ok (.iconst 0, 1) := by decide +kernel
theorem dX12_isSpent_48 : decode cX12_isSpent 48 = .ok (.istore 4, 2) := by decide +kernel
theorem dX12_isSpent_50 : decode cX12_isSpent 50 = .ok (.iload 4, 2) := by decide +kernel
theorem dX12_isSpent_52 : decode cX12_isSpent 52 = .ok (.aload_n 0, 1) := by decide +kernel
theorem dX12_isSpent_53 : decode cX12_isSpent 53 = .ok (.getfield 81, 3) := by decide +kernel
theorem dX12_isSpent_56 : decode cX12_isSpent 56 = .ok (.if_icmp .ge 39, 3) := by decide +kernel
theorem dX12_isSpent_59 : decode cX12_isSpent 59 = .ok (.aload_n 0, 1) := by decide +kernel
theorem dX12_isSpent_60 : decode cX12_isSpent 60 = .ok (.getfield 40, 3) := by decide +kernel
theorem dX12_isSpent_63 : decode cX12_isSpent 63 = .ok (.iload_n 3, 1) := by decide +kernel
theorem dX12_isSpent_64 : decode cX12_isSpent 64 = .ok (.dup2, 1) := by decide +kernel
theorem dX12_isSpent_65 : decode cX12_isSpent 65 = .ok (.laload, 1) := by decide +kernel
theorem dX12_isSpent_66 : decode cX12_isSpent 66 = .ok (.aload_n 0, 1) := by decide +kernel
theorem dX12_isSpent_67 : decode cX12_isSpent 67 = .ok (.iload 4, 2) := by decide +kernel
theorem dX12_isSpent_69 : decode cX12_isSpent 69 = .ok (.iload_n 3, 1) := by decide +kernel
theorem dX12_isSpent_70 : decode cX12_isSpent 70 = .ok (.invokevirtual 127, 3) := by decide +kernel
theorem dX12_isSpent_73 : decode cX12_isSpent 73 = .ok (.ifCond .eq 13, 3) := by decide +kernel
theorem dX12_isSpent_76 : decode cX12_isSpent 76 = .ok (.aload_n 0, 1) := by decide +kernel
theorem dX12_isSpent_77 : decode cX12_isSpent 77 = .ok (.getfield 37, 3) := by decide +kernel
theorem dX12_isSpent_80 : decode cX12_isSpent 80 = .ok (.iload 4, 2) := by decide +kernel
theorem dX12_isSpent_82 : decode cX12_isSpent 82 = .ok (.laload, 1) := by decide +kernel
theorem dX12_isSpent_83 : decode cX12_isSpent 83 = .ok (.goto 4, 3) := by decide +kernel
theorem dX12_isSpent_86 : decode cX12_isSpent 86 = .ok (.lconst 0, 1) := by decide +kernel
theorem dX12_isSpent_87 : decode cX12_isSpent 87 = .ok (.ladd, 1) := by decide +kernel
theorem dX12_isSpent_88 : decode cX12_isSpent 88 = .ok (.lastore, 1) := by decide +kernel
theorem dX12_isSpent_89 : decode cX12_isSpent 89 = .ok (.iinc 4 1, 3) := by decide +kernel
theorem dX12_isSpent_92 : decode cX12_isSpent 92 = .ok (.goto (-42), 3) := by decide +kernel
theorem dX12_isSpent_95 : decode cX12_isSpent 95 = .ok (.iinc 3 1, 3) := by decide +kernel
theorem dX12_isSpent_98 : decode cX12_isSpent 98 = .ok (.goto (-66), 3) := by decide +kernel
theorem dX12_isSpent_101 : decode cX12_isSpent 101 = .ok (.iconst 0, 1) := by decide +kernel
theorem dX12_isSpent_102 : decode cX12_isSpent 102 = .ok (.istore_n 3, 1) := by decide +kernel
theorem dX12_isSpent_103 : decode cX12_isSpent 103 = .ok (.iload_n 3, 1) := by decide +kernel
theorem dX12_isSpent_104 : decode cX12_isSpent 104 = .ok (.aload_n 0, 1) := by decide +kernel
theorem dX12_isSpent_105 : decode cX12_isSpent 105 = .ok (.getfield 81, 3) := by decide +kernel
theorem dX12_isSpent_108 : decode cX12_isSpent 108 = .ok (.if_icmp .ge 21, 3) := by decide +kernel
theorem dX12_isSpent_111 : decode cX12_isSpent 111 = .ok (.aload_n 0, 1) := by decide +kernel
theorem dX12_isSpent_112 : decode cX12_isSpent 112 = .ok (.getfield 37, 3) := by decide +kernel
theorem dX12_isSpent_115 : decode cX12_isSpent 115 = .ok (.iload_n 3, 1) := by decide +kernel
theorem dX12_isSpent_116 : decode cX12_isSpent 116 = .ok (.aload_n 0, 1) := by decide +kernel
theorem dX12_isSpent_117 : decode cX12_isSpent 117 = .ok (.getfield 40, 3) := by decide +kernel
theorem dX12_isSpent_120 : decode cX12_isSpent 120 = .ok (.iload_n 3, 1) := by decide +kernel
theorem dX12_isSpent_121 : decode cX12_isSpent 121 = .ok (.laload, 1) := by decide +kernel
theorem dX12_isSpent_122 : decode cX12_isSpent 122 = .ok (.lastore, 1) := by decide +kernel
theorem dX12_isSpent_123 : decode cX12_isSpent 123 = .ok (.iinc 3 1, 3) := by decide +kernel
theorem dX12_isSpent_126 : decode cX12_isSpent 126 = .ok (.goto (-23), 3) := by decide +kernel
theorem dX12_isSpent_129 : decode cX12_isSpent 129 = .ok (.iinc 2 1, 3) := by decide +kernel
theorem dX12_isSpent_132 : decode cX12_isSpent 132 = .ok (.goto (-107), 3) := by decide +kernel
theorem dX12_isSpent_135 : decode cX12_isSpent 135 = .ok (.lconst 0, 1) := by decide +kernel
theorem dX12_isSpent_136 : decode cX12_isSpent 136 = .ok (.lstore_n 2, 1) := by decide +kernel
theorem dX12_isSpent_137 : decode cX12_isSpent 137 = .ok (.iconst 0, 1) := by decide +kernel
theorem dX12_isSpent_138 : decode cX12_isSpent 138 = .ok (.istore 4, 2) := by decide +kernel
theorem dX12_isSpent_140 : decode cX12_isSpent 140 = .ok (.iload 4, 2) := by decide +kernel
theorem dX12_isSpent_142 : decode cX12_isSpent 142 = .ok (.aload_n 0, 1) := by decide +kernel
theorem dX12_isSpent_143 : decode cX12_isSpent 143 = .ok (.getfield 81, 3) := by decide +kernel
theorem dX12_isSpent_146 : decode cX12_isSpent 146 = .ok (.if_icmp .ge 19, 3) := by decide +kernel
theorem dX12_isSpent_149 : decode cX12_isSpent 149 = .ok (.lload_n 2, 1) := by decide +kernel
theorem dX12_isSpent_150 : decode cX12_isSpent 150 = .ok (.aload_n 0, 1) := by decide +kernel
theorem dX12_isSpent_151 : decode cX12_isSpent 151 = .ok (.getfield 37, 3) := by decide +kernel
theorem dX12_isSpent_154 : decode cX12_isSpent 154 = .ok (.iload 4, 2) := by decide +kernel
theorem dX12_isSpent_156 : decode cX12_isSpent 156 = .ok (.laload, 1) := by decide +kernel
theorem dX12_isSpent_157 : decode cX12_isSpent 157 = .ok (.ladd, 1) := by decide +kernel
theorem dX12_isSpent_158 : decode cX12_isSpent 158 = .ok (.lstore_n 2, 1) := by decide +kernel
theorem dX12_isSpent_159 : decode cX12_isSpent 159 = .ok (.iinc 4 1, 3) := by decide +kernel
theorem dX12_isSpent_162 : decode cX12_isSpent 162 = .ok (.goto (-22), 3) := by decide +kernel
theorem dX12_isSpent_165 : decode cX12_isSpent 165 = .ok (.lload_n 2, 1) := by decide +kernel
theorem dX12_isSpent_166 : decode cX12_isSpent 166 = .ok (.ldc2_w 130, 3) := by decide +kernel
theorem dX12_isSpent_169 : decode cX12_isSpent 169 = .ok (.lcmp, 1) := by decide +kernel
theorem dX12_isSpent_170 : decode cX12_isSpent 170 = .ok (.ifCond .le 7, 3) := by decide +kernel
theorem dX12_isSpent_173 : decode cX12_isSpent 173 = .ok (.iconst 1, 1) := by decide +kernel
theorem dX12_isSpent_174 : decode cX12_isSpent 174 = .ok (.goto 4, 3) := by decide +kernel
theorem dX12_isSpent_177 : decode cX12_isSpent 177 = .ok (.iconst 0, 1) := by decide +kernel
theorem dX12_isSpent_178 : decode cX12_isSpent 178 = .ok (.ireturn, 1) := by decide +kernel
theorem dX12_beginWords_0 : decode cX12_beginWords 0 = .ok (.aload_n 0, 1) := by decide +kernel
theorem dX12_beginWords_1 : decode cX12_beginWords 1 = .ok (.invokevirtual 132, 3) := by decide +kernel
theorem dX12_beginWords_4 : decode cX12_beginWords 4 = .ok (.aload_n 0, 1) := by decide +kernel
theorem dX12_beginWords_5 : decode cX12_beginWords 5 = .ok (.iconst 0, 1) := by decide +kernel
theorem dX12_beginWords_6 : decode cX12_beginWords 6 = .ok (.putfield 135, 3) := by decide +kernel
theorem dX12_beginWords_9 : decode cX12_beginWords 9 = .ok (.aload_n 0, 1) := by decide +kernel
theorem dX12_beginWords_10 : decode cX12_beginWords 10 = .ok (.getfield 34, 3) := by decide +kernel
theorem dX12_beginWords_13 : decode cX12_beginWords 13 = .ok (.iconst 0, 1) := by decide +kernel
theorem dX12_beginWords_14 : decode cX12_beginWords 14 = .ok (.iconst (-1), 1) := by decide +kernel
theorem dX12_beginWords_15 : decode cX12_beginWords 15 = .ok (.iastore, 1) := by decide +kernel
theorem dX12_beginWords_16 : decode cX12_beginWords 16 = .ok (.return_, 1) := by decide +kernel
theorem dX12_next_0 : decode cX12_next 0 = .ok (.aload_n 0, 1) := by decide +kernel
theorem dX12_next_1 : decode cX12_next 1 = .ok (.getfield 135, 3) := by decide +kernel
theorem dX12_next_4 : decode cX12_next 4 = .ok (.iload_n 1, 1) := by decide +kernel
theorem dX12_next_5 : decode cX12_next 5 = .ok (.if_icmp .ne 13, 3) := by decide +kernel
theorem dX12_next_8 : decode cX12_next 8 = .ok (.aload_n 0, 1) := by decide +kernel
theorem dX12_next_9 : decode cX12_next 9 = .ok (.dup, 1) := by decide +kernel
theorem dX12_next_10 : decode cX12_next 10 = .ok (.getfield 135, 3) := by decide +kernel
theorem dX12_next_13 : decode cX12_next 13 = .ok (.iconst 1, 1) := by decide +kernel
theorem dX12_next_14 : decode cX12_next 14 = .ok (.isub, 1) := by decide +kernel
theorem dX12_next_15 : decode cX12_next 15 = .ok (.putfield 135, 3) := by decide +kernel
theorem dX12_next_18 : decode cX12_next 18 = .ok (.aload_n 0, 1) := by decide +kernel
theorem dX12_next_19 : decode cX12_next 19 = .ok (.getfield 135, 3) := by decide +kernel
theorem dX12_next_22 : decode cX12_next 22 = .ok (.ifCond .lt 161, 3) := by decide +kernel
theorem dX12_next_25 : decode cX12_next 25 = .ok (.aload_n 0, 1) := by decide +kernel
theorem dX12_next_26 : decode cX12_next 26 = .ok (.getfield 34, 3) := by decide +kernel
theorem dX12_next_29 : decode cX12_next 29 = .ok (.aload_n 0, 1) := by decide +kernel
theorem dX12_next_30 : decode cX12_next 30 = .ok (.getfield 135, 3) := by decide +kernel
theorem dX12_next_33 : decode cX12_next 33 = .ok (.dup2, 1) := by decide +kernel
theorem dX12_next_34 : decode cX12_next 34 = .ok (.iaload, 1) := by decide +kernel
theorem dX12_next_35 : decode cX12_next 35 = .ok (.iconst 1, 1) := by decide +kernel
theorem dX12_next_36 : decode cX12_next 36 = .ok (.iadd, 1) := by decide +kernel
theorem dX12_next_37 : decode cX12_next 37 = .ok (.iastore, 1) := by decide +kernel
theorem dX12_next_38 : decode cX12_next 38 = .ok (.aload_n 0, 1) := by decide +kernel
theorem dX12_next_39 : decode cX12_next 39 = .ok (.getfield 34, 3) := by decide +kernel
theorem dX12_next_42 : decode cX12_next 42 = .ok (.aload_n 0, 1) := by decide +kernel
theorem dX12_next_43 : decode cX12_next 43 = .ok (.getfield 135, 3) := by decide +kernel
theorem dX12_next_46 : decode cX12_next 46 = .ok (.iaload, 1) := by decide +kernel
theorem dX12_next_47 : decode cX12_next 47 = .ok (.aload_n 0, 1) := by decide +kernel
theorem dX12_next_48 : decode cX12_next 48 = .ok (.getfield 81, 3) := by decide +kernel
theorem dX12_next_51 : decode cX12_next 51 = .ok (.if_icmp .ge 53, 3) := by decide +kernel
theorem dX12_next_54 : decode cX12_next 54 = .ok (.aload_n 0, 1) := by decide +kernel
theorem dX12_next_55 : decode cX12_next 55 = .ok (.getfield 135, 3) := by decide +kernel
theorem dX12_next_58 : decode cX12_next 58 = .ok (.ifCond .le 46, 3) := by decide +kernel
theorem dX12_next_61 : decode cX12_next 61 = .ok (.aload_n 0, 1) := by decide +kernel
theorem dX12_next_62 : decode cX12_next 62 = .ok (.aload_n 0, 1) := by decide +kernel
theorem dX12_next_63 : decode cX12_next 63 = .ok (.getfield 34, 3) := by decide +kernel
theorem dX12_next_66 : decode cX12_next 66 = .ok (.aload_n 0, 1) := by decide +kernel
theorem dX12_next_67 : decode cX12_next 67 = .ok (.getfield 135, 3) := by decide +kernel
theorem dX12_next_70 : decode cX12_next 70 = .ok (.iconst 1, 1) := by decide +kernel
theorem dX12_next_71 : decode cX12_next 71 = .ok (.isub, 1) := by decide +kernel
theorem dX12_next_72 : decode cX12_next 72 = .ok (.iaload, 1) := by decide +kernel
theorem dX12_next_73 : decode cX12_next 73 = .ok (.aload_n 0, 1) := by decide +kernel
theorem dX12_next_74 : decode cX12_next 74 = .ok (.getfield 34, 3) := by decide +kernel
theorem dX12_next_77 : decode cX12_next 77 = .ok (.aload_n 0, 1) := by decide +kernel

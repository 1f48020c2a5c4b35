theorem dX12_kindOf_16 : decode cX12_kindOf 16 = .ok (.iconst 0, 1) := by decide +kernel
theorem dX12_kindOf_17 : decode cX12_kindOf 17 = .ok (.istore 5, 2) := by decide +kernel
theorem dX12_kindOf_19 : decode cX12_kindOf 19 = .ok (.iconst 0, 1) := by decide +kernel
theorem dX12_kindOf_20 : decode cX12_kindOf 20 = .ok (.istore 6, 2) := by decide +kernel
theorem dX12_kindOf_22 : decode cX12_kindOf 22 = .ok (.iconst 0, 1) := by decide +kernel
theorem dX12_kindOf_23 : decode cX12_kindOf 23 = .ok (.istore 7, 2) := by decide +kernel
theorem dX12_kindOf_25 : decode cX12_kindOf 25 = .ok (.iload 7, 2) := by decide +kernel
theorem dX12_kindOf_27 : decode cX12_kindOf 27 = .ok (.aload_n 0, 1) := by decide +kernel
theorem dX12_kindOf_28 : decode cX12_kindOf 28 = .ok (.getfield 7, 3) := by decide +kernel
theorem dX12_kindOf_31 : decode cX12_kindOf 31 = .ok (.if_icmp .ge 95, 3) := by decide +kernel
theorem dX12_kindOf_34 : decode cX12_kindOf 34 = .ok (.aload_n 0, 1) := by decide +kernel
theorem dX12_kindOf_35 : decode cX12_kindOf 35 = .ok (.getfield 13, 3) := by decide +kernel
theorem dX12_kindOf_38 : decode cX12_kindOf 38 = .ok (.bipush 9, 2) := by decide +kernel
theorem dX12_kindOf_40 : decode cX12_kindOf 40 = .ok (.iload_n 1, 1) := by decide +kernel
theorem dX12_kindOf_41 : decode cX12_kindOf 41 = .ok (.imul, 1) := by decide +kernel
theorem dX12_kindOf_42 : decode cX12_kindOf 42 = .ok (.aload_n 0, 1) := by decide +kernel
theorem dX12_kindOf_43 : decode cX12_kindOf 43 = .ok (.getfield 7, 3) := by decide +kernel
theorem dX12_kindOf_46 : decode cX12_kindOf 46 = .ok (.iload 4, 2) := by decide +kernel
theorem dX12_kindOf_48 : decode cX12_kindOf 48 = .ok (.imul, 1) := by decide +kernel
theorem dX12_kindOf_49 : decode cX12_kindOf 49 = .ok (.iadd, 1) := by decide +kernel
theorem dX12_kindOf_50 : decode cX12_kindOf 50 = .ok (.iload 7, 2) := by decide +kernel
theorem dX12_kindOf_52 : decode cX12_kindOf 52 = .ok (.iadd, 1) := by decide +kernel
theorem dX12_kindOf_53 : decode cX12_kindOf 53 = .ok (.iaload, 1) := by decide +kernel
theorem dX12_kindOf_54 : decode cX12_kindOf 54 = .ok (.istore 8, 2) := by decide +kernel
theorem dX12_kindOf_56 : decode cX12_kindOf 56 = .ok (.iload_n 2, 1) := by decide +kernel
theorem dX12_kindOf_57 : decode cX12_kindOf 57 = .ok (.iload 8, 2) := by decide +kernel
theorem dX12_kindOf_59 : decode cX12_kindOf 59 = .ok (.ifCond .lt 7, 3) := by decide +kernel
theorem dX12_kindOf_62 : decode cX12_kindOf 62 = .ok (.iconst 1, 1) := by decide +kernel
theorem dX12_kindOf_63 : decode cX12_kindOf 63 = .ok (.goto 4, 3) := by decide +kernel
theorem dX12_kindOf_66 : decode cX12_kindOf 66 = .ok (.iconst 0, 1) := by decide +kernel
theorem dX12_kindOf_67 : decode cX12_kindOf 67 = .ok (.iand, 1) := by decide +kernel
theorem dX12_kindOf_68 : decode cX12_kindOf 68 = .ok (.istore_n 2, 1) := by decide +kernel
theorem dX12_kindOf_69 : decode cX12_kindOf 69 = .ok (.iload_n 3, 1) := by decide +kernel
theorem dX12_kindOf_70 : decode cX12_kindOf 70 = .ok (.iload 8, 2) := by decide +kernel
theorem dX12_kindOf_72 : decode cX12_kindOf 72 = .ok (.ifCond .eq 9, 3) := by decide +kernel
theorem dX12_kindOf_75 : decode cX12_kindOf 75 = .ok (.iload 8, 2) := by decide +kernel
theorem dX12_kindOf_77 : decode cX12_kindOf 77 = .ok (.iconst 1, 1) := by decide +kernel
theorem dX12_kindOf_78 : decode cX12_kindOf 78 = .ok (.if_icmp .ne 7, 3) := by decide +kernel
theorem dX12_kindOf_81 : decode cX12_kindOf 81 = .ok (.iconst 1, 1) := by decide +kernel
theorem dX12_kindOf_82 : decode cX12_kindOf 82 = .ok (.goto 4, 3) := by decide +kernel
theorem dX12_kindOf_85 : decode cX12_kindOf 85 = .ok (.iconst 0, 1) := by decide +kernel
theorem dX12_kindOf_86 : decode cX12_kindOf 86 = .ok (.iand, 1) := by decide +kernel
theorem dX12_kindOf_87 : decode cX12_kindOf 87 = .ok (.istore_n 3, 1) := by decide +kernel
theorem dX12_kindOf_88 : decode cX12_kindOf 88 = .ok (.iload 5, 2) := by decide +kernel
theorem dX12_kindOf_90 : decode cX12_kindOf 90 = .ok (.iload 8, 2) := by decide +kernel
theorem dX12_kindOf_92 : decode cX12_kindOf 92 = .ok (.iadd, 1) := by decide +kernel
theorem dX12_kindOf_93 : decode cX12_kindOf 93 = .ok (.istore 5, 2) := by decide +kernel
theorem dX12_kindOf_95 : decode cX12_kindOf 95 = .ok (.iload 6, 2) := by decide +kernel
theorem dX12_kindOf_97 : decode cX12_kindOf 97 = .ok (.aload_n 0, 1) := by decide +kernel
theorem dX12_kindOf_98 : decode cX12_kindOf 98 = .ok (.getfield 13, 3) := by decide +kernel
theorem dX12_kindOf_101 : decode cX12_kindOf 101 = .ok (.bipush 9, 2) := by decide +kernel
theorem dX12_kindOf_103 : decode cX12_kindOf 103 = .ok (.iload_n 1, 1) := by decide +kernel
theorem dX12_kindOf_104 : decode cX12_kindOf 104 = .ok (.imul, 1) := by decide +kernel
theorem dX12_kindOf_105 : decode cX12_kindOf 105 = .ok (.aload_n 0, 1) := by decide +kernel
theorem dX12_kindOf_106 : decode cX12_kindOf 106 = .ok (.getfield 7, 3) := by decide +kernel
theorem dX12_kindOf_109 : decode cX12_kindOf 109 = .ok (.iload 7, 2) := by decide +kernel
theorem dX12_kindOf_111 : decode cX12_kindOf 111 = .ok (.imul, 1) := by decide +kernel
theorem dX12_kindOf_112 : decode cX12_kindOf 112 = .ok (.iadd, 1) := by decide +kernel
theorem dX12_kindOf_113 : decode cX12_kindOf 113 = .ok (.iload 4, 2) := by decide +kernel
theorem dX12_kindOf_115 : decode cX12_kindOf 115 = .ok (.iadd, 1) := by decide +kernel
theorem dX12_kindOf_116 : decode cX12_kindOf 116 = .ok (.iaload, 1) := by decide +kernel
theorem dX12_kindOf_117 : decode cX12_kindOf 117 = .ok (.iadd, 1) := by decide +kernel
theorem dX12_kindOf_118 : decode cX12_kindOf 118 = .ok (.istore 6, 2) := by decide +kernel
theorem dX12_kindOf_120 : decode cX12_kindOf 120 = .ok (.iinc 7 1, 3) := by decide +kernel
theorem dX12_kindOf_123 : decode cX12_kindOf 123 = .ok (.goto (-98), 3) := by decide +kernel
theorem dX12_kindOf_126 : decode cX12_kindOf 126 = .ok (.iload_n 3, 1) := by decide +kernel
theorem dX12_kindOf_127 : decode cX12_kindOf 127 = .ok (.iload 5, 2) := by decide +kernel
theorem dX12_kindOf_129 : decode cX12_kindOf 129 = .ok (.iconst 1, 1) := by decide +kernel
theorem dX12_kindOf_130 : decode cX12_kindOf 130 = .ok (.if_icmp .ne 13, 3) := by decide +kernel
theorem dX12_kindOf_133 : decode cX12_kindOf 133 = .ok (.iload 6, 2) := by decide +kernel
theorem dX12_kindOf_135 : decode cX12_kindOf 135 = .ok (.iconst 1, 1) := by decide +kernel
theorem dX12_kindOf_136 : decode cX12_kindOf 136 = .ok (.if_icmp .ne 7, 3) := by decide +kernel
theorem dX12_kindOf_139 : decode cX12_kindOf 139 = .ok (.iconst 1, 1) := by decide +kernel
theorem dX12_kindOf_140 : decode cX12_kindOf 140 = .ok (.goto 4, 3) := by decide +kernel
theorem dX12_kindOf_143 : decode cX12_kindOf 143 = .ok (.iconst 0, 1) := by decide +kernel
theorem dX12_kindOf_144 : decode cX12_kindOf 144 = .ok (.iand, 1) := by decide +kernel
theorem dX12_kindOf_145 : decode cX12_kindOf 145 = .ok (.istore_n 3, 1) := by decide +kernel
theorem dX12_kindOf_146 : decode cX12_kindOf 146 = .ok (.iinc 4 1, 3) := by decide +kernel
theorem dX12_kindOf_149 : decode cX12_kindOf 149 = .ok (.goto (-142), 3) := by decide +kernel
theorem dX12_kindOf_152 : decode cX12_kindOf 152 = .ok (.iload_n 3, 1) := by decide +kernel
theorem dX12_kindOf_153 : decode cX12_kindOf 153 = .ok (.ifCond .eq 7, 3) := by decide +kernel
theorem dX12_kindOf_156 : decode cX12_kindOf 156 = .ok (.iconst 2, 1) := by decide +kernel
theorem dX12_kindOf_157 : decode cX12_kindOf 157 = .ok (.goto 12, 3) := by decide +kernel
theorem dX12_kindOf_160 : decode cX12_kindOf 160 = .ok (.iload_n 2, 1) := by decide +kernel
theorem dX12_kindOf_161 : decode cX12_kindOf 161 = .ok (.ifCond .eq 7, 3) := by decide +kernel
theorem dX12_kindOf_164 : decode cX12_kindOf 164 = .ok (.iconst 1, 1) := by decide +kernel
theorem dX12_kindOf_165 : decode cX12_kindOf 165 = .ok (.goto 4, 3) := by decide +kernel
theorem dX12_kindOf_168 : decode cX12_kindOf 168 = .ok (.iconst 0, 1) := by decide +kernel
theorem dX12_kindOf_169 : decode cX12_kindOf 169 = .ok (.ireturn, 1) := by decide +kernel
theorem dX12_tell_0 : decode cX12_tell 0 = .ok (.aload_n 0, 1) := by decide +kernel
theorem dX12_tell_1 : decode cX12_tell 1 = .ok (.iload_n 1, 1) := by decide +kernel
theorem dX12_tell_2 : decode cX12_tell 2 = .ok (.invokevirtual 112, 3) := by decide +kernel
theorem dX12_tell_5 : decode cX12_tell 5 = .ok (.ifCond .ne 5, 3) := by decide +kernel
theorem dX12_tell_8 : decode cX12_tell 8 = .ok (.iconst (-1), 1) := by decide +kernel
theorem dX12_tell_9 : decode cX12_tell 9 = .ok (.ireturn, 1) := by decide +kernel
theorem dX12_tell_10 : decode cX12_tell 10 = .ok (.aload_n 0, 1) := by decide +kernel
theorem dX12_tell_11 : decode cX12_tell 11 = .ok (.iload_n 1, 1) := by decide +kernel
theorem dX12_tell_12 : decode cX12_tell 12 = .ok (.invokevirtual 252, 3) := by decide +kernel
theorem dX12_tell_15 : decode cX12_tell 15 = .ok (.istore_n 2, 1) := by decide +kernel
theorem dX12_tell_16 : decode cX12_tell 16 = .ok (.iload_n 2, 1) := by decide +kernel
theorem dX12_tell_17 : decode cX12_tell 17 = .ok (.iconst 2, 1) := by decide +kernel
theorem dX12_tell_18 : decode cX12_tell 18 = .ok (.if_icmp .ne 8, 3) := by decide +kernel
theorem dX12_tell_21 : decode cX12_tell 21 = .ok (.aload_n 0, 1) := by decide +kernel
theorem dX12_tell_22 : decode cX12_tell 22 = .ok (.iconst 3, 1) := by decide +kernel
theorem dX12_tell_23 : decode cX12_tell 23 = .ok (.invokevirtual 255, 3) := by decide +kernel
theorem dX12_tell_26 : decode cX12_tell 26 = .ok (.iload_n 2, 1) := by decide +kernel
theorem dX12_tell_27 : decode cX12_tell 27 = .ok (.ifCond .le 8, 3) := by decide +kernel
theorem dX12_tell_30 : decode cX12_tell 30 = .ok (.aload_n 0, 1) := by decide +kernel
theorem dX12_tell_31 : decode cX12_tell 31 = .ok (.iconst 2, 1) := by decide +kernel
theorem dX12_tell_32 : decode cX12_tell 32 = .ok (.invokevirtual 255, 3) := by decide +kernel
theorem dX12_tell_35 : decode cX12_tell 35 = .ok (.aload_n 0, 1) := by decide +kernel
theorem dX12_tell_36 : decode cX12_tell 36 = .ok (.iconst 1, 1) := by decide +kernel
theorem dX12_tell_37 : decode cX12_tell 37 = .ok (.invokevirtual 255, 3) := by decide +kernel
theorem dX12_tell_40 : decode cX12_tell 40 = .ok (.iload_n 2, 1) := by decide +kernel
theorem dX12_tell_41 : decode cX12_tell 41 = .ok (.iconst 2, 1) := by decide +kernel
theorem dX12_tell_42 : decode cX12_tell 42 = .ok (.if_icmp .ne 8, 3) := by decide +kernel
theorem dX12_tell_45 : decode cX12_tell 45 = .ok (.aload_n 0, 1) := by decide +kernel
theorem dX12_tell_46 : decode cX12_tell 46 = .ok (.iconst 1, 1) := by decide +kernel
theorem dX12_tell_47 : decode cX12_tell 47 = .ok (.invokevirtual 255, 3) := by decide +kernel
theorem dX12_tell_50 : decode cX12_tell 50 = .ok (.iload_n 2, 1) := by decide +kernel
theorem dX12_tell_51 : decode cX12_tell 51 = .ok (.ifCond .ne 11, 3) := by decide +kernel
theorem dX12_tell_54 : decode cX12_tell 54 = .ok (.aload_n 0, 1) := by decide +kernel
theorem dX12_tell_55 : decode cX12_tell 55 = .ok (.iload_n 1, 1) := by decide +kernel
theorem dX12_tell_56 : decode cX12_tell 56 = .ok (.invokevirtual 258, 3) := by decide +kernel
theorem dX12_tell_59 : decode cX12_tell 59 = .ok (.goto 35, 3) := by decide +kernel
theorem dX12_tell_62 : decode cX12_tell 62 = .ok (.iload_n 2, 1) := by decide +kernel
theorem dX12_tell_63 : decode cX12_tell 63 = .ok (.iconst 1, 1) := by decide +kernel
theorem dX12_tell_64 : decode cX12_tell 64 = .ok (.if_icmp .ne 17, 3) := by decide +kernel
theorem dX12_tell_67 : decode cX12_tell 67 = .ok (.aload_n 0, 1) := by decide +kernel
theorem dX12_tell_68 : decode cX12_tell 68 = .ok (.iload_n 1, 1) := by decide +kernel
theorem dX12_tell_69 : decode cX12_tell 69 = .ok (.invokevirtual 258, 3) := by decide +kernel
theorem dX12_tell_72 : decode cX12_tell 72 = .ok (.aload_n 0, 1) := by decide +kernel
theorem dX12_tell_73 : decode cX12_tell 73 = .ok (.iload_n 1, 1) := by decide +kernel
theorem dX12_tell_74 : decode cX12_tell 74 = .ok (.invokevirtual 261, 3) := by decide +kernel
theorem dX12_tell_77 : decode cX12_tell 77 = .ok (.iadd, 1) := by decide +kernel
theorem dX12_tell_78 : decode cX12_tell 78 = .ok (.goto 16, 3) := by decide +kernel
theorem dX12_tell_81 : decode cX12_tell 81 = .ok (.iconst 2, 1) := by decide +kernel
theorem dX12_tell_82 : decode cX12_tell 82 = .ok (.aload_n 0, 1) := by decide +kernel
theorem dX12_tell_83 : decode cX12_tell 83 = .ok (.iload_n 1, 1) := by decide +kernel
theorem dX12_tell_84 : decode cX12_tell 84 = .ok (.invokevirtual 258, 3) := by decide +kernel
theorem dX12_tell_87 : decode cX12_tell 87 = .ok (.imul, 1) := by decide +kernel
theorem dX12_tell_88 : decode cX12_tell 88 = .ok (.aload_n 0, 1) := by decide +kernel
theorem dX12_tell_89 : decode cX12_tell 89 = .ok (.iload_n 1, 1) := by decide +kernel
theorem dX12_tell_90 : decode cX12_tell 90 = .ok (.invokevirtual 261, 3) := by decide +kernel
theorem dX12_tell_93 : decode cX12_tell 93 = .ok (.iadd, 1) := by decide +kernel
theorem dX12_tell_94 : decode cX12_tell 94 = .ok (.ireturn, 1) := by decide +kernel
theorem dX12_weigh_0 : decode cX12_weigh 0 = .ok (.aload_n 0, 1) := by decide +kernel
theorem dX12_weigh_1 : decode cX12_weigh 1 = .ok (.iload_n 1, 1) := by decide +kernel
theorem dX12_weigh_2 : decode cX12_weigh 2 = .ok (.invokevirtual 112, 3) := by decide +kernel
theorem dX12_weigh_5 : decode cX12_weigh 5 = .ok (.ifCond .ne 5, 3) := by decide +kernel
theorem dX12_weigh_8 : decode cX12_weigh 8 = .ok (.iconst (-1), 1) := by decide +kernel
theorem dX12_weigh_9 : decode cX12_weigh 9 = .ok (.ireturn, 1) := by decide +kernel
theorem dX12_weigh_10 : decode cX12_weigh 10 = .ok (.aload_n 0, 1) := by decide +kernel
theorem dX12_weigh_11 : decode cX12_weigh 11 = .ok (.iload_n 1, 1) := by decide +kernel
theorem dX12_weigh_12 : decode cX12_weigh 12 = .ok (.invokevirtual 252, 3) := by decide +kernel
theorem dX12_weigh_15 : decode cX12_weigh 15 = .ok (.iconst 2, 1) := by decide +kernel
theorem dX12_weigh_16 : decode cX12_weigh 16 = .ok (.if_icmp .ne 7, 3) := by decide +kernel
theorem dX12_weigh_19 : decode cX12_weigh 19 = .ok (.iconst 1, 1) := by decide +kernel
theorem dX12_weigh_20 : decode cX12_weigh 20 = .ok (.goto 4, 3) := by decide +kernel
theorem dX12_weigh_23 : decode cX12_weigh 23 = .ok (.iconst 0, 1) := by decide +kernel
theorem dX12_weigh_24 : decode cX12_weigh 24 = .ok (.istore_n 2, 1) := by decide +kernel
theorem dX12_weigh_25 : decode cX12_weigh 25 = .ok (.aload_n 0, 1) := by decide +kernel
theorem dX12_weigh_26 : decode cX12_weigh 26 = .ok (.iload_n 2, 1) := by decide +kernel
theorem dX12_weigh_27 : decode cX12_weigh 27 = .ok (.ifCond .eq 7, 3) := by decide +kernel
theorem dX12_weigh_30 : decode cX12_weigh 30 = .ok (.iconst 5, 1) := by decide +kernel
theorem dX12_weigh_31 : decode cX12_weigh 31 = .ok (.goto 4, 3) := by decide +kernel
theorem dX12_weigh_34 : decode cX12_weigh 34 = .ok (.iconst 4, 1) := by decide +kernel
theorem dX12_weigh_35 : decode cX12_weigh 35 = .ok (.invokevirtual 255, 3) := by decide +kernel
theorem dX12_weigh_38 : decode cX12_weigh 38 = .ok (.iload_n 2, 1) := by decide +kernel
theorem dX12_weigh_39 : decode cX12_weigh 39 = .ok (.ifCond .eq 8, 3) := by decide +kernel
theorem dX12_weigh_42 : decode cX12_weigh 42 = .ok (.bipush 60, 2) := by decide +kernel
theorem dX12_weigh_44 : decode cX12_weigh 44 = .ok (.goto 4, 3) := by decide +kernel
theorem dX12_weigh_47 : decode cX12_weigh 47 = .ok (.iload_n 1, 1) := by decide +kernel
theorem dX12_weigh_48 : decode cX12_weigh 48 = .ok (.ireturn, 1) := by decide +kernel
theorem dX12_as_0 : decode cX12_as 0 = .ok (.aload_n 0, 1) := by decide +kernel
theorem dX12_as_1 : decode cX12_as 1 = .ok (.iconst 0, 1) := by decide +kernel
theorem dX12_as_2 : decode cX12_as 2 = .ok (.putfield 76, 3) := by decide +kernel
theorem dX12_as_5 : decode cX12_as 5 = .ok (.aload_n 0, 1) := by decide +kernel
theorem dX12_as_6 : decode cX12_as 6 = .ok (.iload_n 1, 1) := by decide +kernel
theorem dX12_as_7 : decode cX12_as 7 = .ok (.invokevirtual 112, 3) := by decide +kernel
theorem dX12_as_10 : decode cX12_as 10 = .ok (.ifCond .ne 5, 3) := by decide +kernel
theorem dX12_as_13 : decode cX12_as 13 = .ok (.iconst (-1), 1) := by decide +kernel
theorem dX12_as_14 : decode cX12_as 14 = .ok (.ireturn, 1) := by decide +kernel
theorem dX12_as_15 : decode cX12_as 15 = .ok (.iload_n 2, 1) := by decide +kernel
theorem dX12_as_16 : decode cX12_as 16 = .ok (.i2l, 1) := by decide +kernel
theorem dX12_as_17 : decode cX12_as 17 = .ok (.lconst 0, 1) := by decide +kernel
theorem dX12_as_18 : decode cX12_as 18 = .ok (.ldc2_w 88, 3) := by decide +kernel
theorem dX12_as_21 : decode cX12_as 21 = .ok (.invokestatic 84, 3) := by decide +kernel
theorem dX12_as_24 : decode cX12_as 24 = .ok (.ifCond .ne 6, 3) := by decide +kernel
theorem dX12_as_27 : decode cX12_as 27 = .ok (.bipush (-2), 2) := by decide +kernel
theorem dX12_as_29 : decode cX12_as 29 = .ok (.ireturn, 1) := by decide +kernel
theorem dX12_as_30 : decode cX12_as 30 = .ok (.aload_n 0, 1) := by decide +kernel
theorem dX12_as_31 : decode cX12_as 31 = .ok (.iload_n 1, 1) := by decide +kernel
theorem dX12_as_32 : decode cX12_as 32 = .ok (.invokevirtual 252, 3) := by decide +kernel
theorem dX12_as_35 : decode cX12_as 35 = .ok (.iload_n 2, 1) := by decide +kernel
theorem dX12_as_36 : decode cX12_as 36 = .ok (.if_icmp .lt 7, 3) := by decide +kernel
theorem dX12_as_39 : decode cX12_as 39 = .ok (.iconst 1, 1) := by decide +kernel
theorem dX12_as_40 : decode cX12_as 40 = .ok (.goto 8, 3) := by decide +kernel
theorem dX12_as_43 : decode cX12_as 43 = .ok (.aload_n 0, 1) := by decide +kernel
theorem dX12_as_44 : decode cX12_as 44 = .ok (.iconst 2, 1) := by decide +kernel
theorem dX12_as_45 : decode cX12_as 45 = .ok (.invokevirtual 100, 3) := by decide +kernel
theorem dX12_as_48 : decode cX12_as 48 = .ok (.ireturn, 1) := by decide +kernel
theorem dX12_history_0 : decode cX12_history 0 = .ok (.aload_n 0, 1) := by decide +kernel
theorem dX12_history_1 : decode cX12_history 1 = .ok (.getfield 249, 3) := by decide +kernel
theorem dX12_history_4 : decode cX12_history 4 = .ok (.ireturn, 1) := by decide +kernel
theorem dX12_fault_0 : decode cX12_fault 0 = .ok (.aload_n 0, 1) := by decide +kernel
theorem dX12_fault_1 : decode cX12_fault 1 = .ok (.getfield 76, 3) := by decide +kernel
theorem dX12_fault_4 : decode cX12_fault 4 = .ok (.ireturn, 1) := by decide +kernel
theorem dX12_told_0 : decode cX12_told 0 = .ok (.iload_n 1, 1) := by decide +kernel
theorem dX12_told_1 : decode cX12_told 1 = .ok (.tableswitch 111 0 4 #[35, 40, 45, 50, 55], 35) := by decide +kernel
theorem dX12_told_36 : decode cX12_told 36 = .ok (.aload_n 0, 1) := by decide +kernel
theorem dX12_told_37 : decode cX12_told 37 = .ok (.getfield 81, 3) := by decide +kernel
theorem dX12_told_40 : decode cX12_told 40 = .ok (.ireturn, 1) := by decide +kernel
theorem dX12_told_41 : decode cX12_told 41 = .ok (.aload_n 0, 1) := by decide +kernel
theorem dX12_told_42 : decode cX12_told 42 = .ok (.getfield 7, 3) := by decide +kernel
theorem dX12_told_45 : decode cX12_told 45 = .ok (.ireturn, 1) := by decide +kernel
theorem dX12_told_46 : decode cX12_told 46 = .ok (.aload_n 0, 1) := by decide +kernel
theorem dX12_told_47 : decode cX12_told 47 = .ok (.getfield 94, 3) := by decide +kernel
theorem dX12_told_50 : decode cX12_told 50 = .ok (.ireturn, 1) := by decide +kernel
theorem dX12_told_51 : decode cX12_told 51 = .ok (.aload_n 0, 1) := by decide +kernel
theorem dX12_told_52 : decode cX12_told 52 = .ok (.getfield 97, 3) := by decide +kernel
theorem dX12_told_55 : decode cX12_told 55 = .ok (.ireturn, 1) := by decide +kernel
theorem dX12_told_56 : decode cX12_told 56 = .ok (.iconst 0, 1) := by decide +kernel
theorem dX12_told_57 : decode cX12_told 57 = .ok (.istore_n 2, 1) := by decide +kernel
theorem dX12_told_58 : decode cX12_told 58 = .ok (.iconst 0, 1) := by decide +kernel
theorem dX12_told_59 : decode cX12_told 59 = .ok (.istore_n 3, 1) := by decide +kernel
theorem dX12_told_60 : decode cX12_told 60 = .ok (.iload_n 3, 1) := by decide +kernel
theorem dX12_told_61 : decode cX12_told 61 = .ok (.aload_n 0, 1) := by decide +kernel
theorem dX12_told_62 : decode cX12_told 62 = .ok (.getfield 81, 3) := by decide +kernel
theorem dX12_told_65 : decode cX12_told 65 = .ok (.if_icmp .ge 45, 3) := by decide +kernel
theorem dX12_told_68 : decode cX12_told 68 = .ok (.iconst 0, 1) := by decide +kernel
theorem dX12_told_69 : decode cX12_told 69 = .ok (.istore 4, 2) := by decide +kernel
theorem dX12_told_71 : decode cX12_told 71 = .ok (.iload 4, 2) := by decide +kernel
theorem dX12_told_73 : decode cX12_told 73 = .ok (.aload_n 0, 1) := by decide +kernel
theorem dX12_told_74 : decode cX12_told 74 = .ok (.getfield 81, 3) := by decide +kernel
theorem dX12_told_77 : decode cX12_told 77 = .ok (.if_icmp .ge 27, 3) := by decide +kernel
theorem dX12_told_80 : decode cX12_told 80 = .ok (.iload_n 2, 1) := by decide +kernel
theorem dX12_told_81 : decode cX12_told 81 = .ok (.aload_n 0, 1) := by decide +kernel
theorem dX12_told_82 : decode cX12_told 82 = .ok (.iload_n 3, 1) := by decide +kernel
theorem dX12_told_83 : decode cX12_told 83 = .ok (.iload 4, 2) := by decide +kernel
theorem dX12_told_85 : decode cX12_told 85 = .ok (.invokevirtual 127, 3) := by decide +kernel
theorem dX12_told_88 : decode cX12_told 88 = .ok (.ifCond .eq 7, 3) := by decide +kernel
theorem dX12_told_91 : decode cX12_told 91 = .ok (.iconst 1, 1) := by decide +kernel
theorem dX12_told_92 : decode cX12_told 92 = .ok (.goto 4, 3) := by decide +kernel
theorem dX12_told_95 : decode cX12_told 95 = .ok (.iconst 0, 1) := by decide +kernel
theorem dX12_told_96 : decode cX12_told 96 = .ok (.iadd, 1) := by decide +kernel
theorem dX12_told_97 : decode cX12_told 97 = .ok (.istore_n 2, 1) := by decide +kernel
theorem dX12_told_98 : decode cX12_told 98 = .ok (.iinc 4 1, 3) := by decide +kernel
theorem dX12_told_101 : decode cX12_told 101 = .ok (.goto (-30), 3) := by decide +kernel
theorem dX12_told_104 : decode cX12_told 104 = .ok (.iinc 3 1, 3) := by decide +kernel
theorem dX12_told_107 : decode cX12_told 107 = .ok (.goto (-47), 3) := by decide +kernel
theorem dX12_told_110 : decode cX12_told 110 = .ok (.iload_n 2, 1) := by decide +kernel
theorem dX12_told_111 : decode cX12_told 111 = .ok (.ireturn, 1) := by decide +kernel
theorem dX12_told_112 : decode cX12_told 112 = .ok (.bipush (-2), 2) := by decide +kernel
theorem dX12_told_114 : decode cX12_told 114 = .ok (.ireturn, 1) := by decide +kernel

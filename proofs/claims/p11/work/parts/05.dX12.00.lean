theorem dX12_init_0 : decode cX12_init 0 = .ok (.aload_n 0, 1) := by decide +kernel
theorem dX12_init_1 : decode cX12_init 1 = .ok (.invokespecial 1, 3) := by decide +kernel
theorem dX12_init_4 : decode cX12_init 4 = .ok (.aload_n 0, 1) := by decide +kernel
theorem dX12_init_5 : decode cX12_init 5 = .ok (.iconst 2, 1) := by decide +kernel
theorem dX12_init_6 : decode cX12_init 6 = .ok (.putfield 7, 3) := by decide +kernel
theorem dX12_init_9 : decode cX12_init 9 = .ok (.aload_n 0, 1) := by decide +kernel
theorem dX12_init_10 : decode cX12_init 10 = .ok (.bipush 54, 2) := by decide +kernel
theorem dX12_init_12 : decode cX12_init 12 = .ok (.newarray .int, 2) := by decide +kernel
theorem dX12_init_14 : decode cX12_init 14 = .ok (.putfield 13, 3) := by decide +kernel
theorem dX12_init_17 : decode cX12_init 17 = .ok (.aload_n 0, 1) := by decide +kernel
theorem dX12_init_18 : decode cX12_init 18 = .ok (.bipush 36, 2) := by decide +kernel
theorem dX12_init_20 : decode cX12_init 20 = .ok (.newarray .boolean, 2) := by decide +kernel
theorem dX12_init_22 : decode cX12_init 22 = .ok (.putfield 17, 3) := by decide +kernel
theorem dX12_init_25 : decode cX12_init 25 = .ok (.aload_n 0, 1) := by decide +kernel
theorem dX12_init_26 : decode cX12_init 26 = .ok (.iconst 4, 1) := by decide +kernel
theorem dX12_init_27 : decode cX12_init 27 = .ok (.newarray .int, 2) := by decide +kernel
theorem dX12_init_29 : decode cX12_init 29 = .ok (.dup, 1) := by decide +kernel
theorem dX12_init_30 : decode cX12_init 30 = .ok (.iconst 0, 1) := by decide +kernel
theorem dX12_init_31 : decode cX12_init 31 = .ok (.bipush (-9), 2) := by decide +kernel
theorem dX12_init_33 : decode cX12_init 33 = .ok (.iastore, 1) := by decide +kernel
theorem dX12_init_34 : decode cX12_init 34 = .ok (.dup, 1) := by decide +kernel
theorem dX12_init_35 : decode cX12_init 35 = .ok (.iconst 1, 1) := by decide +kernel
theorem dX12_init_36 : decode cX12_init 36 = .ok (.bipush (-9), 2) := by decide +kernel
theorem dX12_init_38 : decode cX12_init 38 = .ok (.iastore, 1) := by decide +kernel
theorem dX12_init_39 : decode cX12_init 39 = .ok (.dup, 1) := by decide +kernel
theorem dX12_init_40 : decode cX12_init 40 = .ok (.iconst 2, 1) := by decide +kernel
theorem dX12_init_41 : decode cX12_init 41 = .ok (.bipush (-9), 2) := by decide +kernel
theorem dX12_init_43 : decode cX12_init 43 = .ok (.iastore, 1) := by decide +kernel
theorem dX12_init_44 : decode cX12_init 44 = .ok (.dup, 1) := by decide +kernel
theorem dX12_init_45 : decode cX12_init 45 = .ok (.iconst 3, 1) := by decide +kernel
theorem dX12_init_46 : decode cX12_init 46 = .ok (.bipush (-9), 2) := by decide +kernel
theorem dX12_init_48 : decode cX12_init 48 = .ok (.iastore, 1) := by decide +kernel
theorem dX12_init_49 : decode cX12_init 49 = .ok (.putfield 21, 3) := by decide +kernel
theorem dX12_init_52 : decode cX12_init 52 = .ok (.aload_n 0, 1) := by decide +kernel
theorem dX12_init_53 : decode cX12_init 53 = .ok (.iconst 4, 1) := by decide +kernel
theorem dX12_init_54 : decode cX12_init 54 = .ok (.newarray .int, 2) := by decide +kernel
theorem dX12_init_56 : decode cX12_init 56 = .ok (.putfield 24, 3) := by decide +kernel
theorem dX12_init_59 : decode cX12_init 59 = .ok (.aload_n 0, 1) := by decide +kernel
theorem dX12_init_60 : decode cX12_init 60 = .ok (.sipush 160, 3) := by decide +kernel
theorem dX12_init_63 : decode cX12_init 63 = .ok (.newarray .int, 2) := by decide +kernel
theorem dX12_init_65 : decode cX12_init 65 = .ok (.putfield 27, 3) := by decide +kernel
theorem dX12_init_68 : decode cX12_init 68 = .ok (.aload_n 0, 1) := by decide +kernel
theorem dX12_init_69 : decode cX12_init 69 = .ok (.bipush 117, 2) := by decide +kernel
theorem dX12_init_71 : decode cX12_init 71 = .ok (.newarray .long, 2) := by decide +kernel
theorem dX12_init_73 : decode cX12_init 73 = .ok (.putfield 30, 3) := by decide +kernel
theorem dX12_init_76 : decode cX12_init 76 = .ok (.aload_n 0, 1) := by decide +kernel
theorem dX12_init_77 : decode cX12_init 77 = .ok (.bipush 13, 2) := by decide +kernel
theorem dX12_init_79 : decode cX12_init 79 = .ok (.newarray .int, 2) := by decide +kernel
theorem dX12_init_81 : decode cX12_init 81 = .ok (.putfield 34, 3) := by decide +kernel
theorem dX12_init_84 : decode cX12_init 84 = .ok (.aload_n 0, 1) := by decide +kernel
theorem dX12_init_85 : decode cX12_init 85 = .ok (.bipush 6, 2) := by decide +kernel
theorem dX12_init_87 : decode cX12_init 87 = .ok (.newarray .long, 2) := by decide +kernel
theorem dX12_init_89 : decode cX12_init 89 = .ok (.putfield 37, 3) := by decide +kernel
theorem dX12_init_92 : decode cX12_init 92 = .ok (.aload_n 0, 1) := by decide +kernel
theorem dX12_init_93 : decode cX12_init 93 = .ok (.bipush 6, 2) := by decide +kernel
theorem dX12_init_95 : decode cX12_init 95 = .ok (.newarray .long, 2) := by decide +kernel
theorem dX12_init_97 : decode cX12_init 97 = .ok (.putfield 40, 3) := by decide +kernel
theorem dX12_init_100 : decode cX12_init 100 = .ok (.aload_n 0, 1) := by decide +kernel
theorem dX12_init_101 : decode cX12_init 101 = .ok (.bipush 12, 2) := by decide +kernel
theorem dX12_init_103 : decode cX12_init 103 = .ok (.newarray .int, 2) := by decide +kernel
theorem dX12_init_105 : decode cX12_init 105 = .ok (.putfield 43, 3) := by decide +kernel
theorem dX12_init_108 : decode cX12_init 108 = .ok (.aload_n 0, 1) := by decide +kernel
theorem dX12_init_109 : decode cX12_init 109 = .ok (.bipush 12, 2) := by decide +kernel
theorem dX12_init_111 : decode cX12_init 111 = .ok (.newarray .int, 2) := by decide +kernel
theorem dX12_init_113 : decode cX12_init 113 = .ok (.putfield 46, 3) := by decide +kernel
theorem dX12_init_116 : decode cX12_init 116 = .ok (.aload_n 0, 1) := by decide +kernel
theorem dX12_init_117 : decode cX12_init 117 = .ok (.bipush 12, 2) := by decide +kernel
theorem dX12_init_119 : decode cX12_init 119 = .ok (.newarray .int, 2) := by decide +kernel
theorem dX12_init_121 : decode cX12_init 121 = .ok (.putfield 49, 3) := by decide +kernel
theorem dX12_init_124 : decode cX12_init 124 = .ok (.aload_n 0, 1) := by decide +kernel
theorem dX12_init_125 : decode cX12_init 125 = .ok (.bipush 12, 2) := by decide +kernel
theorem dX12_init_127 : decode cX12_init 127 = .ok (.newarray .int, 2) := by decide +kernel
theorem dX12_init_129 : decode cX12_init 129 = .ok (.putfield 52, 3) := by decide +kernel
theorem dX12_init_132 : decode cX12_init 132 = .ok (.aload_n 0, 1) := by decide +kernel
theorem dX12_init_133 : decode cX12_init 133 = .ok (.bipush (-9), 2) := by decide +kernel
theorem dX12_init_135 : decode cX12_init 135 = .ok (.putfield 55, 3) := by decide +kernel
theorem dX12_init_138 : decode cX12_init 138 = .ok (.aload_n 0, 1) := by decide +kernel
theorem dX12_init_139 : decode cX12_init 139 = .ok (.sipush 18009, 3) := by decide +kernel
theorem dX12_init_142 : decode cX12_init 142 = .ok (.newarray .long, 2) := by decide +kernel
theorem dX12_init_144 : decode cX12_init 144 = .ok (.putfield 58, 3) := by decide +kernel
theorem dX12_init_147 : decode cX12_init 147 = .ok (.aload_n 0, 1) := by decide +kernel
theorem dX12_init_148 : decode cX12_init 148 = .ok (.sipush 2001, 3) := by decide +kernel
theorem dX12_init_151 : decode cX12_init 151 = .ok (.newarray .int, 2) := by decide +kernel
theorem dX12_init_153 : decode cX12_init 153 = .ok (.putfield 61, 3) := by decide +kernel
theorem dX12_init_156 : decode cX12_init 156 = .ok (.aload_n 0, 1) := by decide +kernel
theorem dX12_init_157 : decode cX12_init 157 = .ok (.sipush 4096, 3) := by decide +kernel
theorem dX12_init_160 : decode cX12_init 160 = .ok (.newarray .int, 2) := by decide +kernel
theorem dX12_init_162 : decode cX12_init 162 = .ok (.putfield 64, 3) := by decide +kernel
theorem dX12_init_165 : decode cX12_init 165 = .ok (.aload_n 0, 1) := by decide +kernel
theorem dX12_init_166 : decode cX12_init 166 = .ok (.sipush 2001, 3) := by decide +kernel
theorem dX12_init_169 : decode cX12_init 169 = .ok (.newarray .int, 2) := by decide +kernel
theorem dX12_init_171 : decode cX12_init 171 = .ok (.putfield 67, 3) := by decide +kernel
theorem dX12_init_174 : decode cX12_init 174 = .ok (.aload_n 0, 1) := by decide +kernel
theorem dX12_init_175 : decode cX12_init 175 = .ok (.bipush 120, 2) := by decide +kernel
theorem dX12_init_177 : decode cX12_init 177 = .ok (.newarray .int, 2) := by decide +kernel
theorem dX12_init_179 : decode cX12_init 179 = .ok (.putfield 70, 3) := by decide +kernel
theorem dX12_init_182 : decode cX12_init 182 = .ok (.aload_n 0, 1) := by decide +kernel
theorem dX12_init_183 : decode cX12_init 183 = .ok (.bipush 10, 2) := by decide +kernel
theorem dX12_init_185 : decode cX12_init 185 = .ok (.newarray .int, 2) := by decide +kernel
theorem dX12_init_187 : decode cX12_init 187 = .ok (.putfield 73, 3) := by decide +kernel
theorem dX12_init_190 : decode cX12_init 190 = .ok (.return_, 1) := by decide +kernel
theorem dX12_fails_0 : decode cX12_fails 0 = .ok (.aload_n 0, 1) := by decide +kernel
theorem dX12_fails_1 : decode cX12_fails 1 = .ok (.iload_n 1, 1) := by decide +kernel
theorem dX12_fails_2 : decode cX12_fails 2 = .ok (.putfield 76, 3) := by decide +kernel
theorem dX12_fails_5 : decode cX12_fails 5 = .ok (.bipush (-10), 2) := by decide +kernel
theorem dX12_fails_7 : decode cX12_fails 7 = .ok (.iload_n 1, 1) := by decide +kernel
theorem dX12_fails_8 : decode cX12_fails 8 = .ok (.isub, 1) := by decide +kernel
theorem dX12_fails_9 : decode cX12_fails 9 = .ok (.ireturn, 1) := by decide +kernel
theorem dX12_lost_0 : decode cX12_lost 0 = .ok (.aload_n 0, 1) := by decide +kernel
theorem dX12_lost_1 : decode cX12_lost 1 = .ok (.iload_n 1, 1) := by decide +kernel
theorem dX12_lost_2 : decode cX12_lost 2 = .ok (.putfield 76, 3) := by decide +kernel
theorem dX12_lost_5 : decode cX12_lost 5 = .ok (.ldc2_w 79, 3) := by decide +kernel
theorem dX12_lost_8 : decode cX12_lost 8 = .ok (.lreturn, 1) := by decide +kernel
theorem dX12_within_0 : decode cX12_within 0 = .ok (.lload_n 0, 1) := by decide +kernel
theorem dX12_within_1 : decode cX12_within 1 = .ok (.lload_n 2, 1) := by decide +kernel
theorem dX12_within_2 : decode cX12_within 2 = .ok (.lcmp, 1) := by decide +kernel
theorem dX12_within_3 : decode cX12_within 3 = .ok (.ifCond .lt 14, 3) := by decide +kernel
theorem dX12_within_6 : decode cX12_within 6 = .ok (.lload_n 0, 1) := by decide +kernel
theorem dX12_within_7 : decode cX12_within 7 = .ok (.lload 4, 2) := by decide +kernel
theorem dX12_within_9 : decode cX12_within 9 = .ok (.lcmp, 1) := by decide +kernel
theorem dX12_within_10 : decode cX12_within 10 = .ok (.ifCond .gt 7, 3) := by decide +kernel
theorem dX12_within_13 : decode cX12_within 13 = .ok (.iconst 1, 1) := by decide +kernel
theorem dX12_within_14 : decode cX12_within 14 = .ok (.goto 4, 3) := by decide +kernel
theorem dX12_within_17 : decode cX12_within 17 = .ok (.iconst 0, 1) := by decide +kernel
theorem dX12_within_18 : decode cX12_within 18 = .ok (.ireturn, 1) := by decide +kernel
theorem dX12_sizeOf_0 : decode cX12_sizeOf 0 = .ok (.lload_n 0, 1) := by decide +kernel
theorem dX12_sizeOf_1 : decode cX12_sizeOf 1 = .ok (.lconst 0, 1) := by decide +kernel
theorem dX12_sizeOf_2 : decode cX12_sizeOf 2 = .ok (.lcmp, 1) := by decide +kernel
theorem dX12_sizeOf_3 : decode cX12_sizeOf 3 = .ok (.ifCond .ge 8, 3) := by decide +kernel
theorem dX12_sizeOf_6 : decode cX12_sizeOf 6 = .ok (.lload_n 0, 1) := by decide +kernel
theorem dX12_sizeOf_7 : decode cX12_sizeOf 7 = .ok (.lneg, 1) := by decide +kernel
theorem dX12_sizeOf_8 : decode cX12_sizeOf 8 = .ok (.goto 4, 3) := by decide +kernel
theorem dX12_sizeOf_11 : decode cX12_sizeOf 11 = .ok (.lload_n 0, 1) := by decide +kernel
theorem dX12_sizeOf_12 : decode cX12_sizeOf 12 = .ok (.lreturn, 1) := by decide +kernel
theorem dX12_isTable_0 : decode cX12_isTable 0 = .ok (.iload_n 1, 1) := by decide +kernel
theorem dX12_isTable_1 : decode cX12_isTable 1 = .ok (.ifCond .lt 15, 3) := by decide +kernel
theorem dX12_isTable_4 : decode cX12_isTable 4 = .ok (.iload_n 1, 1) := by decide +kernel
theorem dX12_isTable_5 : decode cX12_isTable 5 = .ok (.aload_n 0, 1) := by decide +kernel
theorem dX12_isTable_6 : decode cX12_isTable 6 = .ok (.getfield 81, 3) := by decide +kernel
theorem dX12_isTable_9 : decode cX12_isTable 9 = .ok (.if_icmp .ge 7, 3) := by decide +kernel
theorem dX12_isTable_12 : decode cX12_isTable 12 = .ok (.iconst 1, 1) := by decide +kernel
theorem dX12_isTable_13 : decode cX12_isTable 13 = .ok (.goto 4, 3) := by decide +kernel
theorem dX12_isTable_16 : decode cX12_isTable 16 = .ok (.iconst 0, 1) := by decide +kernel
theorem dX12_isTable_17 : decode cX12_isTable 17 = .ok (.ireturn, 1) := by decide +kernel
theorem dX12_isPlace_0 : decode cX12_isPlace 0 = .ok (.iload_n 1, 1) := by decide +kernel
theorem dX12_isPlace_1 : decode cX12_isPlace 1 = .ok (.i2l, 1) := by decide +kernel
theorem dX12_isPlace_2 : decode cX12_isPlace 2 = .ok (.lconst 0, 1) := by decide +kernel
theorem dX12_isPlace_3 : decode cX12_isPlace 3 = .ok (.aload_n 0, 1) := by decide +kernel
theorem dX12_isPlace_4 : decode cX12_isPlace 4 = .ok (.getfield 7, 3) := by decide +kernel
theorem dX12_isPlace_7 : decode cX12_isPlace 7 = .ok (.i2l, 1) := by decide +kernel
theorem dX12_isPlace_8 : decode cX12_isPlace 8 = .ok (.lconst 1, 1) := by decide +kernel
theorem dX12_isPlace_9 : decode cX12_isPlace 9 = .ok (.lsub, 1) := by decide +kernel
theorem dX12_isPlace_10 : decode cX12_isPlace 10 = .ok (.invokestatic 84, 3) := by decide +kernel
theorem dX12_isPlace_13 : decode cX12_isPlace 13 = .ok (.ifCond .eq 23, 3) := by decide +kernel
theorem dX12_isPlace_16 : decode cX12_isPlace 16 = .ok (.iload_n 2, 1) := by decide +kernel
theorem dX12_isPlace_17 : decode cX12_isPlace 17 = .ok (.i2l, 1) := by decide +kernel
theorem dX12_isPlace_18 : decode cX12_isPlace 18 = .ok (.lconst 0, 1) := by decide +kernel
theorem dX12_isPlace_19 : decode cX12_isPlace 19 = .ok (.aload_n 0, 1) := by decide +kernel
theorem dX12_isPlace_20 : decode cX12_isPlace 20 = .ok (.getfield 7, 3) := by decide +kernel
theorem dX12_isPlace_23 : decode cX12_isPlace 23 = .ok (.i2l, 1) := by decide +kernel
theorem dX12_isPlace_24 : decode cX12_isPlace 24 = .ok (.lconst 1, 1) := by decide +kernel
theorem dX12_isPlace_25 : decode cX12_isPlace 25 = .ok (.lsub, 1) := by decide +kernel
theorem dX12_isPlace_26 : decode cX12_isPlace 26 = .ok (.invokestatic 84, 3) := by decide +kernel
theorem dX12_isPlace_29 : decode cX12_isPlace 29 = .ok (.ifCond .eq 7, 3) := by decide +kernel
theorem dX12_isPlace_32 : decode cX12_isPlace 32 = .ok (.iconst 1, 1) := by decide +kernel
theorem dX12_isPlace_33 : decode cX12_isPlace 33 = .ok (.goto 4, 3) := by decide +kernel
theorem dX12_isPlace_36 : decode cX12_isPlace 36 = .ok (.iconst 0, 1) := by decide +kernel
theorem dX12_isPlace_37 : decode cX12_isPlace 37 = .ok (.ireturn, 1) := by decide +kernel
theorem dX12_begin_0 : decode cX12_begin 0 = .ok (.iload_n 1, 1) := by decide +kernel
theorem dX12_begin_1 : decode cX12_begin 1 = .ok (.i2l, 1) := by decide +kernel
theorem dX12_begin_2 : decode cX12_begin 2 = .ok (.ldc2_w 88, 3) := by decide +kernel
theorem dX12_begin_5 : decode cX12_begin 5 = .ok (.ldc2_w 90, 3) := by decide +kernel
theorem dX12_begin_8 : decode cX12_begin 8 = .ok (.invokestatic 84, 3) := by decide +kernel
theorem dX12_begin_11 : decode cX12_begin 11 = .ok (.ifCond .eq 21, 3) := by decide +kernel
theorem dX12_begin_14 : decode cX12_begin 14 = .ok (.iload_n 2, 1) := by decide +kernel
theorem dX12_begin_15 : decode cX12_begin 15 = .ok (.ifCond .eq 20, 3) := by decide +kernel
theorem dX12_begin_18 : decode cX12_begin 18 = .ok (.iload_n 2, 1) := by decide +kernel
theorem dX12_begin_19 : decode cX12_begin 19 = .ok (.i2l, 1) := by decide +kernel
theorem dX12_begin_20 : decode cX12_begin 20 = .ok (.ldc2_w 88, 3) := by decide +kernel
theorem dX12_begin_23 : decode cX12_begin 23 = .ok (.ldc2_w 92, 3) := by decide +kernel
theorem dX12_begin_26 : decode cX12_begin 26 = .ok (.invokestatic 84, 3) := by decide +kernel
theorem dX12_begin_29 : decode cX12_begin 29 = .ok (.ifCond .ne 6, 3) := by decide +kernel
theorem dX12_begin_32 : decode cX12_begin 32 = .ok (.bipush (-2), 2) := by decide +kernel
theorem dX12_begin_34 : decode cX12_begin 34 = .ok (.ireturn, 1) := by decide +kernel
theorem dX12_begin_35 : decode cX12_begin 35 = .ok (.aload_n 0, 1) := by decide +kernel
theorem dX12_begin_36 : decode cX12_begin 36 = .ok (.iload_n 1, 1) := by decide +kernel
theorem dX12_begin_37 : decode cX12_begin 37 = .ok (.putfield 7, 3) := by decide +kernel
theorem dX12_begin_40 : decode cX12_begin 40 = .ok (.aload_n 0, 1) := by decide +kernel
theorem dX12_begin_41 : decode cX12_begin 41 = .ok (.iload_n 2, 1) := by decide +kernel
theorem dX12_begin_42 : decode cX12_begin 42 = .ok (.putfield 94, 3) := by decide +kernel
theorem dX12_begin_45 : decode cX12_begin 45 = .ok (.aload_n 0, 1) := by decide +kernel
theorem dX12_begin_46 : decode cX12_begin 46 = .ok (.iconst 0, 1) := by decide +kernel
theorem dX12_begin_47 : decode cX12_begin 47 = .ok (.putfield 81, 3) := by decide +kernel
theorem dX12_begin_50 : decode cX12_begin 50 = .ok (.aload_n 0, 1) := by decide +kernel
theorem dX12_begin_51 : decode cX12_begin 51 = .ok (.iconst 0, 1) := by decide +kernel
theorem dX12_begin_52 : decode cX12_begin 52 = .ok (.putfield 97, 3) := by decide +kernel
theorem dX12_begin_55 : decode cX12_begin 55 = .ok (.aload_n 0, 1) := by decide +kernel
theorem dX12_begin_56 : decode cX12_begin 56 = .ok (.bipush (-9), 2) := by decide +kernel
theorem dX12_begin_58 : decode cX12_begin 58 = .ok (.putfield 55, 3) := by decide +kernel
theorem dX12_begin_61 : decode cX12_begin 61 = .ok (.iconst 0, 1) := by decide +kernel
theorem dX12_begin_62 : decode cX12_begin 62 = .ok (.istore_n 3, 1) := by decide +kernel
theorem dX12_begin_63 : decode cX12_begin 63 = .ok (.iload_n 3, 1) := by decide +kernel
theorem dX12_begin_64 : decode cX12_begin 64 = .ok (.bipush 36, 2) := by decide +kernel
theorem dX12_begin_66 : decode cX12_begin 66 = .ok (.if_icmp .ge 16, 3) := by decide +kernel
theorem dX12_begin_69 : decode cX12_begin 69 = .ok (.aload_n 0, 1) := by decide +kernel
theorem dX12_begin_70 : decode cX12_begin 70 = .ok (.getfield 17, 3) := by decide +kernel
theorem dX12_begin_73 : decode cX12_begin 73 = .ok (.iload_n 3, 1) := by decide +kernel
theorem dX12_begin_74 : decode cX12_begin 74 = .ok (.iconst 0, 1) := by decide +kernel
theorem dX12_begin_75 : decode cX12_begin 75 = .ok (.bastore, 1) := by decide +kernel
theorem dX12_begin_76 : decode cX12_begin 76 = .ok (.iinc 3 1, 3) := by decide +kernel
theorem dX12_begin_79 : decode cX12_begin 79 = .ok (.goto (-16), 3) := by decide +kernel
theorem dX12_begin_82 : decode cX12_begin 82 = .ok (.iconst 1, 1) := by decide +kernel
theorem dX12_begin_83 : decode cX12_begin 83 = .ok (.ireturn, 1) := by decide +kernel
theorem dX12_against_0 : decode cX12_against 0 = .ok (.iload_n 1, 1) := by decide +kernel
theorem dX12_against_1 : decode cX12_against 1 = .ok (.i2l, 1) := by decide +kernel
theorem dX12_against_2 : decode cX12_against 2 = .ok (.lconst 0, 1) := by decide +kernel
theorem dX12_against_3 : decode cX12_against 3 = .ok (.ldc2_w 90, 3) := by decide +kernel
theorem dX12_against_6 : decode cX12_against 6 = .ok (.invokestatic 84, 3) := by decide +kernel
theorem dX12_against_9 : decode cX12_against 9 = .ok (.ifCond .ne 5, 3) := by decide +kernel
theorem dX12_against_12 : decode cX12_against 12 = .ok (.iconst (-1), 1) := by decide +kernel
theorem dX12_against_13 : decode cX12_against 13 = .ok (.ireturn, 1) := by decide +kernel
theorem dX12_against_14 : decode cX12_against 14 = .ok (.iload_n 2, 1) := by decide +kernel
theorem dX12_against_15 : decode cX12_against 15 = .ok (.i2l, 1) := by decide +kernel
theorem dX12_against_16 : decode cX12_against 16 = .ok (.lconst 0, 1) := by decide +kernel
theorem dX12_against_17 : decode cX12_against 17 = .ok (.ldc2_w 88, 3) := by decide +kernel
theorem dX12_against_20 : decode cX12_against 20 = .ok (.invokestatic 84, 3) := by decide +kernel
theorem dX12_against_23 : decode cX12_against 23 = .ok (.ifCond .ne 6, 3) := by decide +kernel
theorem dX12_against_26 : decode cX12_against 26 = .ok (.bipush (-2), 2) := by decide +kernel
theorem dX12_against_28 : decode cX12_against 28 = .ok (.ireturn, 1) := by decide +kernel
theorem dX12_against_29 : decode cX12_against 29 = .ok (.aload_n 0, 1) := by decide +kernel
theorem dX12_against_30 : decode cX12_against 30 = .ok (.getfield 21, 3) := by decide +kernel
theorem dX12_against_33 : decode cX12_against 33 = .ok (.iload_n 1, 1) := by decide +kernel
theorem dX12_against_34 : decode cX12_against 34 = .ok (.iaload, 1) := by decide +kernel
theorem dX12_against_35 : decode cX12_against 35 = .ok (.bipush (-9), 2) := by decide +kernel
theorem dX12_against_37 : decode cX12_against 37 = .ok (.if_icmp .eq 19, 3) := by decide +kernel
theorem dX12_against_40 : decode cX12_against 40 = .ok (.aload_n 0, 1) := by decide +kernel
theorem dX12_against_41 : decode cX12_against 41 = .ok (.getfield 21, 3) := by decide +kernel
theorem dX12_against_44 : decode cX12_against 44 = .ok (.iload_n 1, 1) := by decide +kernel
theorem dX12_against_45 : decode cX12_against 45 = .ok (.iaload, 1) := by decide +kernel
theorem dX12_against_46 : decode cX12_against 46 = .ok (.iload_n 2, 1) := by decide +kernel
theorem dX12_against_47 : decode cX12_against 47 = .ok (.if_icmp .eq 9, 3) := by decide +kernel
theorem dX12_against_50 : decode cX12_against 50 = .ok (.aload_n 0, 1) := by decide +kernel
theorem dX12_against_51 : decode cX12_against 51 = .ok (.iconst 2, 1) := by decide +kernel
theorem dX12_against_52 : decode cX12_against 52 = .ok (.invokevirtual 100, 3) := by decide +kernel
theorem dX12_against_55 : decode cX12_against 55 = .ok (.ireturn, 1) := by decide +kernel
theorem dX12_against_56 : decode cX12_against 56 = .ok (.aload_n 0, 1) := by decide +kernel
theorem dX12_against_57 : decode cX12_against 57 = .ok (.getfield 21, 3) := by decide +kernel
theorem dX12_against_60 : decode cX12_against 60 = .ok (.iload_n 1, 1) := by decide +kernel
theorem dX12_against_61 : decode cX12_against 61 = .ok (.iaload, 1) := by decide +kernel
theorem dX12_against_62 : decode cX12_against 62 = .ok (.bipush (-9), 2) := by decide +kernel
theorem dX12_against_64 : decode cX12_against 64 = .ok (.if_icmp .ne 11, 3) := by decide +kernel
theorem dX12_against_67 : decode cX12_against 67 = .ok (.aload_n 0, 1) := by decide +kernel
theorem dX12_against_68 : decode cX12_against 68 = .ok (.iconst 1, 1) := by decide +kernel
theorem dX12_against_69 : decode cX12_against 69 = .ok (.invokevirtual 100, 3) := by decide +kernel
theorem dX12_against_72 : decode cX12_against 72 = .ok (.goto 4, 3) := by decide +kernel
theorem dX12_against_75 : decode cX12_against 75 = .ok (.iconst 0, 1) := by decide +kernel
theorem dX12_against_76 : decode cX12_against 76 = .ok (.ireturn, 1) := by decide +kernel
theorem dX12_table_0 : decode cX12_table 0 = .ok (.aload_n 0, 1) := by decide +kernel
theorem dX12_table_1 : decode cX12_table 1 = .ok (.iconst 0, 1) := by decide +kernel
theorem dX12_table_2 : decode cX12_table 2 = .ok (.putfield 76, 3) := by decide +kernel
theorem dX12_table_5 : decode cX12_table 5 = .ok (.aload_n 0, 1) := by decide +kernel
theorem dX12_table_6 : decode cX12_table 6 = .ok (.iload_n 1, 1) := by decide +kernel
theorem dX12_table_7 : decode cX12_table 7 = .ok (.iload_n 2, 1) := by decide +kernel
theorem dX12_table_8 : decode cX12_table 8 = .ok (.invokevirtual 104, 3) := by decide +kernel
theorem dX12_table_11 : decode cX12_table 11 = .ok (.istore 4, 2) := by decide +kernel
theorem dX12_table_13 : decode cX12_table 13 = .ok (.iload 4, 2) := by decide +kernel
theorem dX12_table_15 : decode cX12_table 15 = .ok (.ifCond .eq 6, 3) := by decide +kernel
theorem dX12_table_18 : decode cX12_table 18 = .ok (.iload 4, 2) := by decide +kernel
theorem dX12_table_20 : decode cX12_table 20 = .ok (.ireturn, 1) := by decide +kernel
theorem dX12_table_21 : decode cX12_table 21 = .ok (.iload_n 3, 1) := by decide +kernel
theorem dX12_table_22 : decode cX12_table 22 = .ok (.ifCond .lt 23, 3) := by decide +kernel
theorem dX12_table_25 : decode cX12_table 25 = .ok (.iload_n 3, 1) := by decide +kernel
theorem dX12_table_26 : decode cX12_table 26 = .ok (.aload_n 0, 1) := by decide +kernel
theorem dX12_table_27 : decode cX12_table 27 = .ok (.getfield 24, 3) := by decide +kernel
theorem dX12_table_30 : decode cX12_table 30 = .ok (.iload_n 1, 1) := by decide +kernel
theorem dX12_table_31 : decode cX12_table 31 = .ok (.iaload, 1) := by decide +kernel
theorem dX12_table_32 : decode cX12_table 32 = .ok (.aload_n 0, 1) := by decide +kernel
theorem dX12_table_33 : decode cX12_table 33 = .ok (.getfield 7, 3) := by decide +kernel
theorem dX12_table_36 : decode cX12_table 36 = .ok (.aload_n 0, 1) := by decide +kernel
theorem dX12_table_37 : decode cX12_table 37 = .ok (.getfield 7, 3) := by decide +kernel
theorem dX12_table_40 : decode cX12_table 40 = .ok (.imul, 1) := by decide +kernel
theorem dX12_table_41 : decode cX12_table 41 = .ok (.isub, 1) := by decide +kernel
theorem dX12_table_42 : decode cX12_table 42 = .ok (.if_icmp .le 9, 3) := by decide +kernel
theorem dX12_table_45 : decode cX12_table 45 = .ok (.aload_n 0, 1) := by decide +kernel
theorem dX12_table_46 : decode cX12_table 46 = .ok (.iconst 3, 1) := by decide +kernel
theorem dX12_table_47 : decode cX12_table 47 = .ok (.invokevirtual 100, 3) := by decide +kernel
theorem dX12_table_50 : decode cX12_table 50 = .ok (.ireturn, 1) := by decide +kernel
theorem dX12_table_51 : decode cX12_table 51 = .ok (.iconst 0, 1) := by decide +kernel
theorem dX12_table_52 : decode cX12_table 52 = .ok (.istore 5, 2) := by decide +kernel
theorem dX12_table_54 : decode cX12_table 54 = .ok (.iload 5, 2) := by decide +kernel
theorem dX12_table_56 : decode cX12_table 56 = .ok (.aload_n 0, 1) := by decide +kernel
theorem dX12_table_57 : decode cX12_table 57 = .ok (.getfield 7, 3) := by decide +kernel
theorem dX12_table_60 : decode cX12_table 60 = .ok (.aload_n 0, 1) := by decide +kernel
theorem dX12_table_61 : decode cX12_table 61 = .ok (.getfield 7, 3) := by decide +kernel
theorem dX12_table_64 : decode cX12_table 64 = .ok (.imul, 1) := by decide +kernel
theorem dX12_table_65 : decode cX12_table 65 = .ok (.if_icmp .ge 39, 3) := by decide +kernel
theorem dX12_table_68 : decode cX12_table 68 = .ok (.aload_n 0, 1) := by decide +kernel
theorem dX12_table_69 : decode cX12_table 69 = .ok (.getfield 27, 3) := by decide +kernel
theorem dX12_table_72 : decode cX12_table 72 = .ok (.bipush 40, 2) := by decide +kernel
theorem dX12_table_74 : decode cX12_table 74 = .ok (.iload_n 1, 1) := by decide +kernel
theorem dX12_table_75 : decode cX12_table 75 = .ok (.imul, 1) := by decide +kernel
theorem dX12_table_76 : decode cX12_table 76 = .ok (.iload_n 3, 1) := by decide +kernel
theorem dX12_table_77 : decode cX12_table 77 = .ok (.iadd, 1) := by decide +kernel
theorem dX12_table_78 : decode cX12_table 78 = .ok (.iload 5, 2) := by decide +kernel
theorem dX12_table_80 : decode cX12_table 80 = .ok (.iadd, 1) := by decide +kernel
theorem dX12_table_81 : decode cX12_table 81 = .ok (.iaload, 1) := by decide +kernel
theorem dX12_table_82 : decode cX12_table 82 = .ok (.i2l, 1) := by decide +kernel
theorem dX12_table_83 : decode cX12_table 83 = .ok (.ldc2_w 108, 3) := by decide +kernel
theorem dX12_table_86 : decode cX12_table 86 = .ok (.ldc2_w 110, 3) := by decide +kernel
theorem dX12_table_89 : decode cX12_table 89 = .ok (.invokestatic 84, 3) := by decide +kernel
theorem dX12_table_92 : decode cX12_table 92 = .ok (.ifCond .ne 6, 3) := by decide +kernel
theorem dX12_table_95 : decode cX12_table 95 = .ok (.bipush (-2), 2) := by decide +kernel
theorem dX12_table_97 : decode cX12_table 97 = .ok (.ireturn, 1) := by decide +kernel
theorem dX12_table_98 : decode cX12_table 98 = .ok (.iinc 5 1, 3) := by decide +kernel
theorem dX12_table_101 : decode cX12_table 101 = .ok (.goto (-47), 3) := by decide +kernel
theorem dX12_table_104 : decode cX12_table 104 = .ok (.aload_n 0, 1) := by decide +kernel
theorem dX12_table_105 : decode cX12_table 105 = .ok (.getfield 81, 3) := by decide +kernel
theorem dX12_table_108 : decode cX12_table 108 = .ok (.bipush 6, 2) := by decide +kernel
theorem dX12_table_110 : decode cX12_table 110 = .ok (.if_icmp .ne 6, 3) := by decide +kernel
theorem dX12_table_113 : decode cX12_table 113 = .ok (.bipush (-4), 2) := by decide +kernel
theorem dX12_table_115 : decode cX12_table 115 = .ok (.ireturn, 1) := by decide +kernel
theorem dX12_table_116 : decode cX12_table 116 = .ok (.iconst 0, 1) := by decide +kernel
theorem dX12_table_117 : decode cX12_table 117 = .ok (.istore 5, 2) := by decide +kernel
theorem dX12_table_119 : decode cX12_table 119 = .ok (.iload 5, 2) := by decide +kernel
theorem dX12_table_121 : decode cX12_table 121 = .ok (.aload_n 0, 1) := by decide +kernel
theorem dX12_table_122 : decode cX12_table 122 = .ok (.getfield 7, 3) := by decide +kernel
theorem dX12_table_125 : decode cX12_table 125 = .ok (.aload_n 0, 1) := by decide +kernel
theorem dX12_table_126 : decode cX12_table 126 = .ok (.getfield 7, 3) := by decide +kernel
theorem dX12_table_129 : decode cX12_table 129 = .ok (.imul, 1) := by decide +kernel
theorem dX12_table_130 : decode cX12_table 130 = .ok (.if_icmp .ge 38, 3) := by decide +kernel
theorem dX12_table_133 : decode cX12_table 133 = .ok (.aload_n 0, 1) := by decide +kernel
theorem dX12_table_134 : decode cX12_table 134 = .ok (.getfield 13, 3) := by decide +kernel
theorem dX12_table_137 : decode cX12_table 137 = .ok (.bipush 9, 2) := by decide +kernel
theorem dX12_table_139 : decode cX12_table 139 = .ok (.aload_n 0, 1) := by decide +kernel
theorem dX12_table_140 : decode cX12_table 140 = .ok (.getfield 81, 3) := by decide +kernel
theorem dX12_table_143 : decode cX12_table 143 = .ok (.imul, 1) := by decide +kernel
theorem dX12_table_144 : decode cX12_table 144 = .ok (.iload 5, 2) := by decide +kernel
theorem dX12_table_146 : decode cX12_table 146 = .ok (.iadd, 1) := by decide +kernel
theorem dX12_table_147 : decode cX12_table 147 = .ok (.aload_n 0, 1) := by decide +kernel
theorem dX12_table_148 : decode cX12_table 148 = .ok (.getfield 27, 3) := by decide +kernel
theorem dX12_table_151 : decode cX12_table 151 = .ok (.bipush 40, 2) := by decide +kernel
theorem dX12_table_153 : decode cX12_table 153 = .ok (.iload_n 1, 1) := by decide +kernel
theorem dX12_table_154 : decode cX12_table 154 = .ok (.imul, 1) := by decide +kernel
theorem dX12_table_155 : decode cX12_table 155 = .ok (.iload_n 3, 1) := by decide +kernel
theorem dX12_table_156 : decode cX12_table 156 = .ok (.iadd, 1) := by decide +kernel
theorem dX12_table_157 : decode cX12_table 157 = .ok (.iload 5, 2) := by decide +kernel
theorem dX12_table_159 : decode cX12_table 159 = .ok (.iadd, 1) := by decide +kernel
theorem dX12_table_160 : decode cX12_table 160 = .ok (.iaload, 1) := by decide +kernel
theorem dX12_table_161 : decode cX12_table 161 = .ok (.iastore, 1) := by decide +kernel
theorem dX12_table_162 : decode cX12_table 162 = .ok (.iinc 5 1, 3) := by decide +kernel
theorem dX12_table_165 : decode cX12_table 165 = .ok (.goto (-46), 3) := by decide +kernel
theorem dX12_table_168 : decode cX12_table 168 = .ok (.aload_n 0, 1) := by decide +kernel
theorem dX12_table_169 : decode cX12_table 169 = .ok (.bipush (-9), 2) := by decide +kernel
theorem dX12_table_171 : decode cX12_table 171 = .ok (.putfield 55, 3) := by decide +kernel
theorem dX12_table_174 : decode cX12_table 174 = .ok (.aload_n 0, 1) := by decide +kernel
theorem dX12_table_175 : decode cX12_table 175 = .ok (.dup, 1) := by decide +kernel
theorem dX12_table_176 : decode cX12_table 176 = .ok (.getfield 81, 3) := by decide +kernel
theorem dX12_table_179 : decode cX12_table 179 = .ok (.iconst 1, 1) := by decide +kernel
theorem dX12_table_180 : decode cX12_table 180 = .ok (.iadd, 1) := by decide +kernel
theorem dX12_table_181 : decode cX12_table 181 = .ok (.putfield 81, 3) := by decide +kernel
theorem dX12_table_184 : decode cX12_table 184 = .ok (.aload_n 0, 1) := by decide +kernel
theorem dX12_table_185 : decode cX12_table 185 = .ok (.getfield 81, 3) := by decide +kernel
theorem dX12_table_188 : decode cX12_table 188 = .ok (.iconst 1, 1) := by decide +kernel
theorem dX12_table_189 : decode cX12_table 189 = .ok (.isub, 1) := by decide +kernel
theorem dX12_table_190 : decode cX12_table 190 = .ok (.ireturn, 1) := by decide +kernel
theorem dX12_entry_0 : decode cX12_entry 0 = .ok (.aload_n 0, 1) := by decide +kernel
theorem dX12_entry_1 : decode cX12_entry 1 = .ok (.iload_n 1, 1) := by decide +kernel
theorem dX12_entry_2 : decode cX12_entry 2 = .ok (.invokevirtual 112, 3) := by decide +kernel
theorem dX12_entry_5 : decode cX12_entry 5 = .ok (.ifCond .eq 34, 3) := by decide +kernel
theorem dX12_entry_8 : decode cX12_entry 8 = .ok (.aload_n 0, 1) := by decide +kernel
theorem dX12_entry_9 : decode cX12_entry 9 = .ok (.iload_n 2, 1) := by decide +kernel
theorem dX12_entry_10 : decode cX12_entry 10 = .ok (.iload_n 3, 1) := by decide +kernel
theorem dX12_entry_11 : decode cX12_entry 11 = .ok (.invokevirtual 116, 3) := by decide +kernel
theorem dX12_entry_14 : decode cX12_entry 14 = .ok (.ifCond .eq 25, 3) := by decide +kernel
theorem dX12_entry_17 : decode cX12_entry 17 = .ok (.aload_n 0, 1) := by decide +kernel
theorem dX12_entry_18 : decode cX12_entry 18 = .ok (.getfield 13, 3) := by decide +kernel
theorem dX12_entry_21 : decode cX12_entry 21 = .ok (.bipush 9, 2) := by decide +kernel
theorem dX12_entry_23 : decode cX12_entry 23 = .ok (.iload_n 1, 1) := by decide +kernel
theorem dX12_entry_24 : decode cX12_entry 24 = .ok (.imul, 1) := by decide +kernel
theorem dX12_entry_25 : decode cX12_entry 25 = .ok (.aload_n 0, 1) := by decide +kernel
theorem dX12_entry_26 : decode cX12_entry 26 = .ok (.getfield 7, 3) := by decide +kernel
theorem dX12_entry_29 : decode cX12_entry 29 = .ok (.iload_n 2, 1) := by decide +kernel
theorem dX12_entry_30 : decode cX12_entry 30 = .ok (.imul, 1) := by decide +kernel
theorem dX12_entry_31 : decode cX12_entry 31 = .ok (.iadd, 1) := by decide +kernel
theorem dX12_entry_32 : decode cX12_entry 32 = .ok (.iload_n 3, 1) := by decide +kernel
theorem dX12_entry_33 : decode cX12_entry 33 = .ok (.iadd, 1) := by decide +kernel
theorem dX12_entry_34 : decode cX12_entry 34 = .ok (.iaload, 1) := by decide +kernel
theorem dX12_entry_35 : decode cX12_entry 35 = .ok (.i2l, 1) := by decide +kernel
theorem dX12_entry_36 : decode cX12_entry 36 = .ok (.goto 6, 3) := by decide +kernel
theorem dX12_entry_39 : decode cX12_entry 39 = .ok (.ldc2_w 79, 3) := by decide +kernel
theorem dX12_entry_42 : decode cX12_entry 42 = .ok (.lreturn, 1) := by decide +kernel
theorem dX12_may_0 : decode cX12_may 0 = .ok (.aload_n 0, 1) := by decide +kernel
theorem dX12_may_1 : decode cX12_may 1 = .ok (.iload_n 1, 1) := by decide +kernel
theorem dX12_may_2 : decode cX12_may 2 = .ok (.invokevirtual 112, 3) := by decide +kernel
theorem dX12_may_5 : decode cX12_may 5 = .ok (.ifCond .eq 11, 3) := by decide +kernel
theorem dX12_may_8 : decode cX12_may 8 = .ok (.aload_n 0, 1) := by decide +kernel
theorem dX12_may_9 : decode cX12_may 9 = .ok (.iload_n 2, 1) := by decide +kernel
theorem dX12_may_10 : decode cX12_may 10 = .ok (.invokevirtual 112, 3) := by decide +kernel
theorem dX12_may_13 : decode cX12_may 13 = .ok (.ifCond .ne 5, 3) := by decide +kernel
theorem dX12_may_16 : decode cX12_may 16 = .ok (.iconst (-1), 1) := by decide +kernel

theorem dX12_next_78 : decode cX12_next 78 = .ok (.getfield 135, 3) := by decide +kernel
theorem dX12_next_81 : decode cX12_next 81 = .ok (.iaload, 1) := by decide +kernel
theorem dX12_next_82 : decode cX12_next 82 = .ok (.invokevirtual 127, 3) := by decide +kernel
theorem dX12_next_85 : decode cX12_next 85 = .ok (.ifCond .ne 19, 3) := by decide +kernel
theorem dX12_next_88 : decode cX12_next 88 = .ok (.aload_n 0, 1) := by decide +kernel
theorem dX12_next_89 : decode cX12_next 89 = .ok (.getfield 34, 3) := by decide +kernel
theorem dX12_next_92 : decode cX12_next 92 = .ok (.aload_n 0, 1) := by decide +kernel
theorem dX12_next_93 : decode cX12_next 93 = .ok (.getfield 135, 3) := by decide +kernel
theorem dX12_next_96 : decode cX12_next 96 = .ok (.dup2, 1) := by decide +kernel
theorem dX12_next_97 : decode cX12_next 97 = .ok (.iaload, 1) := by decide +kernel
theorem dX12_next_98 : decode cX12_next 98 = .ok (.iconst 1, 1) := by decide +kernel
theorem dX12_next_99 : decode cX12_next 99 = .ok (.iadd, 1) := by decide +kernel
theorem dX12_next_100 : decode cX12_next 100 = .ok (.iastore, 1) := by decide +kernel
theorem dX12_next_101 : decode cX12_next 101 = .ok (.goto (-63), 3) := by decide +kernel
theorem dX12_next_104 : decode cX12_next 104 = .ok (.aload_n 0, 1) := by decide +kernel
theorem dX12_next_105 : decode cX12_next 105 = .ok (.getfield 34, 3) := by decide +kernel
theorem dX12_next_108 : decode cX12_next 108 = .ok (.aload_n 0, 1) := by decide +kernel
theorem dX12_next_109 : decode cX12_next 109 = .ok (.getfield 135, 3) := by decide +kernel
theorem dX12_next_112 : decode cX12_next 112 = .ok (.iaload, 1) := by decide +kernel
theorem dX12_next_113 : decode cX12_next 113 = .ok (.aload_n 0, 1) := by decide +kernel
theorem dX12_next_114 : decode cX12_next 114 = .ok (.getfield 81, 3) := by decide +kernel
theorem dX12_next_117 : decode cX12_next 117 = .ok (.if_icmp .lt 16, 3) := by decide +kernel
theorem dX12_next_120 : decode cX12_next 120 = .ok (.aload_n 0, 1) := by decide +kernel
theorem dX12_next_121 : decode cX12_next 121 = .ok (.dup, 1) := by decide +kernel
theorem dX12_next_122 : decode cX12_next 122 = .ok (.getfield 135, 3) := by decide +kernel
theorem dX12_next_125 : decode cX12_next 125 = .ok (.iconst 1, 1) := by decide +kernel
theorem dX12_next_126 : decode cX12_next 126 = .ok (.isub, 1) := by decide +kernel
theorem dX12_next_127 : decode cX12_next 127 = .ok (.putfield 135, 3) := by decide +kernel
theorem dX12_next_130 : decode cX12_next 130 = .ok (.goto (-112), 3) := by decide +kernel
theorem dX12_next_133 : decode cX12_next 133 = .ok (.aload_n 0, 1) := by decide +kernel
theorem dX12_next_134 : decode cX12_next 134 = .ok (.aload_n 0, 1) := by decide +kernel
theorem dX12_next_135 : decode cX12_next 135 = .ok (.getfield 135, 3) := by decide +kernel
theorem dX12_next_138 : decode cX12_next 138 = .ok (.aload_n 0, 1) := by decide +kernel
theorem dX12_next_139 : decode cX12_next 139 = .ok (.getfield 34, 3) := by decide +kernel
theorem dX12_next_142 : decode cX12_next 142 = .ok (.aload_n 0, 1) := by decide +kernel
theorem dX12_next_143 : decode cX12_next 143 = .ok (.getfield 135, 3) := by decide +kernel
theorem dX12_next_146 : decode cX12_next 146 = .ok (.iaload, 1) := by decide +kernel
theorem dX12_next_147 : decode cX12_next 147 = .ok (.invokevirtual 138, 3) := by decide +kernel
theorem dX12_next_150 : decode cX12_next 150 = .ok (.aload_n 0, 1) := by decide +kernel
theorem dX12_next_151 : decode cX12_next 151 = .ok (.dup, 1) := by decide +kernel
theorem dX12_next_152 : decode cX12_next 152 = .ok (.getfield 135, 3) := by decide +kernel
theorem dX12_next_155 : decode cX12_next 155 = .ok (.iconst 1, 1) := by decide +kernel
theorem dX12_next_156 : decode cX12_next 156 = .ok (.iadd, 1) := by decide +kernel
theorem dX12_next_157 : decode cX12_next 157 = .ok (.putfield 135, 3) := by decide +kernel
theorem dX12_next_160 : decode cX12_next 160 = .ok (.aload_n 0, 1) := by decide +kernel
theorem dX12_next_161 : decode cX12_next 161 = .ok (.getfield 135, 3) := by decide +kernel
theorem dX12_next_164 : decode cX12_next 164 = .ok (.iload_n 1, 1) := by decide +kernel
theorem dX12_next_165 : decode cX12_next 165 = .ok (.if_icmp .ne 5, 3) := by decide +kernel
theorem dX12_next_168 : decode cX12_next 168 = .ok (.iconst 1, 1) := by decide +kernel
theorem dX12_next_169 : decode cX12_next 169 = .ok (.ireturn, 1) := by decide +kernel
theorem dX12_next_170 : decode cX12_next 170 = .ok (.aload_n 0, 1) := by decide +kernel
theorem dX12_next_171 : decode cX12_next 171 = .ok (.getfield 34, 3) := by decide +kernel
theorem dX12_next_174 : decode cX12_next 174 = .ok (.aload_n 0, 1) := by decide +kernel
theorem dX12_next_175 : decode cX12_next 175 = .ok (.getfield 135, 3) := by decide +kernel
theorem dX12_next_178 : decode cX12_next 178 = .ok (.iconst (-1), 1) := by decide +kernel
theorem dX12_next_179 : decode cX12_next 179 = .ok (.iastore, 1) := by decide +kernel
theorem dX12_next_180 : decode cX12_next 180 = .ok (.goto (-162), 3) := by decide +kernel
theorem dX12_next_183 : decode cX12_next 183 = .ok (.iconst 0, 1) := by decide +kernel
theorem dX12_next_184 : decode cX12_next 184 = .ok (.ireturn, 1) := by decide +kernel
theorem dX12_goThrough_0 : decode cX12_goThrough 0 = .ok (.aload_n 0, 1) := by decide +kernel
theorem dX12_goThrough_1 : decode cX12_goThrough 1 = .ok (.lconst 0, 1) := by decide +kernel
theorem dX12_goThrough_2 : decode cX12_goThrough 2 = .ok (.putfield 142, 3) := by decide +kernel
theorem dX12_goThrough_5 : decode cX12_goThrough 5 = .ok (.aload_n 0, 1) := by decide +kernel
theorem dX12_goThrough_6 : decode cX12_goThrough 6 = .ok (.ldc2_w 79, 3) := by decide +kernel
theorem dX12_goThrough_9 : decode cX12_goThrough 9 = .ok (.putfield 146, 3) := by decide +kernel
theorem dX12_goThrough_12 : decode cX12_goThrough 12 = .ok (.aload_n 0, 1) := by decide +kernel
theorem dX12_goThrough_13 : decode cX12_goThrough 13 = .ok (.ldc2_w 79, 3) := by decide +kernel
theorem dX12_goThrough_16 : decode cX12_goThrough 16 = .ok (.putfield 149, 3) := by decide +kernel
theorem dX12_goThrough_19 : decode cX12_goThrough 19 = .ok (.aload_n 0, 1) := by decide +kernel
theorem dX12_goThrough_20 : decode cX12_goThrough 20 = .ok (.lconst 0, 1) := by decide +kernel
theorem dX12_goThrough_21 : decode cX12_goThrough 21 = .ok (.putfield 152, 3) := by decide +kernel
theorem dX12_goThrough_24 : decode cX12_goThrough 24 = .ok (.aload_n 0, 1) := by decide +kernel
theorem dX12_goThrough_25 : decode cX12_goThrough 25 = .ok (.invokevirtual 155, 3) := by decide +kernel
theorem dX12_goThrough_28 : decode cX12_goThrough 28 = .ok (.aload_n 0, 1) := by decide +kernel
theorem dX12_goThrough_29 : decode cX12_goThrough 29 = .ok (.iload_n 1, 1) := by decide +kernel
theorem dX12_goThrough_30 : decode cX12_goThrough 30 = .ok (.invokevirtual 158, 3) := by decide +kernel
theorem dX12_goThrough_33 : decode cX12_goThrough 33 = .ok (.ifCond .eq 146, 3) := by decide +kernel
theorem dX12_goThrough_36 : decode cX12_goThrough 36 = .ok (.aload_n 0, 1) := by decide +kernel
theorem dX12_goThrough_37 : decode cX12_goThrough 37 = .ok (.iload_n 1, 1) := by decide +kernel
theorem dX12_goThrough_38 : decode cX12_goThrough 38 = .ok (.invokevirtual 161, 3) := by decide +kernel
theorem dX12_goThrough_41 : decode cX12_goThrough 41 = .ok (.lstore_n 2, 1) := by decide +kernel
theorem dX12_goThrough_42 : decode cX12_goThrough 42 = .ok (.aload_n 0, 1) := by decide +kernel
theorem dX12_goThrough_43 : decode cX12_goThrough 43 = .ok (.getfield 142, 3) := by decide +kernel
theorem dX12_goThrough_46 : decode cX12_goThrough 46 = .ok (.lconst 0, 1) := by decide +kernel
theorem dX12_goThrough_47 : decode cX12_goThrough 47 = .ok (.lcmp, 1) := by decide +kernel
theorem dX12_goThrough_48 : decode cX12_goThrough 48 = .ok (.ifCond .eq 12, 3) := by decide +kernel
theorem dX12_goThrough_51 : decode cX12_goThrough 51 = .ok (.lload_n 2, 1) := by decide +kernel
theorem dX12_goThrough_52 : decode cX12_goThrough 52 = .ok (.aload_n 0, 1) := by decide +kernel
theorem dX12_goThrough_53 : decode cX12_goThrough 53 = .ok (.getfield 146, 3) := by decide +kernel
theorem dX12_goThrough_56 : decode cX12_goThrough 56 = .ok (.lcmp, 1) := by decide +kernel
theorem dX12_goThrough_57 : decode cX12_goThrough 57 = .ok (.ifCond .le 37, 3) := by decide +kernel
theorem dX12_goThrough_60 : decode cX12_goThrough 60 = .ok (.aload_n 0, 1) := by decide +kernel
theorem dX12_goThrough_61 : decode cX12_goThrough 61 = .ok (.lload_n 2, 1) := by decide +kernel
theorem dX12_goThrough_62 : decode cX12_goThrough 62 = .ok (.putfield 146, 3) := by decide +kernel
theorem dX12_goThrough_65 : decode cX12_goThrough 65 = .ok (.iconst 0, 1) := by decide +kernel
theorem dX12_goThrough_66 : decode cX12_goThrough 66 = .ok (.istore 4, 2) := by decide +kernel
theorem dX12_goThrough_68 : decode cX12_goThrough 68 = .ok (.iload 4, 2) := by decide +kernel
theorem dX12_goThrough_70 : decode cX12_goThrough 70 = .ok (.iload_n 1, 1) := by decide +kernel
theorem dX12_goThrough_71 : decode cX12_goThrough 71 = .ok (.if_icmp .ge 23, 3) := by decide +kernel
theorem dX12_goThrough_74 : decode cX12_goThrough 74 = .ok (.aload_n 0, 1) := by decide +kernel
theorem dX12_goThrough_75 : decode cX12_goThrough 75 = .ok (.getfield 43, 3) := by decide +kernel
theorem dX12_goThrough_78 : decode cX12_goThrough 78 = .ok (.iload 4, 2) := by decide +kernel
theorem dX12_goThrough_80 : decode cX12_goThrough 80 = .ok (.aload_n 0, 1) := by decide +kernel
theorem dX12_goThrough_81 : decode cX12_goThrough 81 = .ok (.getfield 34, 3) := by decide +kernel
theorem dX12_goThrough_84 : decode cX12_goThrough 84 = .ok (.iload 4, 2) := by decide +kernel
theorem dX12_goThrough_86 : decode cX12_goThrough 86 = .ok (.iaload, 1) := by decide +kernel
theorem dX12_goThrough_87 : decode cX12_goThrough 87 = .ok (.iastore, 1) := by decide +kernel
theorem dX12_goThrough_88 : decode cX12_goThrough 88 = .ok (.iinc 4 1, 3) := by decide +kernel
theorem dX12_goThrough_91 : decode cX12_goThrough 91 = .ok (.goto (-23), 3) := by decide +kernel
theorem dX12_goThrough_94 : decode cX12_goThrough 94 = .ok (.aload_n 0, 1) := by decide +kernel
theorem dX12_goThrough_95 : decode cX12_goThrough 95 = .ok (.getfield 142, 3) := by decide +kernel
theorem dX12_goThrough_98 : decode cX12_goThrough 98 = .ok (.lconst 0, 1) := by decide +kernel
theorem dX12_goThrough_99 : decode cX12_goThrough 99 = .ok (.lcmp, 1) := by decide +kernel
theorem dX12_goThrough_100 : decode cX12_goThrough 100 = .ok (.ifCond .eq 12, 3) := by decide +kernel
theorem dX12_goThrough_103 : decode cX12_goThrough 103 = .ok (.lload_n 2, 1) := by decide +kernel
theorem dX12_goThrough_104 : decode cX12_goThrough 104 = .ok (.aload_n 0, 1) := by decide +kernel
theorem dX12_goThrough_105 : decode cX12_goThrough 105 = .ok (.getfield 149, 3) := by decide +kernel
theorem dX12_goThrough_108 : decode cX12_goThrough 108 = .ok (.lcmp, 1) := by decide +kernel
theorem dX12_goThrough_109 : decode cX12_goThrough 109 = .ok (.ifCond .ge 37, 3) := by decide +kernel
theorem dX12_goThrough_112 : decode cX12_goThrough 112 = .ok (.aload_n 0, 1) := by decide +kernel
theorem dX12_goThrough_113 : decode cX12_goThrough 113 = .ok (.lload_n 2, 1) := by decide +kernel
theorem dX12_goThrough_114 : decode cX12_goThrough 114 = .ok (.putfield 149, 3) := by decide +kernel
theorem dX12_goThrough_117 : decode cX12_goThrough 117 = .ok (.iconst 0, 1) := by decide +kernel
theorem dX12_goThrough_118 : decode cX12_goThrough 118 = .ok (.istore 4, 2) := by decide +kernel
theorem dX12_goThrough_120 : decode cX12_goThrough 120 = .ok (.iload 4, 2) := by decide +kernel
theorem dX12_goThrough_122 : decode cX12_goThrough 122 = .ok (.iload_n 1, 1) := by decide +kernel
theorem dX12_goThrough_123 : decode cX12_goThrough 123 = .ok (.if_icmp .ge 23, 3) := by decide +kernel
theorem dX12_goThrough_126 : decode cX12_goThrough 126 = .ok (.aload_n 0, 1) := by decide +kernel
theorem dX12_goThrough_127 : decode cX12_goThrough 127 = .ok (.getfield 46, 3) := by decide +kernel
theorem dX12_goThrough_130 : decode cX12_goThrough 130 = .ok (.iload 4, 2) := by decide +kernel
theorem dX12_goThrough_132 : decode cX12_goThrough 132 = .ok (.aload_n 0, 1) := by decide +kernel
theorem dX12_goThrough_133 : decode cX12_goThrough 133 = .ok (.getfield 34, 3) := by decide +kernel
theorem dX12_goThrough_136 : decode cX12_goThrough 136 = .ok (.iload 4, 2) := by decide +kernel
theorem dX12_goThrough_138 : decode cX12_goThrough 138 = .ok (.iaload, 1) := by decide +kernel
theorem dX12_goThrough_139 : decode cX12_goThrough 139 = .ok (.iastore, 1) := by decide +kernel
theorem dX12_goThrough_140 : decode cX12_goThrough 140 = .ok (.iinc 4 1, 3) := by decide +kernel
theorem dX12_goThrough_143 : decode cX12_goThrough 143 = .ok (.goto (-23), 3) := by decide +kernel
theorem dX12_goThrough_146 : decode cX12_goThrough 146 = .ok (.aload_n 0, 1) := by decide +kernel
theorem dX12_goThrough_147 : decode cX12_goThrough 147 = .ok (.dup, 1) := by decide +kernel
theorem dX12_goThrough_148 : decode cX12_goThrough 148 = .ok (.getfield 152, 3) := by decide +kernel
theorem dX12_goThrough_151 : decode cX12_goThrough 151 = .ok (.lload_n 2, 1) := by decide +kernel
theorem dX12_goThrough_152 : decode cX12_goThrough 152 = .ok (.lconst 0, 1) := by decide +kernel
theorem dX12_goThrough_153 : decode cX12_goThrough 153 = .ok (.lcmp, 1) := by decide +kernel
theorem dX12_goThrough_154 : decode cX12_goThrough 154 = .ok (.ifCond .ne 7, 3) := by decide +kernel
theorem dX12_goThrough_157 : decode cX12_goThrough 157 = .ok (.lconst 1, 1) := by decide +kernel
theorem dX12_goThrough_158 : decode cX12_goThrough 158 = .ok (.goto 4, 3) := by decide +kernel
theorem dX12_goThrough_161 : decode cX12_goThrough 161 = .ok (.lconst 0, 1) := by decide +kernel
theorem dX12_goThrough_162 : decode cX12_goThrough 162 = .ok (.ladd, 1) := by decide +kernel
theorem dX12_goThrough_163 : decode cX12_goThrough 163 = .ok (.putfield 152, 3) := by decide +kernel
theorem dX12_goThrough_166 : decode cX12_goThrough 166 = .ok (.aload_n 0, 1) := by decide +kernel
theorem dX12_goThrough_167 : decode cX12_goThrough 167 = .ok (.dup, 1) := by decide +kernel
theorem dX12_goThrough_168 : decode cX12_goThrough 168 = .ok (.getfield 142, 3) := by decide +kernel
theorem dX12_goThrough_171 : decode cX12_goThrough 171 = .ok (.lconst 1, 1) := by decide +kernel
theorem dX12_goThrough_172 : decode cX12_goThrough 172 = .ok (.ladd, 1) := by decide +kernel
theorem dX12_goThrough_173 : decode cX12_goThrough 173 = .ok (.putfield 142, 3) := by decide +kernel
theorem dX12_goThrough_176 : decode cX12_goThrough 176 = .ok (.goto (-148), 3) := by decide +kernel
theorem dX12_goThrough_179 : decode cX12_goThrough 179 = .ok (.return_, 1) := by decide +kernel
theorem dX12_length_0 : decode cX12_length 0 = .ok (.iload_n 1, 1) := by decide +kernel
theorem dX12_length_1 : decode cX12_length 1 = .ok (.i2l, 1) := by decide +kernel
theorem dX12_length_2 : decode cX12_length 2 = .ok (.lconst 1, 1) := by decide +kernel
theorem dX12_length_3 : decode cX12_length 3 = .ok (.ldc2_w 165, 3) := by decide +kernel
theorem dX12_length_6 : decode cX12_length 6 = .ok (.invokestatic 84, 3) := by decide +kernel
theorem dX12_length_9 : decode cX12_length 9 = .ok (.ifCond .eq 23, 3) := by decide +kernel
theorem dX12_length_12 : decode cX12_length 12 = .ok (.iload_n 2, 1) := by decide +kernel
theorem dX12_length_13 : decode cX12_length 13 = .ok (.i2l, 1) := by decide +kernel
theorem dX12_length_14 : decode cX12_length 14 = .ok (.lconst 0, 1) := by decide +kernel
theorem dX12_length_15 : decode cX12_length 15 = .ok (.ldc2_w 90, 3) := by decide +kernel
theorem dX12_length_18 : decode cX12_length 18 = .ok (.invokestatic 84, 3) := by decide +kernel
theorem dX12_length_21 : decode cX12_length 21 = .ok (.ifCond .eq 11, 3) := by decide +kernel
theorem dX12_length_24 : decode cX12_length 24 = .ok (.aload_n 0, 1) := by decide +kernel
theorem dX12_length_25 : decode cX12_length 25 = .ok (.iload_n 1, 1) := by decide +kernel
theorem dX12_length_26 : decode cX12_length 26 = .ok (.invokevirtual 167, 3) := by decide +kernel
theorem dX12_length_29 : decode cX12_length 29 = .ok (.ifCond .eq 7, 3) := by decide +kernel
theorem dX12_length_32 : decode cX12_length 32 = .ok (.ldc2_w 79, 3) := by decide +kernel
theorem dX12_length_35 : decode cX12_length 35 = .ok (.lreturn, 1) := by decide +kernel
theorem dX12_length_36 : decode cX12_length 36 = .ok (.aload_n 0, 1) := by decide +kernel
theorem dX12_length_37 : decode cX12_length 37 = .ok (.iload_n 1, 1) := by decide +kernel
theorem dX12_length_38 : decode cX12_length 38 = .ok (.invokevirtual 170, 3) := by decide +kernel
theorem dX12_length_41 : decode cX12_length 41 = .ok (.iload_n 2, 1) := by decide +kernel
theorem dX12_length_42 : decode cX12_length 42 = .ok (.ifCond .ne 10, 3) := by decide +kernel
theorem dX12_length_45 : decode cX12_length 45 = .ok (.aload_n 0, 1) := by decide +kernel
theorem dX12_length_46 : decode cX12_length 46 = .ok (.getfield 142, 3) := by decide +kernel
theorem dX12_length_49 : decode cX12_length 49 = .ok (.goto 31, 3) := by decide +kernel
theorem dX12_length_52 : decode cX12_length 52 = .ok (.iload_n 2, 1) := by decide +kernel
theorem dX12_length_53 : decode cX12_length 53 = .ok (.iconst 1, 1) := by decide +kernel
theorem dX12_length_54 : decode cX12_length 54 = .ok (.if_icmp .ne 10, 3) := by decide +kernel
theorem dX12_length_57 : decode cX12_length 57 = .ok (.aload_n 0, 1) := by decide +kernel
theorem dX12_length_58 : decode cX12_length 58 = .ok (.getfield 146, 3) := by decide +kernel
theorem dX12_length_61 : decode cX12_length 61 = .ok (.goto 19, 3) := by decide +kernel
theorem dX12_length_64 : decode cX12_length 64 = .ok (.iload_n 2, 1) := by decide +kernel
theorem dX12_length_65 : decode cX12_length 65 = .ok (.iconst 2, 1) := by decide +kernel
theorem dX12_length_66 : decode cX12_length 66 = .ok (.if_icmp .ne 10, 3) := by decide +kernel
theorem dX12_length_69 : decode cX12_length 69 = .ok (.aload_n 0, 1) := by decide +kernel
theorem dX12_length_70 : decode cX12_length 70 = .ok (.getfield 149, 3) := by decide +kernel
theorem dX12_length_73 : decode cX12_length 73 = .ok (.goto 7, 3) := by decide +kernel
theorem dX12_length_76 : decode cX12_length 76 = .ok (.aload_n 0, 1) := by decide +kernel
theorem dX12_length_77 : decode cX12_length 77 = .ok (.getfield 152, 3) := by decide +kernel
theorem dX12_length_80 : decode cX12_length 80 = .ok (.lreturn, 1) := by decide +kernel
theorem dX12_extreme_0 : decode cX12_extreme 0 = .ok (.iload_n 1, 1) := by decide +kernel
theorem dX12_extreme_1 : decode cX12_extreme 1 = .ok (.i2l, 1) := by decide +kernel
theorem dX12_extreme_2 : decode cX12_extreme 2 = .ok (.lconst 1, 1) := by decide +kernel
theorem dX12_extreme_3 : decode cX12_extreme 3 = .ok (.ldc2_w 165, 3) := by decide +kernel
theorem dX12_extreme_6 : decode cX12_extreme 6 = .ok (.invokestatic 84, 3) := by decide +kernel
theorem dX12_extreme_9 : decode cX12_extreme 9 = .ok (.ifCond .eq 26, 3) := by decide +kernel
theorem dX12_extreme_12 : decode cX12_extreme 12 = .ok (.iload_n 2, 1) := by decide +kernel
theorem dX12_extreme_13 : decode cX12_extreme 13 = .ok (.i2l, 1) := by decide +kernel
theorem dX12_extreme_14 : decode cX12_extreme 14 = .ok (.lconst 0, 1) := by decide +kernel
theorem dX12_extreme_15 : decode cX12_extreme 15 = .ok (.lconst 1, 1) := by decide +kernel
theorem dX12_extreme_16 : decode cX12_extreme 16 = .ok (.invokestatic 84, 3) := by decide +kernel
theorem dX12_extreme_19 : decode cX12_extreme 19 = .ok (.ifCond .eq 16, 3) := by decide +kernel
theorem dX12_extreme_22 : decode cX12_extreme 22 = .ok (.iload_n 3, 1) := by decide +kernel
theorem dX12_extreme_23 : decode cX12_extreme 23 = .ok (.i2l, 1) := by decide +kernel
theorem dX12_extreme_24 : decode cX12_extreme 24 = .ok (.lconst 0, 1) := by decide +kernel
theorem dX12_extreme_25 : decode cX12_extreme 25 = .ok (.iload_n 1, 1) := by decide +kernel
theorem dX12_extreme_26 : decode cX12_extreme 26 = .ok (.i2l, 1) := by decide +kernel
theorem dX12_extreme_27 : decode cX12_extreme 27 = .ok (.lconst 1, 1) := by decide +kernel
theorem dX12_extreme_28 : decode cX12_extreme 28 = .ok (.lsub, 1) := by decide +kernel
theorem dX12_extreme_29 : decode cX12_extreme 29 = .ok (.invokestatic 84, 3) := by decide +kernel
theorem dX12_extreme_32 : decode cX12_extreme 32 = .ok (.ifCond .ne 6, 3) := by decide +kernel
theorem dX12_extreme_35 : decode cX12_extreme 35 = .ok (.bipush (-2), 2) := by decide +kernel
theorem dX12_extreme_37 : decode cX12_extreme 37 = .ok (.ireturn, 1) := by decide +kernel
theorem dX12_extreme_38 : decode cX12_extreme 38 = .ok (.aload_n 0, 1) := by decide +kernel
theorem dX12_extreme_39 : decode cX12_extreme 39 = .ok (.iload_n 1, 1) := by decide +kernel
theorem dX12_extreme_40 : decode cX12_extreme 40 = .ok (.invokevirtual 167, 3) := by decide +kernel
theorem dX12_extreme_43 : decode cX12_extreme 43 = .ok (.ifCond .eq 6, 3) := by decide +kernel
theorem dX12_extreme_46 : decode cX12_extreme 46 = .ok (.bipush (-6), 2) := by decide +kernel
theorem dX12_extreme_48 : decode cX12_extreme 48 = .ok (.ireturn, 1) := by decide +kernel
theorem dX12_extreme_49 : decode cX12_extreme 49 = .ok (.aload_n 0, 1) := by decide +kernel
theorem dX12_extreme_50 : decode cX12_extreme 50 = .ok (.iload_n 1, 1) := by decide +kernel
theorem dX12_extreme_51 : decode cX12_extreme 51 = .ok (.invokevirtual 170, 3) := by decide +kernel
theorem dX12_extreme_54 : decode cX12_extreme 54 = .ok (.aload_n 0, 1) := by decide +kernel
theorem dX12_extreme_55 : decode cX12_extreme 55 = .ok (.getfield 142, 3) := by decide +kernel
theorem dX12_extreme_58 : decode cX12_extreme 58 = .ok (.lconst 0, 1) := by decide +kernel
theorem dX12_extreme_59 : decode cX12_extreme 59 = .ok (.lcmp, 1) := by decide +kernel
theorem dX12_extreme_60 : decode cX12_extreme 60 = .ok (.ifCond .ne 8, 3) := by decide +kernel
theorem dX12_extreme_63 : decode cX12_extreme 63 = .ok (.bipush (-9), 2) := by decide +kernel
theorem dX12_extreme_65 : decode cX12_extreme 65 = .ok (.goto 22, 3) := by decide +kernel
theorem dX12_extreme_68 : decode cX12_extreme 68 = .ok (.iload_n 2, 1) := by decide +kernel
theorem dX12_extreme_69 : decode cX12_extreme 69 = .ok (.ifCond .ne 12, 3) := by decide +kernel
theorem dX12_extreme_72 : decode cX12_extreme 72 = .ok (.aload_n 0, 1) := by decide +kernel
theorem dX12_extreme_73 : decode cX12_extreme 73 = .ok (.getfield 43, 3) := by decide +kernel
theorem dX12_extreme_76 : decode cX12_extreme 76 = .ok (.iload_n 3, 1) := by decide +kernel
theorem dX12_extreme_77 : decode cX12_extreme 77 = .ok (.iaload, 1) := by decide +kernel
theorem dX12_extreme_78 : decode cX12_extreme 78 = .ok (.goto 9, 3) := by decide +kernel
theorem dX12_extreme_81 : decode cX12_extreme 81 = .ok (.aload_n 0, 1) := by decide +kernel
theorem dX12_extreme_82 : decode cX12_extreme 82 = .ok (.getfield 46, 3) := by decide +kernel
theorem dX12_extreme_85 : decode cX12_extreme 85 = .ok (.iload_n 3, 1) := by decide +kernel
theorem dX12_extreme_86 : decode cX12_extreme 86 = .ok (.iaload, 1) := by decide +kernel
theorem dX12_extreme_87 : decode cX12_extreme 87 = .ok (.ireturn, 1) := by decide +kernel
theorem dX12_timesOf_0 : decode cX12_timesOf 0 = .ok (.iconst 1, 1) := by decide +kernel
theorem dX12_timesOf_1 : decode cX12_timesOf 1 = .ok (.istore_n 2, 1) := by decide +kernel
theorem dX12_timesOf_2 : decode cX12_timesOf 2 = .ok (.iload_n 2, 1) := by decide +kernel
theorem dX12_timesOf_3 : decode cX12_timesOf 3 = .ok (.iload_n 1, 1) := by decide +kernel
theorem dX12_timesOf_4 : decode cX12_timesOf 4 = .ok (.if_icmp .ge 73, 3) := by decide +kernel
theorem dX12_timesOf_7 : decode cX12_timesOf 7 = .ok (.iload_n 1, 1) := by decide +kernel
theorem dX12_timesOf_8 : decode cX12_timesOf 8 = .ok (.iload_n 2, 1) := by decide +kernel
theorem dX12_timesOf_9 : decode cX12_timesOf 9 = .ok (.irem, 1) := by decide +kernel
theorem dX12_timesOf_10 : decode cX12_timesOf 10 = .ok (.ifCond .ne 7, 3) := by decide +kernel
theorem dX12_timesOf_13 : decode cX12_timesOf 13 = .ok (.iconst 1, 1) := by decide +kernel
theorem dX12_timesOf_14 : decode cX12_timesOf 14 = .ok (.goto 4, 3) := by decide +kernel
theorem dX12_timesOf_17 : decode cX12_timesOf 17 = .ok (.iconst 0, 1) := by decide +kernel
theorem dX12_timesOf_18 : decode cX12_timesOf 18 = .ok (.istore_n 3, 1) := by decide +kernel
theorem dX12_timesOf_19 : decode cX12_timesOf 19 = .ok (.iload_n 2, 1) := by decide +kernel
theorem dX12_timesOf_20 : decode cX12_timesOf 20 = .ok (.istore 4, 2) := by decide +kernel
theorem dX12_timesOf_22 : decode cX12_timesOf 22 = .ok (.iload 4, 2) := by decide +kernel
theorem dX12_timesOf_24 : decode cX12_timesOf 24 = .ok (.iload_n 1, 1) := by decide +kernel
theorem dX12_timesOf_25 : decode cX12_timesOf 25 = .ok (.if_icmp .ge 38, 3) := by decide +kernel
theorem dX12_timesOf_28 : decode cX12_timesOf 28 = .ok (.iload_n 3, 1) := by decide +kernel
theorem dX12_timesOf_29 : decode cX12_timesOf 29 = .ok (.ifCond .eq 34, 3) := by decide +kernel
theorem dX12_timesOf_32 : decode cX12_timesOf 32 = .ok (.aload_n 0, 1) := by decide +kernel
theorem dX12_timesOf_33 : decode cX12_timesOf 33 = .ok (.getfield 49, 3) := by decide +kernel
theorem dX12_timesOf_36 : decode cX12_timesOf 36 = .ok (.iload 4, 2) := by decide +kernel
theorem dX12_timesOf_38 : decode cX12_timesOf 38 = .ok (.iaload, 1) := by decide +kernel
theorem dX12_timesOf_39 : decode cX12_timesOf 39 = .ok (.aload_n 0, 1) := by decide +kernel
theorem dX12_timesOf_40 : decode cX12_timesOf 40 = .ok (.getfield 49, 3) := by decide +kernel
theorem dX12_timesOf_43 : decode cX12_timesOf 43 = .ok (.iload 4, 2) := by decide +kernel
theorem dX12_timesOf_45 : decode cX12_timesOf 45 = .ok (.iload_n 2, 1) := by decide +kernel
theorem dX12_timesOf_46 : decode cX12_timesOf 46 = .ok (.isub, 1) := by decide +kernel
theorem dX12_timesOf_47 : decode cX12_timesOf 47 = .ok (.iaload, 1) := by decide +kernel
theorem dX12_timesOf_48 : decode cX12_timesOf 48 = .ok (.if_icmp .ne 7, 3) := by decide +kernel
theorem dX12_timesOf_51 : decode cX12_timesOf 51 = .ok (.iconst 1, 1) := by decide +kernel
theorem dX12_timesOf_52 : decode cX12_timesOf 52 = .ok (.goto 4, 3) := by decide +kernel
theorem dX12_timesOf_55 : decode cX12_timesOf 55 = .ok (.iconst 0, 1) := by decide +kernel
theorem dX12_timesOf_56 : decode cX12_timesOf 56 = .ok (.istore_n 3, 1) := by decide +kernel
theorem dX12_timesOf_57 : decode cX12_timesOf 57 = .ok (.iinc 4 1, 3) := by decide +kernel
theorem dX12_timesOf_60 : decode cX12_timesOf 60 = .ok (.goto (-38), 3) := by decide +kernel
theorem dX12_timesOf_63 : decode cX12_timesOf 63 = .ok (.iload_n 3, 1) := by decide +kernel
theorem dX12_timesOf_64 : decode cX12_timesOf 64 = .ok (.ifCond .eq 7, 3) := by decide +kernel
theorem dX12_timesOf_67 : decode cX12_timesOf 67 = .ok (.iload_n 1, 1) := by decide +kernel
theorem dX12_timesOf_68 : decode cX12_timesOf 68 = .ok (.iload_n 2, 1) := by decide +kernel
theorem dX12_timesOf_69 : decode cX12_timesOf 69 = .ok (.idiv, 1) := by decide +kernel
theorem dX12_timesOf_70 : decode cX12_timesOf 70 = .ok (.ireturn, 1) := by decide +kernel
theorem dX12_timesOf_71 : decode cX12_timesOf 71 = .ok (.iinc 2 1, 3) := by decide +kernel
theorem dX12_timesOf_74 : decode cX12_timesOf 74 = .ok (.goto (-72), 3) := by decide +kernel
theorem dX12_timesOf_77 : decode cX12_timesOf 77 = .ok (.iconst 1, 1) := by decide +kernel
theorem dX12_timesOf_78 : decode cX12_timesOf 78 = .ok (.ireturn, 1) := by decide +kernel
theorem dX12_isAllowed_0 : decode cX12_isAllowed 0 = .ok (.iconst 1, 1) := by decide +kernel
theorem dX12_isAllowed_1 : decode cX12_isAllowed 1 = .ok (.istore_n 2, 1) := by decide +kernel
theorem dX12_isAllowed_2 : decode cX12_isAllowed 2 = .ok (.iload_n 2, 1) := by decide +kernel
theorem dX12_isAllowed_3 : decode cX12_isAllowed 3 = .ok (.iload_n 1, 1) := by decide +kernel
theorem dX12_isAllowed_4 : decode cX12_isAllowed 4 = .ok (.if_icmp .ge 32, 3) := by decide +kernel
theorem dX12_isAllowed_7 : decode cX12_isAllowed 7 = .ok (.aload_n 0, 1) := by decide +kernel
theorem dX12_isAllowed_8 : decode cX12_isAllowed 8 = .ok (.aload_n 0, 1) := by decide +kernel
theorem dX12_isAllowed_9 : decode cX12_isAllowed 9 = .ok (.getfield 49, 3) := by decide +kernel
theorem dX12_isAllowed_12 : decode cX12_isAllowed 12 = .ok (.iload_n 2, 1) := by decide +kernel
theorem dX12_isAllowed_13 : decode cX12_isAllowed 13 = .ok (.iconst 1, 1) := by decide +kernel
theorem dX12_isAllowed_14 : decode cX12_isAllowed 14 = .ok (.isub, 1) := by decide +kernel
theorem dX12_isAllowed_15 : decode cX12_isAllowed 15 = .ok (.iaload, 1) := by decide +kernel
theorem dX12_isAllowed_16 : decode cX12_isAllowed 16 = .ok (.aload_n 0, 1) := by decide +kernel
theorem dX12_isAllowed_17 : decode cX12_isAllowed 17 = .ok (.getfield 49, 3) := by decide +kernel
theorem dX12_isAllowed_20 : decode cX12_isAllowed 20 = .ok (.iload_n 2, 1) := by decide +kernel
theorem dX12_isAllowed_21 : decode cX12_isAllowed 21 = .ok (.iaload, 1) := by decide +kernel
theorem dX12_isAllowed_22 : decode cX12_isAllowed 22 = .ok (.invokevirtual 127, 3) := by decide +kernel
theorem dX12_isAllowed_25 : decode cX12_isAllowed 25 = .ok (.ifCond .ne 5, 3) := by decide +kernel
theorem dX12_isAllowed_28 : decode cX12_isAllowed 28 = .ok (.iconst 0, 1) := by decide +kernel
theorem dX12_isAllowed_29 : decode cX12_isAllowed 29 = .ok (.ireturn, 1) := by decide +kernel
theorem dX12_isAllowed_30 : decode cX12_isAllowed 30 = .ok (.iinc 2 1, 3) := by decide +kernel
theorem dX12_isAllowed_33 : decode cX12_isAllowed 33 = .ok (.goto (-31), 3) := by decide +kernel
theorem dX12_isAllowed_36 : decode cX12_isAllowed 36 = .ok (.iconst 1, 1) := by decide +kernel
theorem dX12_isAllowed_37 : decode cX12_isAllowed 37 = .ok (.ireturn, 1) := by decide +kernel
theorem dX12_isFirstTurn_0 : decode cX12_isFirstTurn 0 = .ok (.iconst 1, 1) := by decide +kernel
theorem dX12_isFirstTurn_1 : decode cX12_isFirstTurn 1 = .ok (.istore_n 2, 1) := by decide +kernel
theorem dX12_isFirstTurn_2 : decode cX12_isFirstTurn 2 = .ok (.iload_n 2, 1) := by decide +kernel
theorem dX12_isFirstTurn_3 : decode cX12_isFirstTurn 3 = .ok (.iload_n 1, 1) := by decide +kernel
theorem dX12_isFirstTurn_4 : decode cX12_isFirstTurn 4 = .ok (.if_icmp .ge 67, 3) := by decide +kernel
theorem dX12_isFirstTurn_7 : decode cX12_isFirstTurn 7 = .ok (.iconst 0, 1) := by decide +kernel
theorem dX12_isFirstTurn_8 : decode cX12_isFirstTurn 8 = .ok (.istore_n 3, 1) := by decide +kernel
theorem dX12_isFirstTurn_9 : decode cX12_isFirstTurn 9 = .ok (.iload_n 3, 1) := by decide +kernel
theorem dX12_isFirstTurn_10 : decode cX12_isFirstTurn 10 = .ok (.iload_n 1, 1) := by decide +kernel
theorem dX12_isFirstTurn_11 : decode cX12_isFirstTurn 11 = .ok (.if_icmp .ge 28, 3) := by decide +kernel
theorem dX12_isFirstTurn_14 : decode cX12_isFirstTurn 14 = .ok (.aload_n 0, 1) := by decide +kernel
theorem dX12_isFirstTurn_15 : decode cX12_isFirstTurn 15 = .ok (.getfield 49, 3) := by decide +kernel
theorem dX12_isFirstTurn_18 : decode cX12_isFirstTurn 18 = .ok (.iload_n 3, 1) := by decide +kernel
theorem dX12_isFirstTurn_19 : decode cX12_isFirstTurn 19 = .ok (.iload_n 2, 1) := by decide +kernel
theorem dX12_isFirstTurn_20 : decode cX12_isFirstTurn 20 = .ok (.iadd, 1) := by decide +kernel
theorem dX12_isFirstTurn_21 : decode cX12_isFirstTurn 21 = .ok (.iload_n 1, 1) := by decide +kernel
theorem dX12_isFirstTurn_22 : decode cX12_isFirstTurn 22 = .ok (.irem, 1) := by decide +kernel
theorem dX12_isFirstTurn_23 : decode cX12_isFirstTurn 23 = .ok (.iaload, 1) := by decide +kernel
theorem dX12_isFirstTurn_24 : decode cX12_isFirstTurn 24 = .ok (.aload_n 0, 1) := by decide +kernel
theorem dX12_isFirstTurn_25 : decode cX12_isFirstTurn 25 = .ok (.getfield 49, 3) := by decide +kernel
theorem dX12_isFirstTurn_28 : decode cX12_isFirstTurn 28 = .ok (.iload_n 3, 1) := by decide +kernel
theorem dX12_isFirstTurn_29 : decode cX12_isFirstTurn 29 = .ok (.iaload, 1) := by decide +kernel
theorem dX12_isFirstTurn_30 : decode cX12_isFirstTurn 30 = .ok (.if_icmp .ne 9, 3) := by decide +kernel
theorem dX12_isFirstTurn_33 : decode cX12_isFirstTurn 33 = .ok (.iinc 3 1, 3) := by decide +kernel
theorem dX12_isFirstTurn_36 : decode cX12_isFirstTurn 36 = .ok (.goto (-27), 3) := by decide +kernel
theorem dX12_isFirstTurn_39 : decode cX12_isFirstTurn 39 = .ok (.iload_n 3, 1) := by decide +kernel
theorem dX12_isFirstTurn_40 : decode cX12_isFirstTurn 40 = .ok (.iload_n 1, 1) := by decide +kernel
theorem dX12_isFirstTurn_41 : decode cX12_isFirstTurn 41 = .ok (.if_icmp .ge 24, 3) := by decide +kernel
theorem dX12_isFirstTurn_44 : decode cX12_isFirstTurn 44 = .ok (.aload_n 0, 1) := by decide +kernel
theorem dX12_isFirstTurn_45 : decode cX12_isFirstTurn 45 = .ok (.getfield 49, 3) := by decide +kernel
theorem dX12_isFirstTurn_48 : decode cX12_isFirstTurn 48 = .ok (.iload_n 3, 1) := by decide +kernel
theorem dX12_isFirstTurn_49 : decode cX12_isFirstTurn 49 = .ok (.iload_n 2, 1) := by decide +kernel
theorem dX12_isFirstTurn_50 : decode cX12_isFirstTurn 50 = .ok (.iadd, 1) := by decide +kernel
theorem dX12_isFirstTurn_51 : decode cX12_isFirstTurn 51 = .ok (.iload_n 1, 1) := by decide +kernel
theorem dX12_isFirstTurn_52 : decode cX12_isFirstTurn 52 = .ok (.irem, 1) := by decide +kernel
theorem dX12_isFirstTurn_53 : decode cX12_isFirstTurn 53 = .ok (.iaload, 1) := by decide +kernel
theorem dX12_isFirstTurn_54 : decode cX12_isFirstTurn 54 = .ok (.aload_n 0, 1) := by decide +kernel
theorem dX12_isFirstTurn_55 : decode cX12_isFirstTurn 55 = .ok (.getfield 49, 3) := by decide +kernel
theorem dX12_isFirstTurn_58 : decode cX12_isFirstTurn 58 = .ok (.iload_n 3, 1) := by decide +kernel
theorem dX12_isFirstTurn_59 : decode cX12_isFirstTurn 59 = .ok (.iaload, 1) := by decide +kernel
theorem dX12_isFirstTurn_60 : decode cX12_isFirstTurn 60 = .ok (.if_icmp .ge 5, 3) := by decide +kernel
theorem dX12_isFirstTurn_63 : decode cX12_isFirstTurn 63 = .ok (.iconst 0, 1) := by decide +kernel
theorem dX12_isFirstTurn_64 : decode cX12_isFirstTurn 64 = .ok (.ireturn, 1) := by decide +kernel
theorem dX12_isFirstTurn_65 : decode cX12_isFirstTurn 65 = .ok (.iinc 2 1, 3) := by decide +kernel
theorem dX12_isFirstTurn_68 : decode cX12_isFirstTurn 68 = .ok (.goto (-66), 3) := by decide +kernel
theorem dX12_isFirstTurn_71 : decode cX12_isFirstTurn 71 = .ok (.iconst 1, 1) := by decide +kernel
theorem dX12_isFirstTurn_72 : decode cX12_isFirstTurn 72 = .ok (.ireturn, 1) := by decide +kernel
theorem dX12_isRing_0 : decode cX12_isRing 0 = .ok (.aload_n 0, 1) := by decide +kernel
theorem dX12_isRing_1 : decode cX12_isRing 1 = .ok (.iload_n 1, 1) := by decide +kernel
theorem dX12_isRing_2 : decode cX12_isRing 2 = .ok (.invokevirtual 174, 3) := by decide +kernel
theorem dX12_isRing_5 : decode cX12_isRing 5 = .ok (.ifCond .eq 45, 3) := by decide +kernel
theorem dX12_isRing_8 : decode cX12_isRing 8 = .ok (.aload_n 0, 1) := by decide +kernel
theorem dX12_isRing_9 : decode cX12_isRing 9 = .ok (.aload_n 0, 1) := by decide +kernel
theorem dX12_isRing_10 : decode cX12_isRing 10 = .ok (.getfield 49, 3) := by decide +kernel
theorem dX12_isRing_13 : decode cX12_isRing 13 = .ok (.iload_n 1, 1) := by decide +kernel
theorem dX12_isRing_14 : decode cX12_isRing 14 = .ok (.iconst 1, 1) := by decide +kernel
theorem dX12_isRing_15 : decode cX12_isRing 15 = .ok (.isub, 1) := by decide +kernel
theorem dX12_isRing_16 : decode cX12_isRing 16 = .ok (.iaload, 1) := by decide +kernel
theorem dX12_isRing_17 : decode cX12_isRing 17 = .ok (.aload_n 0, 1) := by decide +kernel
theorem dX12_isRing_18 : decode cX12_isRing 18 = .ok (.getfield 49, 3) := by decide +kernel
theorem dX12_isRing_21 : decode cX12_isRing 21 = .ok (.iconst 0, 1) := by decide +kernel
theorem dX12_isRing_22 : decode cX12_isRing 22 = .ok (.iaload, 1) := by decide +kernel
theorem dX12_isRing_23 : decode cX12_isRing 23 = .ok (.invokevirtual 127, 3) := by decide +kernel
theorem dX12_isRing_26 : decode cX12_isRing 26 = .ok (.ifCond .eq 24, 3) := by decide +kernel
theorem dX12_isRing_29 : decode cX12_isRing 29 = .ok (.aload_n 0, 1) := by decide +kernel
theorem dX12_isRing_30 : decode cX12_isRing 30 = .ok (.iload_n 1, 1) := by decide +kernel
theorem dX12_isRing_31 : decode cX12_isRing 31 = .ok (.invokevirtual 177, 3) := by decide +kernel
theorem dX12_isRing_34 : decode cX12_isRing 34 = .ok (.iconst 1, 1) := by decide +kernel
theorem dX12_isRing_35 : decode cX12_isRing 35 = .ok (.if_icmp .ne 15, 3) := by decide +kernel
theorem dX12_isRing_38 : decode cX12_isRing 38 = .ok (.aload_n 0, 1) := by decide +kernel
theorem dX12_isRing_39 : decode cX12_isRing 39 = .ok (.iload_n 1, 1) := by decide +kernel
theorem dX12_isRing_40 : decode cX12_isRing 40 = .ok (.invokevirtual 180, 3) := by decide +kernel
theorem dX12_isRing_43 : decode cX12_isRing 43 = .ok (.ifCond .eq 7, 3) := by decide +kernel
theorem dX12_isRing_46 : decode cX12_isRing 46 = .ok (.iconst 1, 1) := by decide +kernel
theorem dX12_isRing_47 : decode cX12_isRing 47 = .ok (.goto 4, 3) := by decide +kernel
theorem dX12_isRing_50 : decode cX12_isRing 50 = .ok (.iconst 0, 1) := by decide +kernel
theorem dX12_isRing_51 : decode cX12_isRing 51 = .ok (.ireturn, 1) := by decide +kernel
theorem dX12_findRings_0 : decode cX12_findRings 0 = .ok (.aload_n 0, 1) := by decide +kernel
theorem dX12_findRings_1 : decode cX12_findRings 1 = .ok (.iconst 0, 1) := by decide +kernel
theorem dX12_findRings_2 : decode cX12_findRings 2 = .ok (.putfield 183, 3) := by decide +kernel

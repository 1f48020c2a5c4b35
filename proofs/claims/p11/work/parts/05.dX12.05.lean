theorem dX12_closed_125 : decode cX12_closed 125 = .ok (.bipush (-9), 2) := by decide +kernel
theorem dX12_closed_127 : decode cX12_closed 127 = .ok (.ireturn, 1) := by decide +kernel
theorem dX12_closed_128 : decode cX12_closed 128 = .ok (.iconst 0, 1) := by decide +kernel
theorem dX12_closed_129 : decode cX12_closed 129 = .ok (.istore_n 3, 1) := by decide +kernel
theorem dX12_closed_130 : decode cX12_closed 130 = .ok (.iload_n 3, 1) := by decide +kernel
theorem dX12_closed_131 : decode cX12_closed 131 = .ok (.aload_n 0, 1) := by decide +kernel
theorem dX12_closed_132 : decode cX12_closed 132 = .ok (.getfield 55, 3) := by decide +kernel
theorem dX12_closed_135 : decode cX12_closed 135 = .ok (.if_icmp .ge 32, 3) := by decide +kernel
theorem dX12_closed_138 : decode cX12_closed 138 = .ok (.aload_n 0, 1) := by decide +kernel
theorem dX12_closed_139 : decode cX12_closed 139 = .ok (.iload_n 3, 1) := by decide +kernel
theorem dX12_closed_140 : decode cX12_closed 140 = .ok (.iload_n 3, 1) := by decide +kernel
theorem dX12_closed_141 : decode cX12_closed 141 = .ok (.invokevirtual 232, 3) := by decide +kernel
theorem dX12_closed_144 : decode cX12_closed 144 = .ok (.iload_n 2, 1) := by decide +kernel
theorem dX12_closed_145 : decode cX12_closed 145 = .ok (.aload_n 0, 1) := by decide +kernel
theorem dX12_closed_146 : decode cX12_closed 146 = .ok (.iconst 1, 1) := by decide +kernel
theorem dX12_closed_147 : decode cX12_closed 147 = .ok (.invokevirtual 215, 3) := by decide +kernel
theorem dX12_closed_150 : decode cX12_closed 150 = .ok (.iload_n 3, 1) := by decide +kernel
theorem dX12_closed_151 : decode cX12_closed 151 = .ok (.if_icmp .ne 7, 3) := by decide +kernel
theorem dX12_closed_154 : decode cX12_closed 154 = .ok (.iconst 1, 1) := by decide +kernel
theorem dX12_closed_155 : decode cX12_closed 155 = .ok (.goto 4, 3) := by decide +kernel
theorem dX12_closed_158 : decode cX12_closed 158 = .ok (.iconst 0, 1) := by decide +kernel
theorem dX12_closed_159 : decode cX12_closed 159 = .ok (.iadd, 1) := by decide +kernel
theorem dX12_closed_160 : decode cX12_closed 160 = .ok (.istore_n 2, 1) := by decide +kernel
theorem dX12_closed_161 : decode cX12_closed 161 = .ok (.iinc 3 1, 3) := by decide +kernel
theorem dX12_closed_164 : decode cX12_closed 164 = .ok (.goto (-34), 3) := by decide +kernel
theorem dX12_closed_167 : decode cX12_closed 167 = .ok (.iload_n 2, 1) := by decide +kernel
theorem dX12_closed_168 : decode cX12_closed 168 = .ok (.ireturn, 1) := by decide +kernel
theorem dX12_closed_169 : decode cX12_closed 169 = .ok (.aload_n 0, 1) := by decide +kernel
theorem dX12_closed_170 : decode cX12_closed 170 = .ok (.getfield 61, 3) := by decide +kernel
theorem dX12_closed_173 : decode cX12_closed 173 = .ok (.aload_n 0, 1) := by decide +kernel
theorem dX12_closed_174 : decode cX12_closed 174 = .ok (.getfield 55, 3) := by decide +kernel
theorem dX12_closed_177 : decode cX12_closed 177 = .ok (.iconst 1, 1) := by decide +kernel
theorem dX12_closed_178 : decode cX12_closed 178 = .ok (.isub, 1) := by decide +kernel
theorem dX12_closed_179 : decode cX12_closed 179 = .ok (.iaload, 1) := by decide +kernel
theorem dX12_closed_180 : decode cX12_closed 180 = .ok (.ireturn, 1) := by decide +kernel
theorem dX12_isProduct_0 : decode cX12_isProduct 0 = .ok (.iload_n 1, 1) := by decide +kernel
theorem dX12_isProduct_1 : decode cX12_isProduct 1 = .ok (.ifCond .lt 15, 3) := by decide +kernel
theorem dX12_isProduct_4 : decode cX12_isProduct 4 = .ok (.iload_n 1, 1) := by decide +kernel
theorem dX12_isProduct_5 : decode cX12_isProduct 5 = .ok (.aload_n 0, 1) := by decide +kernel
theorem dX12_isProduct_6 : decode cX12_isProduct 6 = .ok (.getfield 55, 3) := by decide +kernel
theorem dX12_isProduct_9 : decode cX12_isProduct 9 = .ok (.if_icmp .ge 7, 3) := by decide +kernel
theorem dX12_isProduct_12 : decode cX12_isProduct 12 = .ok (.iconst 1, 1) := by decide +kernel
theorem dX12_isProduct_13 : decode cX12_isProduct 13 = .ok (.goto 4, 3) := by decide +kernel
theorem dX12_isProduct_16 : decode cX12_isProduct 16 = .ok (.iconst 0, 1) := by decide +kernel
theorem dX12_isProduct_17 : decode cX12_isProduct 17 = .ok (.ireturn, 1) := by decide +kernel
theorem dX12_product_0 : decode cX12_product 0 = .ok (.aload_n 0, 1) := by decide +kernel
theorem dX12_product_1 : decode cX12_product 1 = .ok (.iload_n 1, 1) := by decide +kernel
theorem dX12_product_2 : decode cX12_product 2 = .ok (.invokevirtual 235, 3) := by decide +kernel
theorem dX12_product_5 : decode cX12_product 5 = .ok (.ifCond .eq 33, 3) := by decide +kernel
theorem dX12_product_8 : decode cX12_product 8 = .ok (.aload_n 0, 1) := by decide +kernel
theorem dX12_product_9 : decode cX12_product 9 = .ok (.iload_n 2, 1) := by decide +kernel
theorem dX12_product_10 : decode cX12_product 10 = .ok (.iload_n 3, 1) := by decide +kernel
theorem dX12_product_11 : decode cX12_product 11 = .ok (.invokevirtual 116, 3) := by decide +kernel
theorem dX12_product_14 : decode cX12_product 14 = .ok (.ifCond .eq 24, 3) := by decide +kernel
theorem dX12_product_17 : decode cX12_product 17 = .ok (.aload_n 0, 1) := by decide +kernel
theorem dX12_product_18 : decode cX12_product 18 = .ok (.getfield 58, 3) := by decide +kernel
theorem dX12_product_21 : decode cX12_product 21 = .ok (.bipush 9, 2) := by decide +kernel
theorem dX12_product_23 : decode cX12_product 23 = .ok (.iload_n 1, 1) := by decide +kernel
theorem dX12_product_24 : decode cX12_product 24 = .ok (.imul, 1) := by decide +kernel
theorem dX12_product_25 : decode cX12_product 25 = .ok (.aload_n 0, 1) := by decide +kernel
theorem dX12_product_26 : decode cX12_product 26 = .ok (.getfield 7, 3) := by decide +kernel
theorem dX12_product_29 : decode cX12_product 29 = .ok (.iload_n 2, 1) := by decide +kernel
theorem dX12_product_30 : decode cX12_product 30 = .ok (.imul, 1) := by decide +kernel
theorem dX12_product_31 : decode cX12_product 31 = .ok (.iadd, 1) := by decide +kernel
theorem dX12_product_32 : decode cX12_product 32 = .ok (.iload_n 3, 1) := by decide +kernel
theorem dX12_product_33 : decode cX12_product 33 = .ok (.iadd, 1) := by decide +kernel
theorem dX12_product_34 : decode cX12_product 34 = .ok (.laload, 1) := by decide +kernel
theorem dX12_product_35 : decode cX12_product 35 = .ok (.goto 6, 3) := by decide +kernel
theorem dX12_product_38 : decode cX12_product 38 = .ok (.ldc2_w 79, 3) := by decide +kernel
theorem dX12_product_41 : decode cX12_product 41 = .ok (.lreturn, 1) := by decide +kernel
theorem dX12_times_0 : decode cX12_times 0 = .ok (.aload_n 0, 1) := by decide +kernel
theorem dX12_times_1 : decode cX12_times 1 = .ok (.iload_n 1, 1) := by decide +kernel
theorem dX12_times_2 : decode cX12_times 2 = .ok (.invokevirtual 235, 3) := by decide +kernel
theorem dX12_times_5 : decode cX12_times 5 = .ok (.ifCond .eq 11, 3) := by decide +kernel
theorem dX12_times_8 : decode cX12_times 8 = .ok (.aload_n 0, 1) := by decide +kernel
theorem dX12_times_9 : decode cX12_times 9 = .ok (.iload_n 2, 1) := by decide +kernel
theorem dX12_times_10 : decode cX12_times 10 = .ok (.invokevirtual 235, 3) := by decide +kernel
theorem dX12_times_13 : decode cX12_times 13 = .ok (.ifCond .ne 5, 3) := by decide +kernel
theorem dX12_times_16 : decode cX12_times 16 = .ok (.iconst (-1), 1) := by decide +kernel
theorem dX12_times_17 : decode cX12_times 17 = .ok (.ireturn, 1) := by decide +kernel
theorem dX12_times_18 : decode cX12_times 18 = .ok (.aload_n 0, 1) := by decide +kernel
theorem dX12_times_19 : decode cX12_times 19 = .ok (.iload_n 1, 1) := by decide +kernel
theorem dX12_times_20 : decode cX12_times 20 = .ok (.iload_n 2, 1) := by decide +kernel
theorem dX12_times_21 : decode cX12_times 21 = .ok (.invokevirtual 232, 3) := by decide +kernel
theorem dX12_times_24 : decode cX12_times 24 = .ok (.aload_n 0, 1) := by decide +kernel
theorem dX12_times_25 : decode cX12_times 25 = .ok (.iconst 1, 1) := by decide +kernel
theorem dX12_times_26 : decode cX12_times 26 = .ok (.invokevirtual 215, 3) := by decide +kernel
theorem dX12_times_29 : decode cX12_times 29 = .ok (.ireturn, 1) := by decide +kernel
theorem dX12_isWord_0 : decode cX12_isWord 0 = .ok (.iload_n 1, 1) := by decide +kernel
theorem dX12_isWord_1 : decode cX12_isWord 1 = .ok (.ifCond .lt 15, 3) := by decide +kernel
theorem dX12_isWord_4 : decode cX12_isWord 4 = .ok (.iload_n 1, 1) := by decide +kernel
theorem dX12_isWord_5 : decode cX12_isWord 5 = .ok (.aload_n 0, 1) := by decide +kernel
theorem dX12_isWord_6 : decode cX12_isWord 6 = .ok (.getfield 97, 3) := by decide +kernel
theorem dX12_isWord_9 : decode cX12_isWord 9 = .ok (.if_icmp .ge 7, 3) := by decide +kernel
theorem dX12_isWord_12 : decode cX12_isWord 12 = .ok (.iconst 1, 1) := by decide +kernel
theorem dX12_isWord_13 : decode cX12_isWord 13 = .ok (.goto 4, 3) := by decide +kernel
theorem dX12_isWord_16 : decode cX12_isWord 16 = .ok (.iconst 0, 1) := by decide +kernel
theorem dX12_isWord_17 : decode cX12_isWord 17 = .ok (.ireturn, 1) := by decide +kernel
theorem dX12_word_0 : decode cX12_word 0 = .ok (.aload_n 0, 1) := by decide +kernel
theorem dX12_word_1 : decode cX12_word 1 = .ok (.iconst 0, 1) := by decide +kernel
theorem dX12_word_2 : decode cX12_word 2 = .ok (.putfield 76, 3) := by decide +kernel
theorem dX12_word_5 : decode cX12_word 5 = .ok (.aload_n 0, 1) := by decide +kernel
theorem dX12_word_6 : decode cX12_word 6 = .ok (.iload_n 1, 1) := by decide +kernel
theorem dX12_word_7 : decode cX12_word 7 = .ok (.iload_n 2, 1) := by decide +kernel
theorem dX12_word_8 : decode cX12_word 8 = .ok (.invokevirtual 104, 3) := by decide +kernel
theorem dX12_word_11 : decode cX12_word 11 = .ok (.istore 5, 2) := by decide +kernel
theorem dX12_word_13 : decode cX12_word 13 = .ok (.iload 5, 2) := by decide +kernel
theorem dX12_word_15 : decode cX12_word 15 = .ok (.ifCond .eq 6, 3) := by decide +kernel
theorem dX12_word_18 : decode cX12_word 18 = .ok (.iload 5, 2) := by decide +kernel
theorem dX12_word_20 : decode cX12_word 20 = .ok (.ireturn, 1) := by decide +kernel
theorem dX12_word_21 : decode cX12_word 21 = .ok (.iload 4, 2) := by decide +kernel
theorem dX12_word_23 : decode cX12_word 23 = .ok (.ifCond .ge 9, 3) := by decide +kernel
theorem dX12_word_26 : decode cX12_word 26 = .ok (.aload_n 0, 1) := by decide +kernel
theorem dX12_word_27 : decode cX12_word 27 = .ok (.iconst 4, 1) := by decide +kernel
theorem dX12_word_28 : decode cX12_word 28 = .ok (.invokevirtual 100, 3) := by decide +kernel
theorem dX12_word_31 : decode cX12_word 31 = .ok (.ireturn, 1) := by decide +kernel
theorem dX12_word_32 : decode cX12_word 32 = .ok (.iload_n 3, 1) := by decide +kernel
theorem dX12_word_33 : decode cX12_word 33 = .ok (.ifCond .lt 26, 3) := by decide +kernel
theorem dX12_word_36 : decode cX12_word 36 = .ok (.iload_n 3, 1) := by decide +kernel
theorem dX12_word_37 : decode cX12_word 37 = .ok (.aload_n 0, 1) := by decide +kernel
theorem dX12_word_38 : decode cX12_word 38 = .ok (.getfield 24, 3) := by decide +kernel
theorem dX12_word_41 : decode cX12_word 41 = .ok (.iload_n 1, 1) := by decide +kernel
theorem dX12_word_42 : decode cX12_word 42 = .ok (.iaload, 1) := by decide +kernel
theorem dX12_word_43 : decode cX12_word 43 = .ok (.if_icmp .gt 16, 3) := by decide +kernel
theorem dX12_word_46 : decode cX12_word 46 = .ok (.iload 4, 2) := by decide +kernel
theorem dX12_word_48 : decode cX12_word 48 = .ok (.aload_n 0, 1) := by decide +kernel
theorem dX12_word_49 : decode cX12_word 49 = .ok (.getfield 24, 3) := by decide +kernel
theorem dX12_word_52 : decode cX12_word 52 = .ok (.iload_n 1, 1) := by decide +kernel
theorem dX12_word_53 : decode cX12_word 53 = .ok (.iaload, 1) := by decide +kernel
theorem dX12_word_54 : decode cX12_word 54 = .ok (.iload_n 3, 1) := by decide +kernel
theorem dX12_word_55 : decode cX12_word 55 = .ok (.isub, 1) := by decide +kernel
theorem dX12_word_56 : decode cX12_word 56 = .ok (.if_icmp .le 9, 3) := by decide +kernel
theorem dX12_word_59 : decode cX12_word 59 = .ok (.aload_n 0, 1) := by decide +kernel
theorem dX12_word_60 : decode cX12_word 60 = .ok (.iconst 3, 1) := by decide +kernel
theorem dX12_word_61 : decode cX12_word 61 = .ok (.invokevirtual 100, 3) := by decide +kernel
theorem dX12_word_64 : decode cX12_word 64 = .ok (.ireturn, 1) := by decide +kernel
theorem dX12_word_65 : decode cX12_word 65 = .ok (.iload 4, 2) := by decide +kernel
theorem dX12_word_67 : decode cX12_word 67 = .ok (.i2l, 1) := by decide +kernel
theorem dX12_word_68 : decode cX12_word 68 = .ok (.lconst 1, 1) := by decide +kernel
theorem dX12_word_69 : decode cX12_word 69 = .ok (.ldc2_w 238, 3) := by decide +kernel
theorem dX12_word_72 : decode cX12_word 72 = .ok (.invokestatic 84, 3) := by decide +kernel
theorem dX12_word_75 : decode cX12_word 75 = .ok (.ifCond .ne 6, 3) := by decide +kernel
theorem dX12_word_78 : decode cX12_word 78 = .ok (.bipush (-2), 2) := by decide +kernel
theorem dX12_word_80 : decode cX12_word 80 = .ok (.ireturn, 1) := by decide +kernel
theorem dX12_word_81 : decode cX12_word 81 = .ok (.iconst 0, 1) := by decide +kernel
theorem dX12_word_82 : decode cX12_word 82 = .ok (.istore 6, 2) := by decide +kernel
theorem dX12_word_84 : decode cX12_word 84 = .ok (.iload 6, 2) := by decide +kernel
theorem dX12_word_86 : decode cX12_word 86 = .ok (.iload 4, 2) := by decide +kernel
theorem dX12_word_88 : decode cX12_word 88 = .ok (.if_icmp .ge 32, 3) := by decide +kernel
theorem dX12_word_91 : decode cX12_word 91 = .ok (.aload_n 0, 1) := by decide +kernel
theorem dX12_word_92 : decode cX12_word 92 = .ok (.aload_n 0, 1) := by decide +kernel
theorem dX12_word_93 : decode cX12_word 93 = .ok (.getfield 27, 3) := by decide +kernel
theorem dX12_word_96 : decode cX12_word 96 = .ok (.bipush 40, 2) := by decide +kernel
theorem dX12_word_98 : decode cX12_word 98 = .ok (.iload_n 1, 1) := by decide +kernel
theorem dX12_word_99 : decode cX12_word 99 = .ok (.imul, 1) := by decide +kernel
theorem dX12_word_100 : decode cX12_word 100 = .ok (.iload_n 3, 1) := by decide +kernel
theorem dX12_word_101 : decode cX12_word 101 = .ok (.iadd, 1) := by decide +kernel
theorem dX12_word_102 : decode cX12_word 102 = .ok (.iload 6, 2) := by decide +kernel
theorem dX12_word_104 : decode cX12_word 104 = .ok (.iadd, 1) := by decide +kernel
theorem dX12_word_105 : decode cX12_word 105 = .ok (.iaload, 1) := by decide +kernel
theorem dX12_word_106 : decode cX12_word 106 = .ok (.invokevirtual 112, 3) := by decide +kernel
theorem dX12_word_109 : decode cX12_word 109 = .ok (.ifCond .ne 5, 3) := by decide +kernel
theorem dX12_word_112 : decode cX12_word 112 = .ok (.iconst (-1), 1) := by decide +kernel
theorem dX12_word_113 : decode cX12_word 113 = .ok (.ireturn, 1) := by decide +kernel
theorem dX12_word_114 : decode cX12_word 114 = .ok (.iinc 6 1, 3) := by decide +kernel
theorem dX12_word_117 : decode cX12_word 117 = .ok (.goto (-33), 3) := by decide +kernel
theorem dX12_word_120 : decode cX12_word 120 = .ok (.aload_n 0, 1) := by decide +kernel
theorem dX12_word_121 : decode cX12_word 121 = .ok (.getfield 97, 3) := by decide +kernel
theorem dX12_word_124 : decode cX12_word 124 = .ok (.bipush 10, 2) := by decide +kernel
theorem dX12_word_126 : decode cX12_word 126 = .ok (.if_icmp .ne 6, 3) := by decide +kernel
theorem dX12_word_129 : decode cX12_word 129 = .ok (.bipush (-4), 2) := by decide +kernel
theorem dX12_word_131 : decode cX12_word 131 = .ok (.ireturn, 1) := by decide +kernel
theorem dX12_word_132 : decode cX12_word 132 = .ok (.iconst 0, 1) := by decide +kernel
theorem dX12_word_133 : decode cX12_word 133 = .ok (.istore 6, 2) := by decide +kernel
theorem dX12_word_135 : decode cX12_word 135 = .ok (.iload 6, 2) := by decide +kernel
theorem dX12_word_137 : decode cX12_word 137 = .ok (.iload 4, 2) := by decide +kernel
theorem dX12_word_139 : decode cX12_word 139 = .ok (.if_icmp .ge 38, 3) := by decide +kernel
theorem dX12_word_142 : decode cX12_word 142 = .ok (.aload_n 0, 1) := by decide +kernel
theorem dX12_word_143 : decode cX12_word 143 = .ok (.getfield 70, 3) := by decide +kernel
theorem dX12_word_146 : decode cX12_word 146 = .ok (.bipush 12, 2) := by decide +kernel
theorem dX12_word_148 : decode cX12_word 148 = .ok (.aload_n 0, 1) := by decide +kernel
theorem dX12_word_149 : decode cX12_word 149 = .ok (.getfield 97, 3) := by decide +kernel
theorem dX12_word_152 : decode cX12_word 152 = .ok (.imul, 1) := by decide +kernel
theorem dX12_word_153 : decode cX12_word 153 = .ok (.iload 6, 2) := by decide +kernel
theorem dX12_word_155 : decode cX12_word 155 = .ok (.iadd, 1) := by decide +kernel
theorem dX12_word_156 : decode cX12_word 156 = .ok (.aload_n 0, 1) := by decide +kernel
theorem dX12_word_157 : decode cX12_word 157 = .ok (.getfield 27, 3) := by decide +kernel
theorem dX12_word_160 : decode cX12_word 160 = .ok (.bipush 40, 2) := by decide +kernel
theorem dX12_word_162 : decode cX12_word 162 = .ok (.iload_n 1, 1) := by decide +kernel
theorem dX12_word_163 : decode cX12_word 163 = .ok (.imul, 1) := by decide +kernel
theorem dX12_word_164 : decode cX12_word 164 = .ok (.iload_n 3, 1) := by decide +kernel
theorem dX12_word_165 : decode cX12_word 165 = .ok (.iadd, 1) := by decide +kernel
theorem dX12_word_166 : decode cX12_word 166 = .ok (.iload 6, 2) := by decide +kernel
theorem dX12_word_168 : decode cX12_word 168 = .ok (.iadd, 1) := by decide +kernel
theorem dX12_word_169 : decode cX12_word 169 = .ok (.iaload, 1) := by decide +kernel
theorem dX12_word_170 : decode cX12_word 170 = .ok (.iastore, 1) := by decide +kernel
theorem dX12_word_171 : decode cX12_word 171 = .ok (.iinc 6 1, 3) := by decide +kernel
theorem dX12_word_174 : decode cX12_word 174 = .ok (.goto (-39), 3) := by decide +kernel
theorem dX12_word_177 : decode cX12_word 177 = .ok (.aload_n 0, 1) := by decide +kernel
theorem dX12_word_178 : decode cX12_word 178 = .ok (.getfield 73, 3) := by decide +kernel
theorem dX12_word_181 : decode cX12_word 181 = .ok (.aload_n 0, 1) := by decide +kernel
theorem dX12_word_182 : decode cX12_word 182 = .ok (.getfield 97, 3) := by decide +kernel
theorem dX12_word_185 : decode cX12_word 185 = .ok (.iload 4, 2) := by decide +kernel
theorem dX12_word_187 : decode cX12_word 187 = .ok (.iastore, 1) := by decide +kernel
theorem dX12_word_188 : decode cX12_word 188 = .ok (.aload_n 0, 1) := by decide +kernel
theorem dX12_word_189 : decode cX12_word 189 = .ok (.dup, 1) := by decide +kernel
theorem dX12_word_190 : decode cX12_word 190 = .ok (.getfield 97, 3) := by decide +kernel
theorem dX12_word_193 : decode cX12_word 193 = .ok (.iconst 1, 1) := by decide +kernel
theorem dX12_word_194 : decode cX12_word 194 = .ok (.iadd, 1) := by decide +kernel
theorem dX12_word_195 : decode cX12_word 195 = .ok (.putfield 97, 3) := by decide +kernel
theorem dX12_word_198 : decode cX12_word 198 = .ok (.aload_n 0, 1) := by decide +kernel
theorem dX12_word_199 : decode cX12_word 199 = .ok (.getfield 97, 3) := by decide +kernel
theorem dX12_word_202 : decode cX12_word 202 = .ok (.iconst 1, 1) := by decide +kernel
theorem dX12_word_203 : decode cX12_word 203 = .ok (.isub, 1) := by decide +kernel
theorem dX12_word_204 : decode cX12_word 204 = .ok (.ireturn, 1) := by decide +kernel
theorem dX12_join_0 : decode cX12_join 0 = .ok (.aload_n 0, 1) := by decide +kernel
theorem dX12_join_1 : decode cX12_join 1 = .ok (.iload_n 1, 1) := by decide +kernel
theorem dX12_join_2 : decode cX12_join 2 = .ok (.invokevirtual 240, 3) := by decide +kernel
theorem dX12_join_5 : decode cX12_join 5 = .ok (.ifCond .eq 11, 3) := by decide +kernel
theorem dX12_join_8 : decode cX12_join 8 = .ok (.aload_n 0, 1) := by decide +kernel
theorem dX12_join_9 : decode cX12_join 9 = .ok (.iload_n 2, 1) := by decide +kernel
theorem dX12_join_10 : decode cX12_join 10 = .ok (.invokevirtual 240, 3) := by decide +kernel
theorem dX12_join_13 : decode cX12_join 13 = .ok (.ifCond .ne 5, 3) := by decide +kernel
theorem dX12_join_16 : decode cX12_join 16 = .ok (.iconst (-1), 1) := by decide +kernel
theorem dX12_join_17 : decode cX12_join 17 = .ok (.ireturn, 1) := by decide +kernel
theorem dX12_join_18 : decode cX12_join 18 = .ok (.aload_n 0, 1) := by decide +kernel
theorem dX12_join_19 : decode cX12_join 19 = .ok (.getfield 73, 3) := by decide +kernel
theorem dX12_join_22 : decode cX12_join 22 = .ok (.iload_n 1, 1) := by decide +kernel
theorem dX12_join_23 : decode cX12_join 23 = .ok (.iaload, 1) := by decide +kernel
theorem dX12_join_24 : decode cX12_join 24 = .ok (.aload_n 0, 1) := by decide +kernel
theorem dX12_join_25 : decode cX12_join 25 = .ok (.getfield 73, 3) := by decide +kernel
theorem dX12_join_28 : decode cX12_join 28 = .ok (.iload_n 2, 1) := by decide +kernel
theorem dX12_join_29 : decode cX12_join 29 = .ok (.iaload, 1) := by decide +kernel
theorem dX12_join_30 : decode cX12_join 30 = .ok (.iadd, 1) := by decide +kernel
theorem dX12_join_31 : decode cX12_join 31 = .ok (.bipush 12, 2) := by decide +kernel
theorem dX12_join_33 : decode cX12_join 33 = .ok (.if_icmp .le 6, 3) := by decide +kernel
theorem dX12_join_36 : decode cX12_join 36 = .ok (.bipush (-2), 2) := by decide +kernel
theorem dX12_join_38 : decode cX12_join 38 = .ok (.ireturn, 1) := by decide +kernel
theorem dX12_join_39 : decode cX12_join 39 = .ok (.aload_n 0, 1) := by decide +kernel
theorem dX12_join_40 : decode cX12_join 40 = .ok (.getfield 97, 3) := by decide +kernel
theorem dX12_join_43 : decode cX12_join 43 = .ok (.bipush 10, 2) := by decide +kernel
theorem dX12_join_45 : decode cX12_join 45 = .ok (.if_icmp .ne 6, 3) := by decide +kernel
theorem dX12_join_48 : decode cX12_join 48 = .ok (.bipush (-4), 2) := by decide +kernel
theorem dX12_join_50 : decode cX12_join 50 = .ok (.ireturn, 1) := by decide +kernel
theorem dX12_join_51 : decode cX12_join 51 = .ok (.iconst 0, 1) := by decide +kernel
theorem dX12_join_52 : decode cX12_join 52 = .ok (.istore_n 3, 1) := by decide +kernel
theorem dX12_join_53 : decode cX12_join 53 = .ok (.iload_n 3, 1) := by decide +kernel
theorem dX12_join_54 : decode cX12_join 54 = .ok (.aload_n 0, 1) := by decide +kernel
theorem dX12_join_55 : decode cX12_join 55 = .ok (.getfield 73, 3) := by decide +kernel
theorem dX12_join_58 : decode cX12_join 58 = .ok (.iload_n 1, 1) := by decide +kernel
theorem dX12_join_59 : decode cX12_join 59 = .ok (.iaload, 1) := by decide +kernel
theorem dX12_join_60 : decode cX12_join 60 = .ok (.if_icmp .ge 34, 3) := by decide +kernel
theorem dX12_join_63 : decode cX12_join 63 = .ok (.aload_n 0, 1) := by decide +kernel
theorem dX12_join_64 : decode cX12_join 64 = .ok (.getfield 70, 3) := by decide +kernel
theorem dX12_join_67 : decode cX12_join 67 = .ok (.bipush 12, 2) := by decide +kernel
theorem dX12_join_69 : decode cX12_join 69 = .ok (.aload_n 0, 1) := by decide +kernel
theorem dX12_join_70 : decode cX12_join 70 = .ok (.getfield 97, 3) := by decide +kernel
theorem dX12_join_73 : decode cX12_join 73 = .ok (.imul, 1) := by decide +kernel
theorem dX12_join_74 : decode cX12_join 74 = .ok (.iload_n 3, 1) := by decide +kernel
theorem dX12_join_75 : decode cX12_join 75 = .ok (.iadd, 1) := by decide +kernel
theorem dX12_join_76 : decode cX12_join 76 = .ok (.aload_n 0, 1) := by decide +kernel
theorem dX12_join_77 : decode cX12_join 77 = .ok (.getfield 70, 3) := by decide +kernel
theorem dX12_join_80 : decode cX12_join 80 = .ok (.bipush 12, 2) := by decide +kernel
theorem dX12_join_82 : decode cX12_join 82 = .ok (.iload_n 1, 1) := by decide +kernel
theorem dX12_join_83 : decode cX12_join 83 = .ok (.imul, 1) := by decide +kernel
theorem dX12_join_84 : decode cX12_join 84 = .ok (.iload_n 3, 1) := by decide +kernel
theorem dX12_join_85 : decode cX12_join 85 = .ok (.iadd, 1) := by decide +kernel
theorem dX12_join_86 : decode cX12_join 86 = .ok (.iaload, 1) := by decide +kernel
theorem dX12_join_87 : decode cX12_join 87 = .ok (.iastore, 1) := by decide +kernel
theorem dX12_join_88 : decode cX12_join 88 = .ok (.iinc 3 1, 3) := by decide +kernel
theorem dX12_join_91 : decode cX12_join 91 = .ok (.goto (-38), 3) := by decide +kernel
theorem dX12_join_94 : decode cX12_join 94 = .ok (.iconst 0, 1) := by decide +kernel
theorem dX12_join_95 : decode cX12_join 95 = .ok (.istore_n 3, 1) := by decide +kernel
theorem dX12_join_96 : decode cX12_join 96 = .ok (.iload_n 3, 1) := by decide +kernel
theorem dX12_join_97 : decode cX12_join 97 = .ok (.aload_n 0, 1) := by decide +kernel
theorem dX12_join_98 : decode cX12_join 98 = .ok (.getfield 73, 3) := by decide +kernel
theorem dX12_join_101 : decode cX12_join 101 = .ok (.iload_n 2, 1) := by decide +kernel
theorem dX12_join_102 : decode cX12_join 102 = .ok (.iaload, 1) := by decide +kernel
theorem dX12_join_103 : decode cX12_join 103 = .ok (.if_icmp .ge 41, 3) := by decide +kernel
theorem dX12_join_106 : decode cX12_join 106 = .ok (.aload_n 0, 1) := by decide +kernel
theorem dX12_join_107 : decode cX12_join 107 = .ok (.getfield 70, 3) := by decide +kernel
theorem dX12_join_110 : decode cX12_join 110 = .ok (.bipush 12, 2) := by decide +kernel
theorem dX12_join_112 : decode cX12_join 112 = .ok (.aload_n 0, 1) := by decide +kernel
theorem dX12_join_113 : decode cX12_join 113 = .ok (.getfield 97, 3) := by decide +kernel
theorem dX12_join_116 : decode cX12_join 116 = .ok (.imul, 1) := by decide +kernel
theorem dX12_join_117 : decode cX12_join 117 = .ok (.aload_n 0, 1) := by decide +kernel
theorem dX12_join_118 : decode cX12_join 118 = .ok (.getfield 73, 3) := by decide +kernel
theorem dX12_join_121 : decode cX12_join 121 = .ok (.iload_n 1, 1) := by decide +kernel
theorem dX12_join_122 : decode cX12_join 122 = .ok (.iaload, 1) := by decide +kernel
theorem dX12_join_123 : decode cX12_join 123 = .ok (.iadd, 1) := by decide +kernel
theorem dX12_join_124 : decode cX12_join 124 = .ok (.iload_n 3, 1) := by decide +kernel
theorem dX12_join_125 : decode cX12_join 125 = .ok (.iadd, 1) := by decide +kernel
theorem dX12_join_126 : decode cX12_join 126 = .ok (.aload_n 0, 1) := by decide +kernel
theorem dX12_join_127 : decode cX12_join 127 = .ok (.getfield 70, 3) := by decide +kernel
theorem dX12_join_130 : decode cX12_join 130 = .ok (.bipush 12, 2) := by decide +kernel
theorem dX12_join_132 : decode cX12_join 132 = .ok (.iload_n 2, 1) := by decide +kernel
theorem dX12_join_133 : decode cX12_join 133 = .ok (.imul, 1) := by decide +kernel
theorem dX12_join_134 : decode cX12_join 134 = .ok (.iload_n 3, 1) := by decide +kernel
theorem dX12_join_135 : decode cX12_join 135 = .ok (.iadd, 1) := by decide +kernel
theorem dX12_join_136 : decode cX12_join 136 = .ok (.iaload, 1) := by decide +kernel
theorem dX12_join_137 : decode cX12_join 137 = .ok (.iastore, 1) := by decide +kernel
theorem dX12_join_138 : decode cX12_join 138 = .ok (.iinc 3 1, 3) := by decide +kernel
theorem dX12_join_141 : decode cX12_join 141 = .ok (.goto (-45), 3) := by decide +kernel
theorem dX12_join_144 : decode cX12_join 144 = .ok (.aload_n 0, 1) := by decide +kernel
theorem dX12_join_145 : decode cX12_join 145 = .ok (.getfield 73, 3) := by decide +kernel
theorem dX12_join_148 : decode cX12_join 148 = .ok (.aload_n 0, 1) := by decide +kernel
theorem dX12_join_149 : decode cX12_join 149 = .ok (.getfield 97, 3) := by decide +kernel
theorem dX12_join_152 : decode cX12_join 152 = .ok (.aload_n 0, 1) := by decide +kernel
theorem dX12_join_153 : decode cX12_join 153 = .ok (.getfield 73, 3) := by decide +kernel
theorem dX12_join_156 : decode cX12_join 156 = .ok (.iload_n 1, 1) := by decide +kernel
theorem dX12_join_157 : decode cX12_join 157 = .ok (.iaload, 1) := by decide +kernel
theorem dX12_join_158 : decode cX12_join 158 = .ok (.aload_n 0, 1) := by decide +kernel
theorem dX12_join_159 : decode cX12_join 159 = .ok (.getfield 73, 3) := by decide +kernel
theorem dX12_join_162 : decode cX12_join 162 = .ok (.iload_n 2, 1) := by decide +kernel
theorem dX12_join_163 : decode cX12_join 163 = .ok (.iaload, 1) := by decide +kernel
theorem dX12_join_164 : decode cX12_join 164 = .ok (.iadd, 1) := by decide +kernel
theorem dX12_join_165 : decode cX12_join 165 = .ok (.iastore, 1) := by decide +kernel
theorem dX12_join_166 : decode cX12_join 166 = .ok (.aload_n 0, 1) := by decide +kernel
theorem dX12_join_167 : decode cX12_join 167 = .ok (.dup, 1) := by decide +kernel
theorem dX12_join_168 : decode cX12_join 168 = .ok (.getfield 97, 3) := by decide +kernel
theorem dX12_join_171 : decode cX12_join 171 = .ok (.iconst 1, 1) := by decide +kernel
theorem dX12_join_172 : decode cX12_join 172 = .ok (.iadd, 1) := by decide +kernel
theorem dX12_join_173 : decode cX12_join 173 = .ok (.putfield 97, 3) := by decide +kernel
theorem dX12_join_176 : decode cX12_join 176 = .ok (.aload_n 0, 1) := by decide +kernel
theorem dX12_join_177 : decode cX12_join 177 = .ok (.getfield 97, 3) := by decide +kernel
theorem dX12_join_180 : decode cX12_join 180 = .ok (.iconst 1, 1) := by decide +kernel
theorem dX12_join_181 : decode cX12_join 181 = .ok (.isub, 1) := by decide +kernel
theorem dX12_join_182 : decode cX12_join 182 = .ok (.ireturn, 1) := by decide +kernel
theorem dX12_letter_0 : decode cX12_letter 0 = .ok (.aload_n 0, 1) := by decide +kernel
theorem dX12_letter_1 : decode cX12_letter 1 = .ok (.iload_n 1, 1) := by decide +kernel
theorem dX12_letter_2 : decode cX12_letter 2 = .ok (.invokevirtual 240, 3) := by decide +kernel
theorem dX12_letter_5 : decode cX12_letter 5 = .ok (.ifCond .eq 35, 3) := by decide +kernel
theorem dX12_letter_8 : decode cX12_letter 8 = .ok (.iload_n 2, 1) := by decide +kernel
theorem dX12_letter_9 : decode cX12_letter 9 = .ok (.i2l, 1) := by decide +kernel
theorem dX12_letter_10 : decode cX12_letter 10 = .ok (.lconst 0, 1) := by decide +kernel
theorem dX12_letter_11 : decode cX12_letter 11 = .ok (.aload_n 0, 1) := by decide +kernel
theorem dX12_letter_12 : decode cX12_letter 12 = .ok (.getfield 73, 3) := by decide +kernel
theorem dX12_letter_15 : decode cX12_letter 15 = .ok (.iload_n 1, 1) := by decide +kernel
theorem dX12_letter_16 : decode cX12_letter 16 = .ok (.iaload, 1) := by decide +kernel
theorem dX12_letter_17 : decode cX12_letter 17 = .ok (.i2l, 1) := by decide +kernel
theorem dX12_letter_18 : decode cX12_letter 18 = .ok (.lconst 1, 1) := by decide +kernel
theorem dX12_letter_19 : decode cX12_letter 19 = .ok (.lsub, 1) := by decide +kernel
theorem dX12_letter_20 : decode cX12_letter 20 = .ok (.invokestatic 84, 3) := by decide +kernel
theorem dX12_letter_23 : decode cX12_letter 23 = .ok (.ifCond .eq 17, 3) := by decide +kernel
theorem dX12_letter_26 : decode cX12_letter 26 = .ok (.aload_n 0, 1) := by decide +kernel
theorem dX12_letter_27 : decode cX12_letter 27 = .ok (.getfield 70, 3) := by decide +kernel
theorem dX12_letter_30 : decode cX12_letter 30 = .ok (.bipush 12, 2) := by decide +kernel
theorem dX12_letter_32 : decode cX12_letter 32 = .ok (.iload_n 1, 1) := by decide +kernel
theorem dX12_letter_33 : decode cX12_letter 33 = .ok (.imul, 1) := by decide +kernel
theorem dX12_letter_34 : decode cX12_letter 34 = .ok (.iload_n 2, 1) := by decide +kernel
theorem dX12_letter_35 : decode cX12_letter 35 = .ok (.iadd, 1) := by decide +kernel
theorem dX12_letter_36 : decode cX12_letter 36 = .ok (.iaload, 1) := by decide +kernel
theorem dX12_letter_37 : decode cX12_letter 37 = .ok (.goto 4, 3) := by decide +kernel
theorem dX12_letter_40 : decode cX12_letter 40 = .ok (.iconst (-1), 1) := by decide +kernel
theorem dX12_letter_41 : decode cX12_letter 41 = .ok (.ireturn, 1) := by decide +kernel
theorem dX12_about_0 : decode cX12_about 0 = .ok (.aload_n 0, 1) := by decide +kernel
theorem dX12_about_1 : decode cX12_about 1 = .ok (.iload_n 1, 1) := by decide +kernel
theorem dX12_about_2 : decode cX12_about 2 = .ok (.invokevirtual 240, 3) := by decide +kernel
theorem dX12_about_5 : decode cX12_about 5 = .ok (.ifCond .ne 5, 3) := by decide +kernel
theorem dX12_about_8 : decode cX12_about 8 = .ok (.iconst (-1), 1) := by decide +kernel
theorem dX12_about_9 : decode cX12_about 9 = .ok (.ireturn, 1) := by decide +kernel
theorem dX12_about_10 : decode cX12_about 10 = .ok (.aload_n 0, 1) := by decide +kernel
theorem dX12_about_11 : decode cX12_about 11 = .ok (.getfield 73, 3) := by decide +kernel
theorem dX12_about_14 : decode cX12_about 14 = .ok (.iload_n 1, 1) := by decide +kernel
theorem dX12_about_15 : decode cX12_about 15 = .ok (.iaload, 1) := by decide +kernel
theorem dX12_about_16 : decode cX12_about 16 = .ok (.istore_n 3, 1) := by decide +kernel
theorem dX12_about_17 : decode cX12_about 17 = .ok (.iconst 0, 1) := by decide +kernel
theorem dX12_about_18 : decode cX12_about 18 = .ok (.istore 4, 2) := by decide +kernel
theorem dX12_about_20 : decode cX12_about 20 = .ok (.iload 4, 2) := by decide +kernel
theorem dX12_about_22 : decode cX12_about 22 = .ok (.iload_n 3, 1) := by decide +kernel
theorem dX12_about_23 : decode cX12_about 23 = .ok (.if_icmp .ge 28, 3) := by decide +kernel
theorem dX12_about_26 : decode cX12_about 26 = .ok (.aload_n 0, 1) := by decide +kernel
theorem dX12_about_27 : decode cX12_about 27 = .ok (.getfield 49, 3) := by decide +kernel
theorem dX12_about_30 : decode cX12_about 30 = .ok (.iload 4, 2) := by decide +kernel
theorem dX12_about_32 : decode cX12_about 32 = .ok (.aload_n 0, 1) := by decide +kernel
theorem dX12_about_33 : decode cX12_about 33 = .ok (.getfield 70, 3) := by decide +kernel
theorem dX12_about_36 : decode cX12_about 36 = .ok (.bipush 12, 2) := by decide +kernel
theorem dX12_about_38 : decode cX12_about 38 = .ok (.iload_n 1, 1) := by decide +kernel
theorem dX12_about_39 : decode cX12_about 39 = .ok (.imul, 1) := by decide +kernel
theorem dX12_about_40 : decode cX12_about 40 = .ok (.iload 4, 2) := by decide +kernel
theorem dX12_about_42 : decode cX12_about 42 = .ok (.iadd, 1) := by decide +kernel
theorem dX12_about_43 : decode cX12_about 43 = .ok (.iaload, 1) := by decide +kernel
theorem dX12_about_44 : decode cX12_about 44 = .ok (.iastore, 1) := by decide +kernel
theorem dX12_about_45 : decode cX12_about 45 = .ok (.iinc 4 1, 3) := by decide +kernel
theorem dX12_about_48 : decode cX12_about 48 = .ok (.goto (-28), 3) := by decide +kernel
theorem dX12_about_51 : decode cX12_about 51 = .ok (.iload_n 2, 1) := by decide +kernel
theorem dX12_about_52 : decode cX12_about 52 = .ok (.tableswitch 68 0 3 #[32, 34, 48, 62], 32) := by decide +kernel
theorem dX12_about_84 : decode cX12_about 84 = .ok (.iload_n 3, 1) := by decide +kernel
theorem dX12_about_85 : decode cX12_about 85 = .ok (.ireturn, 1) := by decide +kernel
theorem dX12_about_86 : decode cX12_about 86 = .ok (.aload_n 0, 1) := by decide +kernel
theorem dX12_about_87 : decode cX12_about 87 = .ok (.iload_n 3, 1) := by decide +kernel
theorem dX12_about_88 : decode cX12_about 88 = .ok (.invokevirtual 174, 3) := by decide +kernel
theorem dX12_about_91 : decode cX12_about 91 = .ok (.ifCond .eq 7, 3) := by decide +kernel
theorem dX12_about_94 : decode cX12_about 94 = .ok (.iconst 1, 1) := by decide +kernel
theorem dX12_about_95 : decode cX12_about 95 = .ok (.goto 4, 3) := by decide +kernel
theorem dX12_about_98 : decode cX12_about 98 = .ok (.iconst 0, 1) := by decide +kernel
theorem dX12_about_99 : decode cX12_about 99 = .ok (.ireturn, 1) := by decide +kernel
theorem dX12_about_100 : decode cX12_about 100 = .ok (.aload_n 0, 1) := by decide +kernel
theorem dX12_about_101 : decode cX12_about 101 = .ok (.iload_n 3, 1) := by decide +kernel
theorem dX12_about_102 : decode cX12_about 102 = .ok (.invokevirtual 189, 3) := by decide +kernel

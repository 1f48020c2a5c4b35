theorem dX12_comes_40 : decode cX12_comes 40 = .ok (.iinc 3 1, 3) := by decide +kernel
theorem dX12_comes_43 : decode cX12_comes 43 = .ok (.goto (-41), 3) := by decide +kernel
theorem dX12_comes_46 : decode cX12_comes 46 = .ok (.aload_n 0, 1) := by decide +kernel
theorem dX12_comes_47 : decode cX12_comes 47 = .ok (.iload_n 1, 1) := by decide +kernel
theorem dX12_comes_48 : decode cX12_comes 48 = .ok (.invokevirtual 215, 3) := by decide +kernel
theorem dX12_comes_51 : decode cX12_comes 51 = .ok (.bipush (-9), 2) := by decide +kernel
theorem dX12_comes_53 : decode cX12_comes 53 = .ok (.if_icmp .eq 5, 3) := by decide +kernel
theorem dX12_comes_56 : decode cX12_comes 56 = .ok (.iconst 1, 1) := by decide +kernel
theorem dX12_comes_57 : decode cX12_comes 57 = .ok (.ireturn, 1) := by decide +kernel
theorem dX12_comes_58 : decode cX12_comes 58 = .ok (.aload_n 0, 1) := by decide +kernel
theorem dX12_comes_59 : decode cX12_comes 59 = .ok (.getfield 55, 3) := by decide +kernel
theorem dX12_comes_62 : decode cX12_comes 62 = .ok (.sipush 2000, 3) := by decide +kernel
theorem dX12_comes_65 : decode cX12_comes 65 = .ok (.if_icmp .ne 5, 3) := by decide +kernel
theorem dX12_comes_68 : decode cX12_comes 68 = .ok (.iconst 0, 1) := by decide +kernel
theorem dX12_comes_69 : decode cX12_comes 69 = .ok (.ireturn, 1) := by decide +kernel
theorem dX12_comes_70 : decode cX12_comes 70 = .ok (.aload_n 0, 1) := by decide +kernel
theorem dX12_comes_71 : decode cX12_comes 71 = .ok (.iload_n 1, 1) := by decide +kernel
theorem dX12_comes_72 : decode cX12_comes 72 = .ok (.invokevirtual 208, 3) := by decide +kernel
theorem dX12_comes_75 : decode cX12_comes 75 = .ok (.istore_n 3, 1) := by decide +kernel
theorem dX12_comes_76 : decode cX12_comes 76 = .ok (.iconst 0, 1) := by decide +kernel
theorem dX12_comes_77 : decode cX12_comes 77 = .ok (.istore 4, 2) := by decide +kernel
theorem dX12_comes_79 : decode cX12_comes 79 = .ok (.iload 4, 2) := by decide +kernel
theorem dX12_comes_81 : decode cX12_comes 81 = .ok (.aload_n 0, 1) := by decide +kernel
theorem dX12_comes_82 : decode cX12_comes 82 = .ok (.getfield 7, 3) := by decide +kernel
theorem dX12_comes_85 : decode cX12_comes 85 = .ok (.aload_n 0, 1) := by decide +kernel
theorem dX12_comes_86 : decode cX12_comes 86 = .ok (.getfield 7, 3) := by decide +kernel
theorem dX12_comes_89 : decode cX12_comes 89 = .ok (.imul, 1) := by decide +kernel
theorem dX12_comes_90 : decode cX12_comes 90 = .ok (.if_icmp .ge 36, 3) := by decide +kernel
theorem dX12_comes_93 : decode cX12_comes 93 = .ok (.aload_n 0, 1) := by decide +kernel
theorem dX12_comes_94 : decode cX12_comes 94 = .ok (.getfield 58, 3) := by decide +kernel
theorem dX12_comes_97 : decode cX12_comes 97 = .ok (.bipush 9, 2) := by decide +kernel
theorem dX12_comes_99 : decode cX12_comes 99 = .ok (.aload_n 0, 1) := by decide +kernel
theorem dX12_comes_100 : decode cX12_comes 100 = .ok (.getfield 55, 3) := by decide +kernel
theorem dX12_comes_103 : decode cX12_comes 103 = .ok (.imul, 1) := by decide +kernel
theorem dX12_comes_104 : decode cX12_comes 104 = .ok (.iload 4, 2) := by decide +kernel
theorem dX12_comes_106 : decode cX12_comes 106 = .ok (.iadd, 1) := by decide +kernel
theorem dX12_comes_107 : decode cX12_comes 107 = .ok (.aload_n 0, 1) := by decide +kernel
theorem dX12_comes_108 : decode cX12_comes 108 = .ok (.getfield 30, 3) := by decide +kernel
theorem dX12_comes_111 : decode cX12_comes 111 = .ok (.bipush 9, 2) := by decide +kernel
theorem dX12_comes_113 : decode cX12_comes 113 = .ok (.iload_n 1, 1) := by decide +kernel
theorem dX12_comes_114 : decode cX12_comes 114 = .ok (.imul, 1) := by decide +kernel
theorem dX12_comes_115 : decode cX12_comes 115 = .ok (.iload 4, 2) := by decide +kernel
theorem dX12_comes_117 : decode cX12_comes 117 = .ok (.iadd, 1) := by decide +kernel
theorem dX12_comes_118 : decode cX12_comes 118 = .ok (.laload, 1) := by decide +kernel
theorem dX12_comes_119 : decode cX12_comes 119 = .ok (.lastore, 1) := by decide +kernel
theorem dX12_comes_120 : decode cX12_comes 120 = .ok (.iinc 4 1, 3) := by decide +kernel
theorem dX12_comes_123 : decode cX12_comes 123 = .ok (.goto (-44), 3) := by decide +kernel
theorem dX12_comes_126 : decode cX12_comes 126 = .ok (.aload_n 0, 1) := by decide +kernel
theorem dX12_comes_127 : decode cX12_comes 127 = .ok (.getfield 61, 3) := by decide +kernel
theorem dX12_comes_130 : decode cX12_comes 130 = .ok (.aload_n 0, 1) := by decide +kernel
theorem dX12_comes_131 : decode cX12_comes 131 = .ok (.getfield 55, 3) := by decide +kernel
theorem dX12_comes_134 : decode cX12_comes 134 = .ok (.iload_n 2, 1) := by decide +kernel
theorem dX12_comes_135 : decode cX12_comes 135 = .ok (.iastore, 1) := by decide +kernel
theorem dX12_comes_136 : decode cX12_comes 136 = .ok (.aload_n 0, 1) := by decide +kernel
theorem dX12_comes_137 : decode cX12_comes 137 = .ok (.getfield 67, 3) := by decide +kernel
theorem dX12_comes_140 : decode cX12_comes 140 = .ok (.aload_n 0, 1) := by decide +kernel
theorem dX12_comes_141 : decode cX12_comes 141 = .ok (.getfield 55, 3) := by decide +kernel
theorem dX12_comes_144 : decode cX12_comes 144 = .ok (.aload_n 0, 1) := by decide +kernel
theorem dX12_comes_145 : decode cX12_comes 145 = .ok (.getfield 64, 3) := by decide +kernel
theorem dX12_comes_148 : decode cX12_comes 148 = .ok (.iload_n 3, 1) := by decide +kernel
theorem dX12_comes_149 : decode cX12_comes 149 = .ok (.iaload, 1) := by decide +kernel
theorem dX12_comes_150 : decode cX12_comes 150 = .ok (.iastore, 1) := by decide +kernel
theorem dX12_comes_151 : decode cX12_comes 151 = .ok (.aload_n 0, 1) := by decide +kernel
theorem dX12_comes_152 : decode cX12_comes 152 = .ok (.getfield 64, 3) := by decide +kernel
theorem dX12_comes_155 : decode cX12_comes 155 = .ok (.iload_n 3, 1) := by decide +kernel
theorem dX12_comes_156 : decode cX12_comes 156 = .ok (.aload_n 0, 1) := by decide +kernel
theorem dX12_comes_157 : decode cX12_comes 157 = .ok (.getfield 55, 3) := by decide +kernel
theorem dX12_comes_160 : decode cX12_comes 160 = .ok (.iastore, 1) := by decide +kernel
theorem dX12_comes_161 : decode cX12_comes 161 = .ok (.aload_n 0, 1) := by decide +kernel
theorem dX12_comes_162 : decode cX12_comes 162 = .ok (.dup, 1) := by decide +kernel
theorem dX12_comes_163 : decode cX12_comes 163 = .ok (.getfield 55, 3) := by decide +kernel
theorem dX12_comes_166 : decode cX12_comes 166 = .ok (.iconst 1, 1) := by decide +kernel
theorem dX12_comes_167 : decode cX12_comes 167 = .ok (.iadd, 1) := by decide +kernel
theorem dX12_comes_168 : decode cX12_comes 168 = .ok (.putfield 55, 3) := by decide +kernel
theorem dX12_comes_171 : decode cX12_comes 171 = .ok (.iconst 1, 1) := by decide +kernel
theorem dX12_comes_172 : decode cX12_comes 172 = .ok (.ireturn, 1) := by decide +kernel
theorem dX12_layProduct_0 : decode cX12_layProduct 0 = .ok (.iconst 0, 1) := by decide +kernel
theorem dX12_layProduct_1 : decode cX12_layProduct 1 = .ok (.istore_n 3, 1) := by decide +kernel
theorem dX12_layProduct_2 : decode cX12_layProduct 2 = .ok (.iload_n 3, 1) := by decide +kernel
theorem dX12_layProduct_3 : decode cX12_layProduct 3 = .ok (.aload_n 0, 1) := by decide +kernel
theorem dX12_layProduct_4 : decode cX12_layProduct 4 = .ok (.getfield 7, 3) := by decide +kernel
theorem dX12_layProduct_7 : decode cX12_layProduct 7 = .ok (.aload_n 0, 1) := by decide +kernel
theorem dX12_layProduct_8 : decode cX12_layProduct 8 = .ok (.getfield 7, 3) := by decide +kernel
theorem dX12_layProduct_11 : decode cX12_layProduct 11 = .ok (.imul, 1) := by decide +kernel
theorem dX12_layProduct_12 : decode cX12_layProduct 12 = .ok (.if_icmp .ge 31, 3) := by decide +kernel
theorem dX12_layProduct_15 : decode cX12_layProduct 15 = .ok (.aload_n 0, 1) := by decide +kernel
theorem dX12_layProduct_16 : decode cX12_layProduct 16 = .ok (.getfield 30, 3) := by decide +kernel
theorem dX12_layProduct_19 : decode cX12_layProduct 19 = .ok (.bipush 9, 2) := by decide +kernel
theorem dX12_layProduct_21 : decode cX12_layProduct 21 = .ok (.iload_n 2, 1) := by decide +kernel
theorem dX12_layProduct_22 : decode cX12_layProduct 22 = .ok (.imul, 1) := by decide +kernel
theorem dX12_layProduct_23 : decode cX12_layProduct 23 = .ok (.iload_n 3, 1) := by decide +kernel
theorem dX12_layProduct_24 : decode cX12_layProduct 24 = .ok (.iadd, 1) := by decide +kernel
theorem dX12_layProduct_25 : decode cX12_layProduct 25 = .ok (.aload_n 0, 1) := by decide +kernel
theorem dX12_layProduct_26 : decode cX12_layProduct 26 = .ok (.getfield 58, 3) := by decide +kernel
theorem dX12_layProduct_29 : decode cX12_layProduct 29 = .ok (.bipush 9, 2) := by decide +kernel
theorem dX12_layProduct_31 : decode cX12_layProduct 31 = .ok (.iload_n 1, 1) := by decide +kernel
theorem dX12_layProduct_32 : decode cX12_layProduct 32 = .ok (.imul, 1) := by decide +kernel
theorem dX12_layProduct_33 : decode cX12_layProduct 33 = .ok (.iload_n 3, 1) := by decide +kernel
theorem dX12_layProduct_34 : decode cX12_layProduct 34 = .ok (.iadd, 1) := by decide +kernel
theorem dX12_layProduct_35 : decode cX12_layProduct 35 = .ok (.laload, 1) := by decide +kernel
theorem dX12_layProduct_36 : decode cX12_layProduct 36 = .ok (.lastore, 1) := by decide +kernel
theorem dX12_layProduct_37 : decode cX12_layProduct 37 = .ok (.iinc 3 1, 3) := by decide +kernel
theorem dX12_layProduct_40 : decode cX12_layProduct 40 = .ok (.goto (-38), 3) := by decide +kernel
theorem dX12_layProduct_43 : decode cX12_layProduct 43 = .ok (.return_, 1) := by decide +kernel
theorem dX12_close_0 : decode cX12_close 0 = .ok (.aload_n 0, 1) := by decide +kernel
theorem dX12_close_1 : decode cX12_close 1 = .ok (.getfield 81, 3) := by decide +kernel
theorem dX12_close_4 : decode cX12_close 4 = .ok (.ifCond .ne 6, 3) := by decide +kernel
theorem dX12_close_7 : decode cX12_close 7 = .ok (.bipush (-3), 2) := by decide +kernel
theorem dX12_close_9 : decode cX12_close 9 = .ok (.ireturn, 1) := by decide +kernel
theorem dX12_close_10 : decode cX12_close 10 = .ok (.aload_n 0, 1) := by decide +kernel
theorem dX12_close_11 : decode cX12_close 11 = .ok (.iconst 0, 1) := by decide +kernel
theorem dX12_close_12 : decode cX12_close 12 = .ok (.putfield 55, 3) := by decide +kernel
theorem dX12_close_15 : decode cX12_close 15 = .ok (.iconst 0, 1) := by decide +kernel
theorem dX12_close_16 : decode cX12_close 16 = .ok (.istore_n 1, 1) := by decide +kernel
theorem dX12_close_17 : decode cX12_close 17 = .ok (.iload_n 1, 1) := by decide +kernel
theorem dX12_close_18 : decode cX12_close 18 = .ok (.sipush 4096, 3) := by decide +kernel
theorem dX12_close_21 : decode cX12_close 21 = .ok (.if_icmp .ge 17, 3) := by decide +kernel
theorem dX12_close_24 : decode cX12_close 24 = .ok (.aload_n 0, 1) := by decide +kernel
theorem dX12_close_25 : decode cX12_close 25 = .ok (.getfield 64, 3) := by decide +kernel
theorem dX12_close_28 : decode cX12_close 28 = .ok (.iload_n 1, 1) := by decide +kernel
theorem dX12_close_29 : decode cX12_close 29 = .ok (.bipush (-9), 2) := by decide +kernel
theorem dX12_close_31 : decode cX12_close 31 = .ok (.iastore, 1) := by decide +kernel
theorem dX12_close_32 : decode cX12_close 32 = .ok (.iinc 1 1, 3) := by decide +kernel
theorem dX12_close_35 : decode cX12_close 35 = .ok (.goto (-18), 3) := by decide +kernel
theorem dX12_close_38 : decode cX12_close 38 = .ok (.iconst 1, 1) := by decide +kernel
theorem dX12_close_39 : decode cX12_close 39 = .ok (.istore_n 1, 1) := by decide +kernel
theorem dX12_close_40 : decode cX12_close 40 = .ok (.aload_n 0, 1) := by decide +kernel
theorem dX12_close_41 : decode cX12_close 41 = .ok (.invokevirtual 132, 3) := by decide +kernel
theorem dX12_close_44 : decode cX12_close 44 = .ok (.iconst 0, 1) := by decide +kernel
theorem dX12_close_45 : decode cX12_close 45 = .ok (.istore_n 2, 1) := by decide +kernel
theorem dX12_close_46 : decode cX12_close 46 = .ok (.iload_n 2, 1) := by decide +kernel
theorem dX12_close_47 : decode cX12_close 47 = .ok (.aload_n 0, 1) := by decide +kernel
theorem dX12_close_48 : decode cX12_close 48 = .ok (.getfield 81, 3) := by decide +kernel
theorem dX12_close_51 : decode cX12_close 51 = .ok (.if_icmp .ge 26, 3) := by decide +kernel
theorem dX12_close_54 : decode cX12_close 54 = .ok (.iload_n 1, 1) := by decide +kernel
theorem dX12_close_55 : decode cX12_close 55 = .ok (.ifCond .eq 22, 3) := by decide +kernel
theorem dX12_close_58 : decode cX12_close 58 = .ok (.aload_n 0, 1) := by decide +kernel
theorem dX12_close_59 : decode cX12_close 59 = .ok (.iconst 0, 1) := by decide +kernel
theorem dX12_close_60 : decode cX12_close 60 = .ok (.iload_n 2, 1) := by decide +kernel
theorem dX12_close_61 : decode cX12_close 61 = .ok (.invokevirtual 138, 3) := by decide +kernel
theorem dX12_close_64 : decode cX12_close 64 = .ok (.aload_n 0, 1) := by decide +kernel
theorem dX12_close_65 : decode cX12_close 65 = .ok (.iconst 1, 1) := by decide +kernel
theorem dX12_close_66 : decode cX12_close 66 = .ok (.iconst 1, 1) := by decide +kernel
theorem dX12_close_67 : decode cX12_close 67 = .ok (.invokevirtual 218, 3) := by decide +kernel
theorem dX12_close_70 : decode cX12_close 70 = .ok (.istore_n 1, 1) := by decide +kernel
theorem dX12_close_71 : decode cX12_close 71 = .ok (.iinc 2 1, 3) := by decide +kernel
theorem dX12_close_74 : decode cX12_close 74 = .ok (.goto (-28), 3) := by decide +kernel
theorem dX12_close_77 : decode cX12_close 77 = .ok (.iconst 0, 1) := by decide +kernel
theorem dX12_close_78 : decode cX12_close 78 = .ok (.istore_n 2, 1) := by decide +kernel
theorem dX12_close_79 : decode cX12_close 79 = .ok (.iload_n 2, 1) := by decide +kernel
theorem dX12_close_80 : decode cX12_close 80 = .ok (.aload_n 0, 1) := by decide +kernel
theorem dX12_close_81 : decode cX12_close 81 = .ok (.getfield 55, 3) := by decide +kernel
theorem dX12_close_84 : decode cX12_close 84 = .ok (.if_icmp .ge 59, 3) := by decide +kernel
theorem dX12_close_87 : decode cX12_close 87 = .ok (.iload_n 1, 1) := by decide +kernel
theorem dX12_close_88 : decode cX12_close 88 = .ok (.ifCond .eq 55, 3) := by decide +kernel
theorem dX12_close_91 : decode cX12_close 91 = .ok (.iconst 0, 1) := by decide +kernel
theorem dX12_close_92 : decode cX12_close 92 = .ok (.istore_n 3, 1) := by decide +kernel
theorem dX12_close_93 : decode cX12_close 93 = .ok (.iload_n 3, 1) := by decide +kernel
theorem dX12_close_94 : decode cX12_close 94 = .ok (.aload_n 0, 1) := by decide +kernel
theorem dX12_close_95 : decode cX12_close 95 = .ok (.getfield 81, 3) := by decide +kernel
theorem dX12_close_98 : decode cX12_close 98 = .ok (.if_icmp .ge 39, 3) := by decide +kernel
theorem dX12_close_101 : decode cX12_close 101 = .ok (.iload_n 1, 1) := by decide +kernel
theorem dX12_close_102 : decode cX12_close 102 = .ok (.ifCond .eq 35, 3) := by decide +kernel
theorem dX12_close_105 : decode cX12_close 105 = .ok (.aload_n 0, 1) := by decide +kernel
theorem dX12_close_106 : decode cX12_close 106 = .ok (.iload_n 2, 1) := by decide +kernel
theorem dX12_close_107 : decode cX12_close 107 = .ok (.iconst 0, 1) := by decide +kernel
theorem dX12_close_108 : decode cX12_close 108 = .ok (.invokevirtual 221, 3) := by decide +kernel
theorem dX12_close_111 : decode cX12_close 111 = .ok (.aload_n 0, 1) := by decide +kernel
theorem dX12_close_112 : decode cX12_close 112 = .ok (.iconst 0, 1) := by decide +kernel
theorem dX12_close_113 : decode cX12_close 113 = .ok (.iload_n 3, 1) := by decide +kernel
theorem dX12_close_114 : decode cX12_close 114 = .ok (.invokevirtual 138, 3) := by decide +kernel
theorem dX12_close_117 : decode cX12_close 117 = .ok (.aload_n 0, 1) := by decide +kernel
theorem dX12_close_118 : decode cX12_close 118 = .ok (.iconst 1, 1) := by decide +kernel
theorem dX12_close_119 : decode cX12_close 119 = .ok (.aload_n 0, 1) := by decide +kernel
theorem dX12_close_120 : decode cX12_close 120 = .ok (.getfield 61, 3) := by decide +kernel
theorem dX12_close_123 : decode cX12_close 123 = .ok (.iload_n 2, 1) := by decide +kernel
theorem dX12_close_124 : decode cX12_close 124 = .ok (.iaload, 1) := by decide +kernel
theorem dX12_close_125 : decode cX12_close 125 = .ok (.iconst 1, 1) := by decide +kernel
theorem dX12_close_126 : decode cX12_close 126 = .ok (.iadd, 1) := by decide +kernel
theorem dX12_close_127 : decode cX12_close 127 = .ok (.invokevirtual 218, 3) := by decide +kernel
theorem dX12_close_130 : decode cX12_close 130 = .ok (.istore_n 1, 1) := by decide +kernel
theorem dX12_close_131 : decode cX12_close 131 = .ok (.iinc 3 1, 3) := by decide +kernel
theorem dX12_close_134 : decode cX12_close 134 = .ok (.goto (-41), 3) := by decide +kernel
theorem dX12_close_137 : decode cX12_close 137 = .ok (.iinc 2 1, 3) := by decide +kernel
theorem dX12_close_140 : decode cX12_close 140 = .ok (.goto (-61), 3) := by decide +kernel
theorem dX12_close_143 : decode cX12_close 143 = .ok (.iload_n 1, 1) := by decide +kernel
theorem dX12_close_144 : decode cX12_close 144 = .ok (.ifCond .ne 12, 3) := by decide +kernel
theorem dX12_close_147 : decode cX12_close 147 = .ok (.aload_n 0, 1) := by decide +kernel
theorem dX12_close_148 : decode cX12_close 148 = .ok (.bipush (-9), 2) := by decide +kernel
theorem dX12_close_150 : decode cX12_close 150 = .ok (.putfield 55, 3) := by decide +kernel
theorem dX12_close_153 : decode cX12_close 153 = .ok (.bipush (-6), 2) := by decide +kernel
theorem dX12_close_155 : decode cX12_close 155 = .ok (.ireturn, 1) := by decide +kernel
theorem dX12_close_156 : decode cX12_close 156 = .ok (.aload_n 0, 1) := by decide +kernel
theorem dX12_close_157 : decode cX12_close 157 = .ok (.getfield 55, 3) := by decide +kernel
theorem dX12_close_160 : decode cX12_close 160 = .ok (.ireturn, 1) := by decide +kernel
theorem dX12_multiply_0 : decode cX12_multiply 0 = .ok (.iconst 0, 1) := by decide +kernel
theorem dX12_multiply_1 : decode cX12_multiply 1 = .ok (.istore_n 3, 1) := by decide +kernel
theorem dX12_multiply_2 : decode cX12_multiply 2 = .ok (.iload_n 3, 1) := by decide +kernel
theorem dX12_multiply_3 : decode cX12_multiply 3 = .ok (.aload_n 0, 1) := by decide +kernel
theorem dX12_multiply_4 : decode cX12_multiply 4 = .ok (.getfield 7, 3) := by decide +kernel
theorem dX12_multiply_7 : decode cX12_multiply 7 = .ok (.if_icmp .ge 116, 3) := by decide +kernel
theorem dX12_multiply_10 : decode cX12_multiply 10 = .ok (.iconst 0, 1) := by decide +kernel
theorem dX12_multiply_11 : decode cX12_multiply 11 = .ok (.istore 4, 2) := by decide +kernel
theorem dX12_multiply_13 : decode cX12_multiply 13 = .ok (.iload 4, 2) := by decide +kernel
theorem dX12_multiply_15 : decode cX12_multiply 15 = .ok (.aload_n 0, 1) := by decide +kernel
theorem dX12_multiply_16 : decode cX12_multiply 16 = .ok (.getfield 7, 3) := by decide +kernel
theorem dX12_multiply_19 : decode cX12_multiply 19 = .ok (.if_icmp .ge 98, 3) := by decide +kernel
theorem dX12_multiply_22 : decode cX12_multiply 22 = .ok (.lconst 0, 1) := by decide +kernel
theorem dX12_multiply_23 : decode cX12_multiply 23 = .ok (.lstore 5, 2) := by decide +kernel
theorem dX12_multiply_25 : decode cX12_multiply 25 = .ok (.iconst 0, 1) := by decide +kernel
theorem dX12_multiply_26 : decode cX12_multiply 26 = .ok (.istore 7, 2) := by decide +kernel
theorem dX12_multiply_28 : decode cX12_multiply 28 = .ok (.iload 7, 2) := by decide +kernel
theorem dX12_multiply_30 : decode cX12_multiply 30 = .ok (.aload_n 0, 1) := by decide +kernel
theorem dX12_multiply_31 : decode cX12_multiply 31 = .ok (.getfield 7, 3) := by decide +kernel
theorem dX12_multiply_34 : decode cX12_multiply 34 = .ok (.if_icmp .ge 54, 3) := by decide +kernel
theorem dX12_multiply_37 : decode cX12_multiply 37 = .ok (.lload 5, 2) := by decide +kernel
theorem dX12_multiply_39 : decode cX12_multiply 39 = .ok (.aload_n 0, 1) := by decide +kernel
theorem dX12_multiply_40 : decode cX12_multiply 40 = .ok (.getfield 58, 3) := by decide +kernel
theorem dX12_multiply_43 : decode cX12_multiply 43 = .ok (.bipush 9, 2) := by decide +kernel
theorem dX12_multiply_45 : decode cX12_multiply 45 = .ok (.iload_n 1, 1) := by decide +kernel
theorem dX12_multiply_46 : decode cX12_multiply 46 = .ok (.imul, 1) := by decide +kernel
theorem dX12_multiply_47 : decode cX12_multiply 47 = .ok (.aload_n 0, 1) := by decide +kernel
theorem dX12_multiply_48 : decode cX12_multiply 48 = .ok (.getfield 7, 3) := by decide +kernel
theorem dX12_multiply_51 : decode cX12_multiply 51 = .ok (.iload_n 3, 1) := by decide +kernel
theorem dX12_multiply_52 : decode cX12_multiply 52 = .ok (.imul, 1) := by decide +kernel
theorem dX12_multiply_53 : decode cX12_multiply 53 = .ok (.iadd, 1) := by decide +kernel
theorem dX12_multiply_54 : decode cX12_multiply 54 = .ok (.iload 7, 2) := by decide +kernel
theorem dX12_multiply_56 : decode cX12_multiply 56 = .ok (.iadd, 1) := by decide +kernel
theorem dX12_multiply_57 : decode cX12_multiply 57 = .ok (.laload, 1) := by decide +kernel
theorem dX12_multiply_58 : decode cX12_multiply 58 = .ok (.aload_n 0, 1) := by decide +kernel
theorem dX12_multiply_59 : decode cX12_multiply 59 = .ok (.getfield 58, 3) := by decide +kernel
theorem dX12_multiply_62 : decode cX12_multiply 62 = .ok (.bipush 9, 2) := by decide +kernel
theorem dX12_multiply_64 : decode cX12_multiply 64 = .ok (.iload_n 2, 1) := by decide +kernel
theorem dX12_multiply_65 : decode cX12_multiply 65 = .ok (.imul, 1) := by decide +kernel
theorem dX12_multiply_66 : decode cX12_multiply 66 = .ok (.aload_n 0, 1) := by decide +kernel
theorem dX12_multiply_67 : decode cX12_multiply 67 = .ok (.getfield 7, 3) := by decide +kernel
theorem dX12_multiply_70 : decode cX12_multiply 70 = .ok (.iload 7, 2) := by decide +kernel
theorem dX12_multiply_72 : decode cX12_multiply 72 = .ok (.imul, 1) := by decide +kernel
theorem dX12_multiply_73 : decode cX12_multiply 73 = .ok (.iadd, 1) := by decide +kernel
theorem dX12_multiply_74 : decode cX12_multiply 74 = .ok (.iload 4, 2) := by decide +kernel
theorem dX12_multiply_76 : decode cX12_multiply 76 = .ok (.iadd, 1) := by decide +kernel
theorem dX12_multiply_77 : decode cX12_multiply 77 = .ok (.laload, 1) := by decide +kernel
theorem dX12_multiply_78 : decode cX12_multiply 78 = .ok (.lmul, 1) := by decide +kernel
theorem dX12_multiply_79 : decode cX12_multiply 79 = .ok (.ladd, 1) := by decide +kernel
theorem dX12_multiply_80 : decode cX12_multiply 80 = .ok (.lstore 5, 2) := by decide +kernel
theorem dX12_multiply_82 : decode cX12_multiply 82 = .ok (.iinc 7 1, 3) := by decide +kernel
theorem dX12_multiply_85 : decode cX12_multiply 85 = .ok (.goto (-57), 3) := by decide +kernel
theorem dX12_multiply_88 : decode cX12_multiply 88 = .ok (.aload_n 0, 1) := by decide +kernel
theorem dX12_multiply_89 : decode cX12_multiply 89 = .ok (.getfield 30, 3) := by decide +kernel
theorem dX12_multiply_92 : decode cX12_multiply 92 = .ok (.bipush 9, 2) := by decide +kernel
theorem dX12_multiply_94 : decode cX12_multiply 94 = .ok (.aload_n 0, 1) := by decide +kernel
theorem dX12_multiply_95 : decode cX12_multiply 95 = .ok (.getfield 7, 3) := by decide +kernel
theorem dX12_multiply_98 : decode cX12_multiply 98 = .ok (.iload_n 3, 1) := by decide +kernel
theorem dX12_multiply_99 : decode cX12_multiply 99 = .ok (.imul, 1) := by decide +kernel
theorem dX12_multiply_100 : decode cX12_multiply 100 = .ok (.iadd, 1) := by decide +kernel
theorem dX12_multiply_101 : decode cX12_multiply 101 = .ok (.iload 4, 2) := by decide +kernel
theorem dX12_multiply_103 : decode cX12_multiply 103 = .ok (.iadd, 1) := by decide +kernel
theorem dX12_multiply_104 : decode cX12_multiply 104 = .ok (.aload_n 0, 1) := by decide +kernel
theorem dX12_multiply_105 : decode cX12_multiply 105 = .ok (.lload 5, 2) := by decide +kernel
theorem dX12_multiply_107 : decode cX12_multiply 107 = .ok (.invokevirtual 120, 3) := by decide +kernel
theorem dX12_multiply_110 : decode cX12_multiply 110 = .ok (.lastore, 1) := by decide +kernel
theorem dX12_multiply_111 : decode cX12_multiply 111 = .ok (.iinc 4 1, 3) := by decide +kernel
theorem dX12_multiply_114 : decode cX12_multiply 114 = .ok (.goto (-101), 3) := by decide +kernel
theorem dX12_multiply_117 : decode cX12_multiply 117 = .ok (.iinc 3 1, 3) := by decide +kernel
theorem dX12_multiply_120 : decode cX12_multiply 120 = .ok (.goto (-118), 3) := by decide +kernel
theorem dX12_multiply_123 : decode cX12_multiply 123 = .ok (.return_, 1) := by decide +kernel
theorem dX12_isNought_0 : decode cX12_isNought 0 = .ok (.iconst 1, 1) := by decide +kernel
theorem dX12_isNought_1 : decode cX12_isNought 1 = .ok (.istore_n 2, 1) := by decide +kernel
theorem dX12_isNought_2 : decode cX12_isNought 2 = .ok (.iconst 0, 1) := by decide +kernel
theorem dX12_isNought_3 : decode cX12_isNought 3 = .ok (.istore_n 3, 1) := by decide +kernel
theorem dX12_isNought_4 : decode cX12_isNought 4 = .ok (.iload_n 3, 1) := by decide +kernel
theorem dX12_isNought_5 : decode cX12_isNought 5 = .ok (.aload_n 0, 1) := by decide +kernel
theorem dX12_isNought_6 : decode cX12_isNought 6 = .ok (.getfield 7, 3) := by decide +kernel
theorem dX12_isNought_9 : decode cX12_isNought 9 = .ok (.aload_n 0, 1) := by decide +kernel
theorem dX12_isNought_10 : decode cX12_isNought 10 = .ok (.getfield 7, 3) := by decide +kernel
theorem dX12_isNought_13 : decode cX12_isNought 13 = .ok (.imul, 1) := by decide +kernel
theorem dX12_isNought_14 : decode cX12_isNought 14 = .ok (.if_icmp .ge 33, 3) := by decide +kernel
theorem dX12_isNought_17 : decode cX12_isNought 17 = .ok (.iload_n 2, 1) := by decide +kernel
theorem dX12_isNought_18 : decode cX12_isNought 18 = .ok (.aload_n 0, 1) := by decide +kernel
theorem dX12_isNought_19 : decode cX12_isNought 19 = .ok (.getfield 58, 3) := by decide +kernel
theorem dX12_isNought_22 : decode cX12_isNought 22 = .ok (.bipush 9, 2) := by decide +kernel
theorem dX12_isNought_24 : decode cX12_isNought 24 = .ok (.iload_n 1, 1) := by decide +kernel
theorem dX12_isNought_25 : decode cX12_isNought 25 = .ok (.imul, 1) := by decide +kernel
theorem dX12_isNought_26 : decode cX12_isNought 26 = .ok (.iload_n 3, 1) := by decide +kernel
theorem dX12_isNought_27 : decode cX12_isNought 27 = .ok (.iadd, 1) := by decide +kernel
theorem dX12_isNought_28 : decode cX12_isNought 28 = .ok (.laload, 1) := by decide +kernel
theorem dX12_isNought_29 : decode cX12_isNought 29 = .ok (.lconst 0, 1) := by decide +kernel
theorem dX12_isNought_30 : decode cX12_isNought 30 = .ok (.lcmp, 1) := by decide +kernel
theorem dX12_isNought_31 : decode cX12_isNought 31 = .ok (.ifCond .ne 7, 3) := by decide +kernel
theorem dX12_isNought_34 : decode cX12_isNought 34 = .ok (.iconst 1, 1) := by decide +kernel
theorem dX12_isNought_35 : decode cX12_isNought 35 = .ok (.goto 4, 3) := by decide +kernel
theorem dX12_isNought_38 : decode cX12_isNought 38 = .ok (.iconst 0, 1) := by decide +kernel
theorem dX12_isNought_39 : decode cX12_isNought 39 = .ok (.iand, 1) := by decide +kernel
theorem dX12_isNought_40 : decode cX12_isNought 40 = .ok (.istore_n 2, 1) := by decide +kernel
theorem dX12_isNought_41 : decode cX12_isNought 41 = .ok (.iinc 3 1, 3) := by decide +kernel
theorem dX12_isNought_44 : decode cX12_isNought 44 = .ok (.goto (-40), 3) := by decide +kernel
theorem dX12_isNought_47 : decode cX12_isNought 47 = .ok (.iload_n 2, 1) := by decide +kernel
theorem dX12_isNought_48 : decode cX12_isNought 48 = .ok (.ireturn, 1) := by decide +kernel
theorem dX12_isOne_0 : decode cX12_isOne 0 = .ok (.iconst 1, 1) := by decide +kernel
theorem dX12_isOne_1 : decode cX12_isOne 1 = .ok (.istore_n 2, 1) := by decide +kernel
theorem dX12_isOne_2 : decode cX12_isOne 2 = .ok (.iconst 0, 1) := by decide +kernel
theorem dX12_isOne_3 : decode cX12_isOne 3 = .ok (.istore_n 3, 1) := by decide +kernel
theorem dX12_isOne_4 : decode cX12_isOne 4 = .ok (.iload_n 3, 1) := by decide +kernel
theorem dX12_isOne_5 : decode cX12_isOne 5 = .ok (.aload_n 0, 1) := by decide +kernel
theorem dX12_isOne_6 : decode cX12_isOne 6 = .ok (.getfield 7, 3) := by decide +kernel
theorem dX12_isOne_9 : decode cX12_isOne 9 = .ok (.if_icmp .ge 69, 3) := by decide +kernel
theorem dX12_isOne_12 : decode cX12_isOne 12 = .ok (.iconst 0, 1) := by decide +kernel
theorem dX12_isOne_13 : decode cX12_isOne 13 = .ok (.istore 4, 2) := by decide +kernel
theorem dX12_isOne_15 : decode cX12_isOne 15 = .ok (.iload 4, 2) := by decide +kernel
theorem dX12_isOne_17 : decode cX12_isOne 17 = .ok (.aload_n 0, 1) := by decide +kernel
theorem dX12_isOne_18 : decode cX12_isOne 18 = .ok (.getfield 7, 3) := by decide +kernel
theorem dX12_isOne_21 : decode cX12_isOne 21 = .ok (.if_icmp .ge 51, 3) := by decide +kernel
theorem dX12_isOne_24 : decode cX12_isOne 24 = .ok (.iload_n 2, 1) := by decide +kernel
theorem dX12_isOne_25 : decode cX12_isOne 25 = .ok (.aload_n 0, 1) := by decide +kernel
theorem dX12_isOne_26 : decode cX12_isOne 26 = .ok (.getfield 58, 3) := by decide +kernel
theorem dX12_isOne_29 : decode cX12_isOne 29 = .ok (.bipush 9, 2) := by decide +kernel
theorem dX12_isOne_31 : decode cX12_isOne 31 = .ok (.iload_n 1, 1) := by decide +kernel
theorem dX12_isOne_32 : decode cX12_isOne 32 = .ok (.imul, 1) := by decide +kernel
theorem dX12_isOne_33 : decode cX12_isOne 33 = .ok (.aload_n 0, 1) := by decide +kernel
theorem dX12_isOne_34 : decode cX12_isOne 34 = .ok (.getfield 7, 3) := by decide +kernel
theorem dX12_isOne_37 : decode cX12_isOne 37 = .ok (.iload_n 3, 1) := by decide +kernel
theorem dX12_isOne_38 : decode cX12_isOne 38 = .ok (.imul, 1) := by decide +kernel
theorem dX12_isOne_39 : decode cX12_isOne 39 = .ok (.iadd, 1) := by decide +kernel
theorem dX12_isOne_40 : decode cX12_isOne 40 = .ok (.iload 4, 2) := by decide +kernel
theorem dX12_isOne_42 : decode cX12_isOne 42 = .ok (.iadd, 1) := by decide +kernel
theorem dX12_isOne_43 : decode cX12_isOne 43 = .ok (.laload, 1) := by decide +kernel
theorem dX12_isOne_44 : decode cX12_isOne 44 = .ok (.iload_n 3, 1) := by decide +kernel
theorem dX12_isOne_45 : decode cX12_isOne 45 = .ok (.iload 4, 2) := by decide +kernel
theorem dX12_isOne_47 : decode cX12_isOne 47 = .ok (.if_icmp .ne 7, 3) := by decide +kernel
theorem dX12_isOne_50 : decode cX12_isOne 50 = .ok (.lconst 1, 1) := by decide +kernel
theorem dX12_isOne_51 : decode cX12_isOne 51 = .ok (.goto 4, 3) := by decide +kernel
theorem dX12_isOne_54 : decode cX12_isOne 54 = .ok (.lconst 0, 1) := by decide +kernel
theorem dX12_isOne_55 : decode cX12_isOne 55 = .ok (.lcmp, 1) := by decide +kernel
theorem dX12_isOne_56 : decode cX12_isOne 56 = .ok (.ifCond .ne 7, 3) := by decide +kernel
theorem dX12_isOne_59 : decode cX12_isOne 59 = .ok (.iconst 1, 1) := by decide +kernel
theorem dX12_isOne_60 : decode cX12_isOne 60 = .ok (.goto 4, 3) := by decide +kernel
theorem dX12_isOne_63 : decode cX12_isOne 63 = .ok (.iconst 0, 1) := by decide +kernel
theorem dX12_isOne_64 : decode cX12_isOne 64 = .ok (.iand, 1) := by decide +kernel
theorem dX12_isOne_65 : decode cX12_isOne 65 = .ok (.istore_n 2, 1) := by decide +kernel
theorem dX12_isOne_66 : decode cX12_isOne 66 = .ok (.iinc 4 1, 3) := by decide +kernel
theorem dX12_isOne_69 : decode cX12_isOne 69 = .ok (.goto (-54), 3) := by decide +kernel
theorem dX12_isOne_72 : decode cX12_isOne 72 = .ok (.iinc 3 1, 3) := by decide +kernel
theorem dX12_isOne_75 : decode cX12_isOne 75 = .ok (.goto (-71), 3) := by decide +kernel
theorem dX12_isOne_78 : decode cX12_isOne 78 = .ok (.iload_n 2, 1) := by decide +kernel
theorem dX12_isOne_79 : decode cX12_isOne 79 = .ok (.ireturn, 1) := by decide +kernel
theorem dX12_closed_0 : decode cX12_closed 0 = .ok (.iload_n 1, 1) := by decide +kernel
theorem dX12_closed_1 : decode cX12_closed 1 = .ok (.i2l, 1) := by decide +kernel
theorem dX12_closed_2 : decode cX12_closed 2 = .ok (.lconst 0, 1) := by decide +kernel
theorem dX12_closed_3 : decode cX12_closed 3 = .ok (.ldc2_w 224, 3) := by decide +kernel
theorem dX12_closed_6 : decode cX12_closed 6 = .ok (.invokestatic 84, 3) := by decide +kernel
theorem dX12_closed_9 : decode cX12_closed 9 = .ok (.ifCond .ne 6, 3) := by decide +kernel
theorem dX12_closed_12 : decode cX12_closed 12 = .ok (.bipush (-2), 2) := by decide +kernel
theorem dX12_closed_14 : decode cX12_closed 14 = .ok (.ireturn, 1) := by decide +kernel
theorem dX12_closed_15 : decode cX12_closed 15 = .ok (.aload_n 0, 1) := by decide +kernel
theorem dX12_closed_16 : decode cX12_closed 16 = .ok (.getfield 55, 3) := by decide +kernel
theorem dX12_closed_19 : decode cX12_closed 19 = .ok (.bipush (-9), 2) := by decide +kernel
theorem dX12_closed_21 : decode cX12_closed 21 = .ok (.if_icmp .ne 6, 3) := by decide +kernel
theorem dX12_closed_24 : decode cX12_closed 24 = .ok (.bipush (-3), 2) := by decide +kernel
theorem dX12_closed_26 : decode cX12_closed 26 = .ok (.ireturn, 1) := by decide +kernel
theorem dX12_closed_27 : decode cX12_closed 27 = .ok (.iconst 0, 1) := by decide +kernel
theorem dX12_closed_28 : decode cX12_closed 28 = .ok (.istore_n 2, 1) := by decide +kernel
theorem dX12_closed_29 : decode cX12_closed 29 = .ok (.iload_n 1, 1) := by decide +kernel
theorem dX12_closed_30 : decode cX12_closed 30 = .ok (.tableswitch 139 0 3 #[30, 35, 69, 98], 30) := by decide +kernel
theorem dX12_closed_60 : decode cX12_closed 60 = .ok (.aload_n 0, 1) := by decide +kernel
theorem dX12_closed_61 : decode cX12_closed 61 = .ok (.getfield 55, 3) := by decide +kernel
theorem dX12_closed_64 : decode cX12_closed 64 = .ok (.ireturn, 1) := by decide +kernel
theorem dX12_closed_65 : decode cX12_closed 65 = .ok (.iconst 0, 1) := by decide +kernel
theorem dX12_closed_66 : decode cX12_closed 66 = .ok (.istore_n 3, 1) := by decide +kernel
theorem dX12_closed_67 : decode cX12_closed 67 = .ok (.iload_n 3, 1) := by decide +kernel
theorem dX12_closed_68 : decode cX12_closed 68 = .ok (.aload_n 0, 1) := by decide +kernel
theorem dX12_closed_69 : decode cX12_closed 69 = .ok (.getfield 55, 3) := by decide +kernel
theorem dX12_closed_72 : decode cX12_closed 72 = .ok (.if_icmp .ge 25, 3) := by decide +kernel
theorem dX12_closed_75 : decode cX12_closed 75 = .ok (.iload_n 2, 1) := by decide +kernel
theorem dX12_closed_76 : decode cX12_closed 76 = .ok (.aload_n 0, 1) := by decide +kernel
theorem dX12_closed_77 : decode cX12_closed 77 = .ok (.iload_n 3, 1) := by decide +kernel
theorem dX12_closed_78 : decode cX12_closed 78 = .ok (.invokevirtual 226, 3) := by decide +kernel
theorem dX12_closed_81 : decode cX12_closed 81 = .ok (.ifCond .eq 7, 3) := by decide +kernel
theorem dX12_closed_84 : decode cX12_closed 84 = .ok (.iconst 1, 1) := by decide +kernel
theorem dX12_closed_85 : decode cX12_closed 85 = .ok (.goto 4, 3) := by decide +kernel
theorem dX12_closed_88 : decode cX12_closed 88 = .ok (.iconst 0, 1) := by decide +kernel
theorem dX12_closed_89 : decode cX12_closed 89 = .ok (.ior, 1) := by decide +kernel
theorem dX12_closed_90 : decode cX12_closed 90 = .ok (.istore_n 2, 1) := by decide +kernel
theorem dX12_closed_91 : decode cX12_closed 91 = .ok (.iinc 3 1, 3) := by decide +kernel
theorem dX12_closed_94 : decode cX12_closed 94 = .ok (.goto (-27), 3) := by decide +kernel
theorem dX12_closed_97 : decode cX12_closed 97 = .ok (.iload_n 2, 1) := by decide +kernel
theorem dX12_closed_98 : decode cX12_closed 98 = .ok (.ireturn, 1) := by decide +kernel
theorem dX12_closed_99 : decode cX12_closed 99 = .ok (.iconst 0, 1) := by decide +kernel
theorem dX12_closed_100 : decode cX12_closed 100 = .ok (.istore_n 3, 1) := by decide +kernel
theorem dX12_closed_101 : decode cX12_closed 101 = .ok (.iload_n 3, 1) := by decide +kernel
theorem dX12_closed_102 : decode cX12_closed 102 = .ok (.aload_n 0, 1) := by decide +kernel
theorem dX12_closed_103 : decode cX12_closed 103 = .ok (.getfield 55, 3) := by decide +kernel
theorem dX12_closed_106 : decode cX12_closed 106 = .ok (.if_icmp .ge 19, 3) := by decide +kernel
theorem dX12_closed_109 : decode cX12_closed 109 = .ok (.aload_n 0, 1) := by decide +kernel
theorem dX12_closed_110 : decode cX12_closed 110 = .ok (.iload_n 3, 1) := by decide +kernel
theorem dX12_closed_111 : decode cX12_closed 111 = .ok (.invokevirtual 229, 3) := by decide +kernel
theorem dX12_closed_114 : decode cX12_closed 114 = .ok (.ifCond .eq 5, 3) := by decide +kernel
theorem dX12_closed_117 : decode cX12_closed 117 = .ok (.iload_n 3, 1) := by decide +kernel
theorem dX12_closed_118 : decode cX12_closed 118 = .ok (.ireturn, 1) := by decide +kernel
theorem dX12_closed_119 : decode cX12_closed 119 = .ok (.iinc 3 1, 3) := by decide +kernel
theorem dX12_closed_122 : decode cX12_closed 122 = .ok (.goto (-21), 3) := by decide +kernel

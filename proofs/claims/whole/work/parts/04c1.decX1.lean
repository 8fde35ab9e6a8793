theorem dX1_passes_132 : decode cX1_passes 132 = .ok (.iload_n 3, 1) := by decide +kernel
theorem dX1_passes_133 : decode cX1_passes 133 = .ok (.iadd, 1) := by decide +kernel
theorem dX1_passes_134 : decode cX1_passes 134 = .ok (.iaload, 1) := by decide +kernel
theorem dX1_passes_135 : decode cX1_passes 135 = .ok (.aload_n 0, 1) := by decide +kernel
theorem dX1_passes_136 : decode cX1_passes 136 = .ok (.getfield 42, 3) := by decide +kernel
theorem dX1_passes_139 : decode cX1_passes 139 = .ok (.iload_n 3, 1) := by decide +kernel
theorem dX1_passes_140 : decode cX1_passes 140 = .ok (.iaload, 1) := by decide +kernel
theorem dX1_passes_141 : decode cX1_passes 141 = .ok (.if_icmp .eq 7, 3) := by decide +kernel
theorem dX1_passes_144 : decode cX1_passes 144 = .ok (.iconst 1, 1) := by decide +kernel
theorem dX1_passes_145 : decode cX1_passes 145 = .ok (.goto 4, 3) := by decide +kernel
theorem dX1_passes_148 : decode cX1_passes 148 = .ok (.iconst 0, 1) := by decide +kernel
theorem dX1_passes_149 : decode cX1_passes 149 = .ok (.iadd, 1) := by decide +kernel
theorem dX1_passes_150 : decode cX1_passes 150 = .ok (.istore_n 2, 1) := by decide +kernel
theorem dX1_passes_151 : decode cX1_passes 151 = .ok (.aload_n 0, 1) := by decide +kernel
theorem dX1_passes_152 : decode cX1_passes 152 = .ok (.getfield 39, 3) := by decide +kernel
theorem dX1_passes_155 : decode cX1_passes 155 = .ok (.iconst 4, 1) := by decide +kernel
theorem dX1_passes_156 : decode cX1_passes 156 = .ok (.iload_n 1, 1) := by decide +kernel
theorem dX1_passes_157 : decode cX1_passes 157 = .ok (.imul, 1) := by decide +kernel
theorem dX1_passes_158 : decode cX1_passes 158 = .ok (.iload_n 3, 1) := by decide +kernel
theorem dX1_passes_159 : decode cX1_passes 159 = .ok (.iadd, 1) := by decide +kernel
theorem dX1_passes_160 : decode cX1_passes 160 = .ok (.aload_n 0, 1) := by decide +kernel
theorem dX1_passes_161 : decode cX1_passes 161 = .ok (.getfield 42, 3) := by decide +kernel
theorem dX1_passes_164 : decode cX1_passes 164 = .ok (.iload_n 3, 1) := by decide +kernel
theorem dX1_passes_165 : decode cX1_passes 165 = .ok (.iaload, 1) := by decide +kernel
theorem dX1_passes_166 : decode cX1_passes 166 = .ok (.iastore, 1) := by decide +kernel
theorem dX1_passes_167 : decode cX1_passes 167 = .ok (.iinc 3 1, 3) := by decide +kernel
theorem dX1_passes_170 : decode cX1_passes 170 = .ok (.goto (-54), 3) := by decide +kernel
theorem dX1_passes_173 : decode cX1_passes 173 = .ok (.iload_n 2, 1) := by decide +kernel
theorem dX1_passes_174 : decode cX1_passes 174 = .ok (.ireturn, 1) := by decide +kernel
set_option maxRecDepth 20000 in
theorem dX1_pass_0 : decode cX1_pass 0 = .ok (.aload_n 0, 1) := by decide +kernel
theorem dX1_pass_1 : decode cX1_pass 1 = .ok (.iload_n 1, 1) := by decide +kernel
theorem dX1_pass_2 : decode cX1_pass 2 = .ok (.invokestatic 55, 3) := by decide +kernel
theorem dX1_pass_5 : decode cX1_pass 5 = .ok (.iconst 1, 1) := by decide +kernel
theorem dX1_pass_6 : decode cX1_pass 6 = .ok (.iconst 1, 1) := by decide +kernel
theorem dX1_pass_7 : decode cX1_pass 7 = .ok (.invokevirtual 71, 3) := by decide +kernel
theorem dX1_pass_10 : decode cX1_pass 10 = .ok (.ifCond .eq 11, 3) := by decide +kernel
theorem dX1_pass_13 : decode cX1_pass 13 = .ok (.aload_n 0, 1) := by decide +kernel
theorem dX1_pass_14 : decode cX1_pass 14 = .ok (.iload_n 1, 1) := by decide +kernel
theorem dX1_pass_15 : decode cX1_pass 15 = .ok (.invokevirtual 116, 3) := by decide +kernel
theorem dX1_pass_18 : decode cX1_pass 18 = .ok (.goto 4, 3) := by decide +kernel
theorem dX1_pass_21 : decode cX1_pass 21 = .ok (.iconst 0, 1) := by decide +kernel
theorem dX1_pass_22 : decode cX1_pass 22 = .ok (.ireturn, 1) := by decide +kernel
set_option maxRecDepth 20000 in
theorem dX1_settle_0 : decode cX1_settle 0 = .ok (.aload_n 0, 1) := by decide +kernel
theorem dX1_settle_1 : decode cX1_settle 1 = .ok (.iconst 0, 1) := by decide +kernel
theorem dX1_settle_2 : decode cX1_settle 2 = .ok (.putfield 48, 3) := by decide +kernel
theorem dX1_settle_5 : decode cX1_settle 5 = .ok (.iconst 0, 1) := by decide +kernel
theorem dX1_settle_6 : decode cX1_settle 6 = .ok (.istore_n 1, 1) := by decide +kernel
theorem dX1_settle_7 : decode cX1_settle 7 = .ok (.iconst 1, 1) := by decide +kernel
theorem dX1_settle_8 : decode cX1_settle 8 = .ok (.istore_n 2, 1) := by decide +kernel
theorem dX1_settle_9 : decode cX1_settle 9 = .ok (.iload_n 2, 1) := by decide +kernel
theorem dX1_settle_10 : decode cX1_settle 10 = .ok (.ifCond .eq 47, 3) := by decide +kernel
theorem dX1_settle_13 : decode cX1_settle 13 = .ok (.iload_n 1, 1) := by decide +kernel
theorem dX1_settle_14 : decode cX1_settle 14 = .ok (.bipush 60, 2) := by decide +kernel
theorem dX1_settle_16 : decode cX1_settle 16 = .ok (.if_icmp .ge 41, 3) := by decide +kernel
theorem dX1_settle_19 : decode cX1_settle 19 = .ok (.aload_n 0, 1) := by decide +kernel
theorem dX1_settle_20 : decode cX1_settle 20 = .ok (.iconst 0, 1) := by decide +kernel
theorem dX1_settle_21 : decode cX1_settle 21 = .ok (.invokevirtual 116, 3) := by decide +kernel
theorem dX1_settle_24 : decode cX1_settle 24 = .ok (.istore_n 3, 1) := by decide +kernel
theorem dX1_settle_25 : decode cX1_settle 25 = .ok (.iload_n 3, 1) := by decide +kernel
theorem dX1_settle_26 : decode cX1_settle 26 = .ok (.aload_n 0, 1) := by decide +kernel
theorem dX1_settle_27 : decode cX1_settle 27 = .ok (.iconst 1, 1) := by decide +kernel
theorem dX1_settle_28 : decode cX1_settle 28 = .ok (.invokevirtual 116, 3) := by decide +kernel
theorem dX1_settle_31 : decode cX1_settle 31 = .ok (.iadd, 1) := by decide +kernel
theorem dX1_settle_32 : decode cX1_settle 32 = .ok (.istore_n 3, 1) := by decide +kernel
theorem dX1_settle_33 : decode cX1_settle 33 = .ok (.iload_n 3, 1) := by decide +kernel
theorem dX1_settle_34 : decode cX1_settle 34 = .ok (.aload_n 0, 1) := by decide +kernel
theorem dX1_settle_35 : decode cX1_settle 35 = .ok (.iconst 2, 1) := by decide +kernel
theorem dX1_settle_36 : decode cX1_settle 36 = .ok (.invokevirtual 116, 3) := by decide +kernel
theorem dX1_settle_39 : decode cX1_settle 39 = .ok (.iadd, 1) := by decide +kernel
theorem dX1_settle_40 : decode cX1_settle 40 = .ok (.istore_n 3, 1) := by decide +kernel
theorem dX1_settle_41 : decode cX1_settle 41 = .ok (.iload_n 3, 1) := by decide +kernel
theorem dX1_settle_42 : decode cX1_settle 42 = .ok (.ifCond .le 7, 3) := by decide +kernel
theorem dX1_settle_45 : decode cX1_settle 45 = .ok (.iconst 1, 1) := by decide +kernel
theorem dX1_settle_46 : decode cX1_settle 46 = .ok (.goto 4, 3) := by decide +kernel
theorem dX1_settle_49 : decode cX1_settle 49 = .ok (.iconst 0, 1) := by decide +kernel
theorem dX1_settle_50 : decode cX1_settle 50 = .ok (.istore_n 2, 1) := by decide +kernel
theorem dX1_settle_51 : decode cX1_settle 51 = .ok (.iinc 1 1, 3) := by decide +kernel
theorem dX1_settle_54 : decode cX1_settle 54 = .ok (.goto (-45), 3) := by decide +kernel
theorem dX1_settle_57 : decode cX1_settle 57 = .ok (.iload_n 1, 1) := by decide +kernel
theorem dX1_settle_58 : decode cX1_settle 58 = .ok (.ireturn, 1) := by decide +kernel
set_option maxRecDepth 20000 in
theorem dX1_means_0 : decode cX1_means 0 = .ok (.lconst 0, 1) := by decide +kernel
theorem dX1_means_1 : decode cX1_means 1 = .ok (.lstore 4, 2) := by decide +kernel
theorem dX1_means_3 : decode cX1_means 3 = .ok (.lconst 0, 1) := by decide +kernel
theorem dX1_means_4 : decode cX1_means 4 = .ok (.lstore 6, 2) := by decide +kernel
theorem dX1_means_6 : decode cX1_means 6 = .ok (.lconst 0, 1) := by decide +kernel
theorem dX1_means_7 : decode cX1_means 7 = .ok (.lstore 8, 2) := by decide +kernel
theorem dX1_means_9 : decode cX1_means 9 = .ok (.iconst 0, 1) := by decide +kernel
theorem dX1_means_10 : decode cX1_means 10 = .ok (.istore 10, 2) := by decide +kernel
theorem dX1_means_12 : decode cX1_means 12 = .ok (.iconst 0, 1) := by decide +kernel
theorem dX1_means_13 : decode cX1_means 13 = .ok (.istore 11, 2) := by decide +kernel
theorem dX1_means_15 : decode cX1_means 15 = .ok (.iload 11, 2) := by decide +kernel
theorem dX1_means_17 : decode cX1_means 17 = .ok (.iload_n 1, 1) := by decide +kernel
theorem dX1_means_18 : decode cX1_means 18 = .ok (.invokestatic 59, 3) := by decide +kernel
theorem dX1_means_21 : decode cX1_means 21 = .ok (.if_icmp .ge 88, 3) := by decide +kernel
theorem dX1_means_24 : decode cX1_means 24 = .ok (.aload_n 0, 1) := by decide +kernel
theorem dX1_means_25 : decode cX1_means 25 = .ok (.getfield 45, 3) := by decide +kernel
theorem dX1_means_28 : decode cX1_means 28 = .ok (.iload 11, 2) := by decide +kernel
theorem dX1_means_30 : decode cX1_means 30 = .ok (.iaload, 1) := by decide +kernel
theorem dX1_means_31 : decode cX1_means 31 = .ok (.iload_n 2, 1) := by decide +kernel
theorem dX1_means_32 : decode cX1_means 32 = .ok (.if_icmp .eq 14, 3) := by decide +kernel
theorem dX1_means_35 : decode cX1_means 35 = .ok (.aload_n 0, 1) := by decide +kernel
theorem dX1_means_36 : decode cX1_means 36 = .ok (.getfield 45, 3) := by decide +kernel
theorem dX1_means_39 : decode cX1_means 39 = .ok (.iload 11, 2) := by decide +kernel
theorem dX1_means_41 : decode cX1_means 41 = .ok (.iaload, 1) := by decide +kernel
theorem dX1_means_42 : decode cX1_means 42 = .ok (.iload_n 3, 1) := by decide +kernel
theorem dX1_means_43 : decode cX1_means 43 = .ok (.if_icmp .ne 60, 3) := by decide +kernel
theorem dX1_means_46 : decode cX1_means 46 = .ok (.lload 4, 2) := by decide +kernel
theorem dX1_means_48 : decode cX1_means 48 = .ok (.aload_n 0, 1) := by decide +kernel
theorem dX1_means_49 : decode cX1_means 49 = .ok (.iload_n 1, 1) := by decide +kernel
theorem dX1_means_50 : decode cX1_means 50 = .ok (.iload 11, 2) := by decide +kernel
theorem dX1_means_52 : decode cX1_means 52 = .ok (.invokevirtual 119, 3) := by decide +kernel
theorem dX1_means_55 : decode cX1_means 55 = .ok (.aload_n 0, 1) := by decide +kernel
theorem dX1_means_56 : decode cX1_means 56 = .ok (.getfield 39, 3) := by decide +kernel
theorem dX1_means_59 : decode cX1_means 59 = .ok (.iconst 4, 1) := by decide +kernel
theorem dX1_means_60 : decode cX1_means 60 = .ok (.iload_n 1, 1) := by decide +kernel
theorem dX1_means_61 : decode cX1_means 61 = .ok (.imul, 1) := by decide +kernel
theorem dX1_means_62 : decode cX1_means 62 = .ok (.iload 11, 2) := by decide +kernel
theorem dX1_means_64 : decode cX1_means 64 = .ok (.iadd, 1) := by decide +kernel
theorem dX1_means_65 : decode cX1_means 65 = .ok (.iaload, 1) := by decide +kernel
theorem dX1_means_66 : decode cX1_means 66 = .ok (.i2l, 1) := by decide +kernel
theorem dX1_means_67 : decode cX1_means 67 = .ok (.lmul, 1) := by decide +kernel
theorem dX1_means_68 : decode cX1_means 68 = .ok (.ladd, 1) := by decide +kernel
theorem dX1_means_69 : decode cX1_means 69 = .ok (.lstore 4, 2) := by decide +kernel
theorem dX1_means_71 : decode cX1_means 71 = .ok (.lload 8, 2) := by decide +kernel
theorem dX1_means_73 : decode cX1_means 73 = .ok (.aload_n 0, 1) := by decide +kernel
theorem dX1_means_74 : decode cX1_means 74 = .ok (.iload_n 1, 1) := by decide +kernel
theorem dX1_means_75 : decode cX1_means 75 = .ok (.iload 11, 2) := by decide +kernel
theorem dX1_means_77 : decode cX1_means 77 = .ok (.invokevirtual 119, 3) := by decide +kernel
theorem dX1_means_80 : decode cX1_means 80 = .ok (.ladd, 1) := by decide +kernel
theorem dX1_means_81 : decode cX1_means 81 = .ok (.lstore 8, 2) := by decide +kernel
theorem dX1_means_83 : decode cX1_means 83 = .ok (.lload 6, 2) := by decide +kernel
theorem dX1_means_85 : decode cX1_means 85 = .ok (.aload_n 0, 1) := by decide +kernel
theorem dX1_means_86 : decode cX1_means 86 = .ok (.getfield 39, 3) := by decide +kernel
theorem dX1_means_89 : decode cX1_means 89 = .ok (.iconst 4, 1) := by decide +kernel
theorem dX1_means_90 : decode cX1_means 90 = .ok (.iload_n 1, 1) := by decide +kernel
theorem dX1_means_91 : decode cX1_means 91 = .ok (.imul, 1) := by decide +kernel
theorem dX1_means_92 : decode cX1_means 92 = .ok (.iload 11, 2) := by decide +kernel
theorem dX1_means_94 : decode cX1_means 94 = .ok (.iadd, 1) := by decide +kernel
theorem dX1_means_95 : decode cX1_means 95 = .ok (.iaload, 1) := by decide +kernel
theorem dX1_means_96 : decode cX1_means 96 = .ok (.i2l, 1) := by decide +kernel
theorem dX1_means_97 : decode cX1_means 97 = .ok (.ladd, 1) := by decide +kernel
theorem dX1_means_98 : decode cX1_means 98 = .ok (.lstore 6, 2) := by decide +kernel
theorem dX1_means_100 : decode cX1_means 100 = .ok (.iinc 10 1, 3) := by decide +kernel
theorem dX1_means_103 : decode cX1_means 103 = .ok (.iinc 11 1, 3) := by decide +kernel
theorem dX1_means_106 : decode cX1_means 106 = .ok (.goto (-91), 3) := by decide +kernel
theorem dX1_means_109 : decode cX1_means 109 = .ok (.lload 8, 2) := by decide +kernel
theorem dX1_means_111 : decode cX1_means 111 = .ok (.lconst 0, 1) := by decide +kernel
theorem dX1_means_112 : decode cX1_means 112 = .ok (.lcmp, 1) := by decide +kernel
theorem dX1_means_113 : decode cX1_means 113 = .ok (.ifCond .ne 12, 3) := by decide +kernel
theorem dX1_means_116 : decode cX1_means 116 = .ok (.lload 6, 2) := by decide +kernel
theorem dX1_means_118 : decode cX1_means 118 = .ok (.iload 10, 2) := by decide +kernel
theorem dX1_means_120 : decode cX1_means 120 = .ok (.i2l, 1) := by decide +kernel
theorem dX1_means_121 : decode cX1_means 121 = .ok (.ldiv, 1) := by decide +kernel
theorem dX1_means_122 : decode cX1_means 122 = .ok (.goto 8, 3) := by decide +kernel
theorem dX1_means_125 : decode cX1_means 125 = .ok (.lload 4, 2) := by decide +kernel
theorem dX1_means_127 : decode cX1_means 127 = .ok (.lload 8, 2) := by decide +kernel
theorem dX1_means_129 : decode cX1_means 129 = .ok (.ldiv, 1) := by decide +kernel
theorem dX1_means_130 : decode cX1_means 130 = .ok (.lstore 11, 2) := by decide +kernel
theorem dX1_means_132 : decode cX1_means 132 = .ok (.iconst 0, 1) := by decide +kernel
theorem dX1_means_133 : decode cX1_means 133 = .ok (.istore 13, 2) := by decide +kernel
theorem dX1_means_135 : decode cX1_means 135 = .ok (.iload 13, 2) := by decide +kernel
theorem dX1_means_137 : decode cX1_means 137 = .ok (.iload_n 1, 1) := by decide +kernel
theorem dX1_means_138 : decode cX1_means 138 = .ok (.invokestatic 59, 3) := by decide +kernel
theorem dX1_means_141 : decode cX1_means 141 = .ok (.if_icmp .ge 53, 3) := by decide +kernel
theorem dX1_means_144 : decode cX1_means 144 = .ok (.aload_n 0, 1) := by decide +kernel
theorem dX1_means_145 : decode cX1_means 145 = .ok (.getfield 45, 3) := by decide +kernel
theorem dX1_means_148 : decode cX1_means 148 = .ok (.iload 13, 2) := by decide +kernel
theorem dX1_means_150 : decode cX1_means 150 = .ok (.iaload, 1) := by decide +kernel
theorem dX1_means_151 : decode cX1_means 151 = .ok (.iload_n 2, 1) := by decide +kernel
theorem dX1_means_152 : decode cX1_means 152 = .ok (.if_icmp .eq 14, 3) := by decide +kernel
theorem dX1_means_155 : decode cX1_means 155 = .ok (.aload_n 0, 1) := by decide +kernel
theorem dX1_means_156 : decode cX1_means 156 = .ok (.getfield 45, 3) := by decide +kernel
theorem dX1_means_159 : decode cX1_means 159 = .ok (.iload 13, 2) := by decide +kernel
theorem dX1_means_161 : decode cX1_means 161 = .ok (.iaload, 1) := by decide +kernel
theorem dX1_means_162 : decode cX1_means 162 = .ok (.iload_n 3, 1) := by decide +kernel
theorem dX1_means_163 : decode cX1_means 163 = .ok (.if_icmp .ne 25, 3) := by decide +kernel
theorem dX1_means_166 : decode cX1_means 166 = .ok (.aload_n 0, 1) := by decide +kernel
theorem dX1_means_167 : decode cX1_means 167 = .ok (.getfield 45, 3) := by decide +kernel
theorem dX1_means_170 : decode cX1_means 170 = .ok (.iload 13, 2) := by decide +kernel
theorem dX1_means_172 : decode cX1_means 172 = .ok (.iload_n 2, 1) := by decide +kernel
theorem dX1_means_173 : decode cX1_means 173 = .ok (.iastore, 1) := by decide +kernel
theorem dX1_means_174 : decode cX1_means 174 = .ok (.aload_n 0, 1) := by decide +kernel
theorem dX1_means_175 : decode cX1_means 175 = .ok (.getfield 39, 3) := by decide +kernel
theorem dX1_means_178 : decode cX1_means 178 = .ok (.iconst 4, 1) := by decide +kernel
theorem dX1_means_179 : decode cX1_means 179 = .ok (.iload_n 1, 1) := by decide +kernel
theorem dX1_means_180 : decode cX1_means 180 = .ok (.imul, 1) := by decide +kernel
theorem dX1_means_181 : decode cX1_means 181 = .ok (.iload 13, 2) := by decide +kernel
theorem dX1_means_183 : decode cX1_means 183 = .ok (.iadd, 1) := by decide +kernel
theorem dX1_means_184 : decode cX1_means 184 = .ok (.lload 11, 2) := by decide +kernel
theorem dX1_means_186 : decode cX1_means 186 = .ok (.l2i, 1) := by decide +kernel
theorem dX1_means_187 : decode cX1_means 187 = .ok (.iastore, 1) := by decide +kernel
theorem dX1_means_188 : decode cX1_means 188 = .ok (.iinc 13 1, 3) := by decide +kernel
theorem dX1_means_191 : decode cX1_means 191 = .ok (.goto (-56), 3) := by decide +kernel
theorem dX1_means_194 : decode cX1_means 194 = .ok (.return_, 1) := by decide +kernel
set_option maxRecDepth 20000 in
theorem dX1_lowestLess_0 : decode cX1_lowestLess 0 = .ok (.iconst 1, 1) := by decide +kernel
theorem dX1_lowestLess_1 : decode cX1_lowestLess 1 = .ok (.istore_n 2, 1) := by decide +kernel
theorem dX1_lowestLess_2 : decode cX1_lowestLess 2 = .ok (.iload_n 2, 1) := by decide +kernel
theorem dX1_lowestLess_3 : decode cX1_lowestLess 3 = .ok (.iload_n 1, 1) := by decide +kernel
theorem dX1_lowestLess_4 : decode cX1_lowestLess 4 = .ok (.invokestatic 59, 3) := by decide +kernel
theorem dX1_lowestLess_7 : decode cX1_lowestLess 7 = .ok (.if_icmp .ge 36, 3) := by decide +kernel
theorem dX1_lowestLess_10 : decode cX1_lowestLess 10 = .ok (.aload_n 0, 1) := by decide +kernel
theorem dX1_lowestLess_11 : decode cX1_lowestLess 11 = .ok (.getfield 39, 3) := by decide +kernel
theorem dX1_lowestLess_14 : decode cX1_lowestLess 14 = .ok (.iconst 4, 1) := by decide +kernel
theorem dX1_lowestLess_15 : decode cX1_lowestLess 15 = .ok (.iload_n 1, 1) := by decide +kernel
theorem dX1_lowestLess_16 : decode cX1_lowestLess 16 = .ok (.imul, 1) := by decide +kernel
theorem dX1_lowestLess_17 : decode cX1_lowestLess 17 = .ok (.iload_n 2, 1) := by decide +kernel
theorem dX1_lowestLess_18 : decode cX1_lowestLess 18 = .ok (.iadd, 1) := by decide +kernel
theorem dX1_lowestLess_19 : decode cX1_lowestLess 19 = .ok (.iaload, 1) := by decide +kernel
theorem dX1_lowestLess_20 : decode cX1_lowestLess 20 = .ok (.aload_n 0, 1) := by decide +kernel
theorem dX1_lowestLess_21 : decode cX1_lowestLess 21 = .ok (.getfield 39, 3) := by decide +kernel
theorem dX1_lowestLess_24 : decode cX1_lowestLess 24 = .ok (.iconst 4, 1) := by decide +kernel
theorem dX1_lowestLess_25 : decode cX1_lowestLess 25 = .ok (.iload_n 1, 1) := by decide +kernel
theorem dX1_lowestLess_26 : decode cX1_lowestLess 26 = .ok (.imul, 1) := by decide +kernel
theorem dX1_lowestLess_27 : decode cX1_lowestLess 27 = .ok (.iload_n 2, 1) := by decide +kernel
theorem dX1_lowestLess_28 : decode cX1_lowestLess 28 = .ok (.iadd, 1) := by decide +kernel
theorem dX1_lowestLess_29 : decode cX1_lowestLess 29 = .ok (.iconst 1, 1) := by decide +kernel
theorem dX1_lowestLess_30 : decode cX1_lowestLess 30 = .ok (.isub, 1) := by decide +kernel
theorem dX1_lowestLess_31 : decode cX1_lowestLess 31 = .ok (.iaload, 1) := by decide +kernel
theorem dX1_lowestLess_32 : decode cX1_lowestLess 32 = .ok (.if_icmp .ge 5, 3) := by decide +kernel
theorem dX1_lowestLess_35 : decode cX1_lowestLess 35 = .ok (.iload_n 2, 1) := by decide +kernel
theorem dX1_lowestLess_36 : decode cX1_lowestLess 36 = .ok (.ireturn, 1) := by decide +kernel
theorem dX1_lowestLess_37 : decode cX1_lowestLess 37 = .ok (.iinc 2 1, 3) := by decide +kernel
theorem dX1_lowestLess_40 : decode cX1_lowestLess 40 = .ok (.goto (-38), 3) := by decide +kernel
theorem dX1_lowestLess_43 : decode cX1_lowestLess 43 = .ok (.iconst (-1), 1) := by decide +kernel
theorem dX1_lowestLess_44 : decode cX1_lowestLess 44 = .ok (.ireturn, 1) := by decide +kernel
set_option maxRecDepth 20000 in
theorem dX1_smooth_0 : decode cX1_smooth 0 = .ok (.aload_n 0, 1) := by decide +kernel
theorem dX1_smooth_1 : decode cX1_smooth 1 = .ok (.iload_n 1, 1) := by decide +kernel
theorem dX1_smooth_2 : decode cX1_smooth 2 = .ok (.invokestatic 55, 3) := by decide +kernel
theorem dX1_smooth_5 : decode cX1_smooth 5 = .ok (.iconst 1, 1) := by decide +kernel
theorem dX1_smooth_6 : decode cX1_smooth 6 = .ok (.iconst 1, 1) := by decide +kernel
theorem dX1_smooth_7 : decode cX1_smooth 7 = .ok (.invokevirtual 71, 3) := by decide +kernel
theorem dX1_smooth_10 : decode cX1_smooth 10 = .ok (.ifCond .ne 5, 3) := by decide +kernel
theorem dX1_smooth_13 : decode cX1_smooth 13 = .ok (.iconst 0, 1) := by decide +kernel
theorem dX1_smooth_14 : decode cX1_smooth 14 = .ok (.ireturn, 1) := by decide +kernel
theorem dX1_smooth_15 : decode cX1_smooth 15 = .ok (.iconst 0, 1) := by decide +kernel
theorem dX1_smooth_16 : decode cX1_smooth 16 = .ok (.istore_n 2, 1) := by decide +kernel
theorem dX1_smooth_17 : decode cX1_smooth 17 = .ok (.iload_n 2, 1) := by decide +kernel
theorem dX1_smooth_18 : decode cX1_smooth 18 = .ok (.iload_n 1, 1) := by decide +kernel
theorem dX1_smooth_19 : decode cX1_smooth 19 = .ok (.invokestatic 59, 3) := by decide +kernel
theorem dX1_smooth_22 : decode cX1_smooth 22 = .ok (.if_icmp .ge 32, 3) := by decide +kernel
theorem dX1_smooth_25 : decode cX1_smooth 25 = .ok (.aload_n 0, 1) := by decide +kernel
theorem dX1_smooth_26 : decode cX1_smooth 26 = .ok (.getfield 45, 3) := by decide +kernel
theorem dX1_smooth_29 : decode cX1_smooth 29 = .ok (.iload_n 2, 1) := by decide +kernel
theorem dX1_smooth_30 : decode cX1_smooth 30 = .ok (.iload_n 2, 1) := by decide +kernel
theorem dX1_smooth_31 : decode cX1_smooth 31 = .ok (.iastore, 1) := by decide +kernel
theorem dX1_smooth_32 : decode cX1_smooth 32 = .ok (.aload_n 0, 1) := by decide +kernel
theorem dX1_smooth_33 : decode cX1_smooth 33 = .ok (.getfield 42, 3) := by decide +kernel
theorem dX1_smooth_36 : decode cX1_smooth 36 = .ok (.iload_n 2, 1) := by decide +kernel
theorem dX1_smooth_37 : decode cX1_smooth 37 = .ok (.aload_n 0, 1) := by decide +kernel
theorem dX1_smooth_38 : decode cX1_smooth 38 = .ok (.getfield 39, 3) := by decide +kernel
theorem dX1_smooth_41 : decode cX1_smooth 41 = .ok (.iconst 4, 1) := by decide +kernel
theorem dX1_smooth_42 : decode cX1_smooth 42 = .ok (.iload_n 1, 1) := by decide +kernel
theorem dX1_smooth_43 : decode cX1_smooth 43 = .ok (.imul, 1) := by decide +kernel
theorem dX1_smooth_44 : decode cX1_smooth 44 = .ok (.iload_n 2, 1) := by decide +kernel
theorem dX1_smooth_45 : decode cX1_smooth 45 = .ok (.iadd, 1) := by decide +kernel
theorem dX1_smooth_46 : decode cX1_smooth 46 = .ok (.iaload, 1) := by decide +kernel
theorem dX1_smooth_47 : decode cX1_smooth 47 = .ok (.iastore, 1) := by decide +kernel
theorem dX1_smooth_48 : decode cX1_smooth 48 = .ok (.iinc 2 1, 3) := by decide +kernel
theorem dX1_smooth_51 : decode cX1_smooth 51 = .ok (.goto (-34), 3) := by decide +kernel
theorem dX1_smooth_54 : decode cX1_smooth 54 = .ok (.aload_n 0, 1) := by decide +kernel
theorem dX1_smooth_55 : decode cX1_smooth 55 = .ok (.iload_n 1, 1) := by decide +kernel
theorem dX1_smooth_56 : decode cX1_smooth 56 = .ok (.invokevirtual 122, 3) := by decide +kernel
theorem dX1_smooth_59 : decode cX1_smooth 59 = .ok (.iconst (-1), 1) := by decide +kernel
theorem dX1_smooth_60 : decode cX1_smooth 60 = .ok (.if_icmp .eq 31, 3) := by decide +kernel
theorem dX1_smooth_63 : decode cX1_smooth 63 = .ok (.aload_n 0, 1) := by decide +kernel
theorem dX1_smooth_64 : decode cX1_smooth 64 = .ok (.iload_n 1, 1) := by decide +kernel
theorem dX1_smooth_65 : decode cX1_smooth 65 = .ok (.invokevirtual 122, 3) := by decide +kernel
theorem dX1_smooth_68 : decode cX1_smooth 68 = .ok (.istore_n 2, 1) := by decide +kernel
theorem dX1_smooth_69 : decode cX1_smooth 69 = .ok (.aload_n 0, 1) := by decide +kernel
theorem dX1_smooth_70 : decode cX1_smooth 70 = .ok (.iload_n 1, 1) := by decide +kernel
theorem dX1_smooth_71 : decode cX1_smooth 71 = .ok (.aload_n 0, 1) := by decide +kernel
theorem dX1_smooth_72 : decode cX1_smooth 72 = .ok (.getfield 45, 3) := by decide +kernel
theorem dX1_smooth_75 : decode cX1_smooth 75 = .ok (.iload_n 2, 1) := by decide +kernel
theorem dX1_smooth_76 : decode cX1_smooth 76 = .ok (.iconst 1, 1) := by decide +kernel
theorem dX1_smooth_77 : decode cX1_smooth 77 = .ok (.isub, 1) := by decide +kernel
theorem dX1_smooth_78 : decode cX1_smooth 78 = .ok (.iaload, 1) := by decide +kernel
theorem dX1_smooth_79 : decode cX1_smooth 79 = .ok (.aload_n 0, 1) := by decide +kernel
theorem dX1_smooth_80 : decode cX1_smooth 80 = .ok (.getfield 45, 3) := by decide +kernel
theorem dX1_smooth_83 : decode cX1_smooth 83 = .ok (.iload_n 2, 1) := by decide +kernel
theorem dX1_smooth_84 : decode cX1_smooth 84 = .ok (.iaload, 1) := by decide +kernel
theorem dX1_smooth_85 : decode cX1_smooth 85 = .ok (.invokevirtual 125, 3) := by decide +kernel
theorem dX1_smooth_88 : decode cX1_smooth 88 = .ok (.goto (-34), 3) := by decide +kernel
theorem dX1_smooth_91 : decode cX1_smooth 91 = .ok (.iconst 0, 1) := by decide +kernel
theorem dX1_smooth_92 : decode cX1_smooth 92 = .ok (.istore_n 2, 1) := by decide +kernel
theorem dX1_smooth_93 : decode cX1_smooth 93 = .ok (.iconst 0, 1) := by decide +kernel
theorem dX1_smooth_94 : decode cX1_smooth 94 = .ok (.istore_n 3, 1) := by decide +kernel
theorem dX1_smooth_95 : decode cX1_smooth 95 = .ok (.iload_n 3, 1) := by decide +kernel
theorem dX1_smooth_96 : decode cX1_smooth 96 = .ok (.iload_n 1, 1) := by decide +kernel
theorem dX1_smooth_97 : decode cX1_smooth 97 = .ok (.invokestatic 59, 3) := by decide +kernel
theorem dX1_smooth_100 : decode cX1_smooth 100 = .ok (.if_icmp .ge 36, 3) := by decide +kernel
theorem dX1_smooth_103 : decode cX1_smooth 103 = .ok (.iload_n 2, 1) := by decide +kernel
theorem dX1_smooth_104 : decode cX1_smooth 104 = .ok (.aload_n 0, 1) := by decide +kernel
theorem dX1_smooth_105 : decode cX1_smooth 105 = .ok (.getfield 39, 3) := by decide +kernel
theorem dX1_smooth_108 : decode cX1_smooth 108 = .ok (.iconst 4, 1) := by decide +kernel
theorem dX1_smooth_109 : decode cX1_smooth 109 = .ok (.iload_n 1, 1) := by decide +kernel
theorem dX1_smooth_110 : decode cX1_smooth 110 = .ok (.imul, 1) := by decide +kernel
theorem dX1_smooth_111 : decode cX1_smooth 111 = .ok (.iload_n 3, 1) := by decide +kernel
theorem dX1_smooth_112 : decode cX1_smooth 112 = .ok (.iadd, 1) := by decide +kernel
theorem dX1_smooth_113 : decode cX1_smooth 113 = .ok (.iaload, 1) := by decide +kernel
theorem dX1_smooth_114 : decode cX1_smooth 114 = .ok (.aload_n 0, 1) := by decide +kernel
theorem dX1_smooth_115 : decode cX1_smooth 115 = .ok (.getfield 42, 3) := by decide +kernel
theorem dX1_smooth_118 : decode cX1_smooth 118 = .ok (.iload_n 3, 1) := by decide +kernel
theorem dX1_smooth_119 : decode cX1_smooth 119 = .ok (.iaload, 1) := by decide +kernel
theorem dX1_smooth_120 : decode cX1_smooth 120 = .ok (.if_icmp .eq 7, 3) := by decide +kernel
theorem dX1_smooth_123 : decode cX1_smooth 123 = .ok (.iconst 1, 1) := by decide +kernel
theorem dX1_smooth_124 : decode cX1_smooth 124 = .ok (.goto 4, 3) := by decide +kernel
theorem dX1_smooth_127 : decode cX1_smooth 127 = .ok (.iconst 0, 1) := by decide +kernel
theorem dX1_smooth_128 : decode cX1_smooth 128 = .ok (.iadd, 1) := by decide +kernel
theorem dX1_smooth_129 : decode cX1_smooth 129 = .ok (.istore_n 2, 1) := by decide +kernel
theorem dX1_smooth_130 : decode cX1_smooth 130 = .ok (.iinc 3 1, 3) := by decide +kernel
theorem dX1_smooth_133 : decode cX1_smooth 133 = .ok (.goto (-38), 3) := by decide +kernel
theorem dX1_smooth_136 : decode cX1_smooth 136 = .ok (.iload_n 2, 1) := by decide +kernel
theorem dX1_smooth_137 : decode cX1_smooth 137 = .ok (.ireturn, 1) := by decide +kernel
set_option maxRecDepth 20000 in
theorem dX1_premiumOf_0 : decode cX1_premiumOf 0 = .ok (.aload_n 0, 1) := by decide +kernel
theorem dX1_premiumOf_1 : decode cX1_premiumOf 1 = .ok (.iload_n 1, 1) := by decide +kernel
theorem dX1_premiumOf_2 : decode cX1_premiumOf 2 = .ok (.aload_n 0, 1) := by decide +kernel
theorem dX1_premiumOf_3 : decode cX1_premiumOf 3 = .ok (.invokevirtual 90, 3) := by decide +kernel
theorem dX1_premiumOf_6 : decode cX1_premiumOf 6 = .ok (.invokevirtual 94, 3) := by decide +kernel
theorem dX1_premiumOf_9 : decode cX1_premiumOf 9 = .ok (.aload_n 0, 1) := by decide +kernel
theorem dX1_premiumOf_10 : decode cX1_premiumOf 10 = .ok (.getfield 35, 3) := by decide +kernel
theorem dX1_premiumOf_13 : decode cX1_premiumOf 13 = .ok (.lmul, 1) := by decide +kernel
theorem dX1_premiumOf_14 : decode cX1_premiumOf 14 = .ok (.ldc2_w 33, 3) := by decide +kernel
theorem dX1_premiumOf_17 : decode cX1_premiumOf 17 = .ok (.ldiv, 1) := by decide +kernel
theorem dX1_premiumOf_18 : decode cX1_premiumOf 18 = .ok (.lreturn, 1) := by decide +kernel
set_option maxRecDepth 20000 in
theorem dX1_cappedOf_0 : decode cX1_cappedOf 0 = .ok (.aload_n 0, 1) := by decide +kernel
theorem dX1_cappedOf_1 : decode cX1_cappedOf 1 = .ok (.iload_n 1, 1) := by decide +kernel
theorem dX1_cappedOf_2 : decode cX1_cappedOf 2 = .ok (.invokevirtual 129, 3) := by decide +kernel
theorem dX1_cappedOf_5 : decode cX1_cappedOf 5 = .ok (.lstore_n 2, 1) := by decide +kernel
theorem dX1_cappedOf_6 : decode cX1_cappedOf 6 = .ok (.aload_n 0, 1) := by decide +kernel
theorem dX1_cappedOf_7 : decode cX1_cappedOf 7 = .ok (.getfield 29, 3) := by decide +kernel
theorem dX1_cappedOf_10 : decode cX1_cappedOf 10 = .ok (.iconst (-1), 1) := by decide +kernel
theorem dX1_cappedOf_11 : decode cX1_cappedOf 11 = .ok (.if_icmp .eq 13, 3) := by decide +kernel
theorem dX1_cappedOf_14 : decode cX1_cappedOf 14 = .ok (.aload_n 0, 1) := by decide +kernel
theorem dX1_cappedOf_15 : decode cX1_cappedOf 15 = .ok (.getfield 22, 3) := by decide +kernel
theorem dX1_cappedOf_18 : decode cX1_cappedOf 18 = .ok (.iload_n 1, 1) := by decide +kernel
theorem dX1_cappedOf_19 : decode cX1_cappedOf 19 = .ok (.iaload, 1) := by decide +kernel
theorem dX1_cappedOf_20 : decode cX1_cappedOf 20 = .ok (.iconst (-1), 1) := by decide +kernel
theorem dX1_cappedOf_21 : decode cX1_cappedOf 21 = .ok (.if_icmp .ne 5, 3) := by decide +kernel
theorem dX1_cappedOf_24 : decode cX1_cappedOf 24 = .ok (.lload_n 2, 1) := by decide +kernel
theorem dX1_cappedOf_25 : decode cX1_cappedOf 25 = .ok (.lreturn, 1) := by decide +kernel
theorem dX1_cappedOf_26 : decode cX1_cappedOf 26 = .ok (.aload_n 0, 1) := by decide +kernel
theorem dX1_cappedOf_27 : decode cX1_cappedOf 27 = .ok (.getfield 22, 3) := by decide +kernel
theorem dX1_cappedOf_30 : decode cX1_cappedOf 30 = .ok (.iload_n 1, 1) := by decide +kernel
theorem dX1_cappedOf_31 : decode cX1_cappedOf 31 = .ok (.iaload, 1) := by decide +kernel
theorem dX1_cappedOf_32 : decode cX1_cappedOf 32 = .ok (.i2l, 1) := by decide +kernel
theorem dX1_cappedOf_33 : decode cX1_cappedOf 33 = .ok (.aload_n 0, 1) := by decide +kernel
theorem dX1_cappedOf_34 : decode cX1_cappedOf 34 = .ok (.getfield 29, 3) := by decide +kernel
theorem dX1_cappedOf_37 : decode cX1_cappedOf 37 = .ok (.bipush 100, 2) := by decide +kernel
theorem dX1_cappedOf_39 : decode cX1_cappedOf 39 = .ok (.if_icmp .le 7, 3) := by decide +kernel
theorem dX1_cappedOf_42 : decode cX1_cappedOf 42 = .ok (.iconst 0, 1) := by decide +kernel
theorem dX1_cappedOf_43 : decode cX1_cappedOf 43 = .ok (.goto 10, 3) := by decide +kernel
theorem dX1_cappedOf_46 : decode cX1_cappedOf 46 = .ok (.bipush 100, 2) := by decide +kernel
theorem dX1_cappedOf_48 : decode cX1_cappedOf 48 = .ok (.aload_n 0, 1) := by decide +kernel
theorem dX1_cappedOf_49 : decode cX1_cappedOf 49 = .ok (.getfield 29, 3) := by decide +kernel
theorem dX1_cappedOf_52 : decode cX1_cappedOf 52 = .ok (.isub, 1) := by decide +kernel
theorem dX1_cappedOf_53 : decode cX1_cappedOf 53 = .ok (.i2l, 1) := by decide +kernel
theorem dX1_cappedOf_54 : decode cX1_cappedOf 54 = .ok (.lmul, 1) := by decide +kernel
theorem dX1_cappedOf_55 : decode cX1_cappedOf 55 = .ok (.ldc2_w 98, 3) := by decide +kernel
theorem dX1_cappedOf_58 : decode cX1_cappedOf 58 = .ok (.ldiv, 1) := by decide +kernel
theorem dX1_cappedOf_59 : decode cX1_cappedOf 59 = .ok (.lstore 4, 2) := by decide +kernel
theorem dX1_cappedOf_61 : decode cX1_cappedOf 61 = .ok (.aload_n 0, 1) := by decide +kernel
theorem dX1_cappedOf_62 : decode cX1_cappedOf 62 = .ok (.getfield 22, 3) := by decide +kernel
theorem dX1_cappedOf_65 : decode cX1_cappedOf 65 = .ok (.iload_n 1, 1) := by decide +kernel
theorem dX1_cappedOf_66 : decode cX1_cappedOf 66 = .ok (.iaload, 1) := by decide +kernel
theorem dX1_cappedOf_67 : decode cX1_cappedOf 67 = .ok (.i2l, 1) := by decide +kernel
theorem dX1_cappedOf_68 : decode cX1_cappedOf 68 = .ok (.bipush 100, 2) := by decide +kernel
theorem dX1_cappedOf_70 : decode cX1_cappedOf 70 = .ok (.aload_n 0, 1) := by decide +kernel
theorem dX1_cappedOf_71 : decode cX1_cappedOf 71 = .ok (.getfield 29, 3) := by decide +kernel
theorem dX1_cappedOf_74 : decode cX1_cappedOf 74 = .ok (.iadd, 1) := by decide +kernel
theorem dX1_cappedOf_75 : decode cX1_cappedOf 75 = .ok (.i2l, 1) := by decide +kernel
theorem dX1_cappedOf_76 : decode cX1_cappedOf 76 = .ok (.lmul, 1) := by decide +kernel
theorem dX1_cappedOf_77 : decode cX1_cappedOf 77 = .ok (.ldc2_w 98, 3) := by decide +kernel
theorem dX1_cappedOf_80 : decode cX1_cappedOf 80 = .ok (.ldiv, 1) := by decide +kernel
theorem dX1_cappedOf_81 : decode cX1_cappedOf 81 = .ok (.lstore 6, 2) := by decide +kernel
theorem dX1_cappedOf_83 : decode cX1_cappedOf 83 = .ok (.lload_n 2, 1) := by decide +kernel
theorem dX1_cappedOf_84 : decode cX1_cappedOf 84 = .ok (.lload 4, 2) := by decide +kernel
theorem dX1_cappedOf_86 : decode cX1_cappedOf 86 = .ok (.lcmp, 1) := by decide +kernel
theorem dX1_cappedOf_87 : decode cX1_cappedOf 87 = .ok (.ifCond .ge 8, 3) := by decide +kernel
theorem dX1_cappedOf_90 : decode cX1_cappedOf 90 = .ok (.lload 4, 2) := by decide +kernel
theorem dX1_cappedOf_92 : decode cX1_cappedOf 92 = .ok (.goto 4, 3) := by decide +kernel
theorem dX1_cappedOf_95 : decode cX1_cappedOf 95 = .ok (.lload_n 2, 1) := by decide +kernel
theorem dX1_cappedOf_96 : decode cX1_cappedOf 96 = .ok (.lstore_n 2, 1) := by decide +kernel
theorem dX1_cappedOf_97 : decode cX1_cappedOf 97 = .ok (.lload_n 2, 1) := by decide +kernel
theorem dX1_cappedOf_98 : decode cX1_cappedOf 98 = .ok (.lload 6, 2) := by decide +kernel
theorem dX1_cappedOf_100 : decode cX1_cappedOf 100 = .ok (.lcmp, 1) := by decide +kernel
theorem dX1_cappedOf_101 : decode cX1_cappedOf 101 = .ok (.ifCond .le 8, 3) := by decide +kernel
theorem dX1_cappedOf_104 : decode cX1_cappedOf 104 = .ok (.lload 6, 2) := by decide +kernel
theorem dX1_cappedOf_106 : decode cX1_cappedOf 106 = .ok (.goto 4, 3) := by decide +kernel
theorem dX1_cappedOf_109 : decode cX1_cappedOf 109 = .ok (.lload_n 2, 1) := by decide +kernel
theorem dX1_cappedOf_110 : decode cX1_cappedOf 110 = .ok (.lreturn, 1) := by decide +kernel
set_option maxRecDepth 20000 in
theorem dX1_allFitted_0 : decode cX1_allFitted 0 = .ok (.aload_n 0, 1) := by decide +kernel
theorem dX1_allFitted_1 : decode cX1_allFitted 1 = .ok (.invokevirtual 90, 3) := by decide +kernel
theorem dX1_allFitted_4 : decode cX1_allFitted 4 = .ok (.lstore_n 1, 1) := by decide +kernel
theorem dX1_allFitted_5 : decode cX1_allFitted 5 = .ok (.lconst 0, 1) := by decide +kernel
theorem dX1_allFitted_6 : decode cX1_allFitted 6 = .ok (.lstore_n 3, 1) := by decide +kernel
theorem dX1_allFitted_7 : decode cX1_allFitted 7 = .ok (.iconst 0, 1) := by decide +kernel
theorem dX1_allFitted_8 : decode cX1_allFitted 8 = .ok (.istore 5, 2) := by decide +kernel
theorem dX1_allFitted_10 : decode cX1_allFitted 10 = .ok (.iload 5, 2) := by decide +kernel
theorem dX1_allFitted_12 : decode cX1_allFitted 12 = .ok (.aload_n 0, 1) := by decide +kernel
theorem dX1_allFitted_13 : decode cX1_allFitted 13 = .ok (.getfield 63, 3) := by decide +kernel
theorem dX1_allFitted_16 : decode cX1_allFitted 16 = .ok (.if_icmp .ge 33, 3) := by decide +kernel
theorem dX1_allFitted_19 : decode cX1_allFitted 19 = .ok (.lload_n 3, 1) := by decide +kernel
theorem dX1_allFitted_20 : decode cX1_allFitted 20 = .ok (.aload_n 0, 1) := by decide +kernel
theorem dX1_allFitted_21 : decode cX1_allFitted 21 = .ok (.getfield 25, 3) := by decide +kernel
theorem dX1_allFitted_24 : decode cX1_allFitted 24 = .ok (.iload 5, 2) := by decide +kernel
theorem dX1_allFitted_26 : decode cX1_allFitted 26 = .ok (.baload, 1) := by decide +kernel
theorem dX1_allFitted_27 : decode cX1_allFitted 27 = .ok (.ifCond .eq 7, 3) := by decide +kernel
theorem dX1_allFitted_30 : decode cX1_allFitted 30 = .ok (.lconst 0, 1) := by decide +kernel
theorem dX1_allFitted_31 : decode cX1_allFitted 31 = .ok (.goto 10, 3) := by decide +kernel
theorem dX1_allFitted_34 : decode cX1_allFitted 34 = .ok (.aload_n 0, 1) := by decide +kernel
theorem dX1_allFitted_35 : decode cX1_allFitted 35 = .ok (.iload 5, 2) := by decide +kernel
theorem dX1_allFitted_37 : decode cX1_allFitted 37 = .ok (.lload_n 1, 1) := by decide +kernel
theorem dX1_allFitted_38 : decode cX1_allFitted 38 = .ok (.invokevirtual 94, 3) := by decide +kernel
theorem dX1_allFitted_41 : decode cX1_allFitted 41 = .ok (.ladd, 1) := by decide +kernel
theorem dX1_allFitted_42 : decode cX1_allFitted 42 = .ok (.lstore_n 3, 1) := by decide +kernel
theorem dX1_allFitted_43 : decode cX1_allFitted 43 = .ok (.iinc 5 1, 3) := by decide +kernel
theorem dX1_allFitted_46 : decode cX1_allFitted 46 = .ok (.goto (-36), 3) := by decide +kernel
theorem dX1_allFitted_49 : decode cX1_allFitted 49 = .ok (.lload_n 3, 1) := by decide +kernel
theorem dX1_allFitted_50 : decode cX1_allFitted 50 = .ok (.lreturn, 1) := by decide +kernel
set_option maxRecDepth 20000 in
theorem dX1_allCapped_0 : decode cX1_allCapped 0 = .ok (.lconst 0, 1) := by decide +kernel
theorem dX1_allCapped_1 : decode cX1_allCapped 1 = .ok (.lstore_n 1, 1) := by decide +kernel
theorem dX1_allCapped_2 : decode cX1_allCapped 2 = .ok (.iconst 0, 1) := by decide +kernel
theorem dX1_allCapped_3 : decode cX1_allCapped 3 = .ok (.istore_n 3, 1) := by decide +kernel
theorem dX1_allCapped_4 : decode cX1_allCapped 4 = .ok (.iload_n 3, 1) := by decide +kernel
theorem dX1_allCapped_5 : decode cX1_allCapped 5 = .ok (.aload_n 0, 1) := by decide +kernel
theorem dX1_allCapped_6 : decode cX1_allCapped 6 = .ok (.getfield 63, 3) := by decide +kernel
theorem dX1_allCapped_9 : decode cX1_allCapped 9 = .ok (.if_icmp .ge 30, 3) := by decide +kernel
theorem dX1_allCapped_12 : decode cX1_allCapped 12 = .ok (.lload_n 1, 1) := by decide +kernel
theorem dX1_allCapped_13 : decode cX1_allCapped 13 = .ok (.aload_n 0, 1) := by decide +kernel
theorem dX1_allCapped_14 : decode cX1_allCapped 14 = .ok (.getfield 25, 3) := by decide +kernel
theorem dX1_allCapped_17 : decode cX1_allCapped 17 = .ok (.iload_n 3, 1) := by decide +kernel
theorem dX1_allCapped_18 : decode cX1_allCapped 18 = .ok (.baload, 1) := by decide +kernel
theorem dX1_allCapped_19 : decode cX1_allCapped 19 = .ok (.ifCond .eq 7, 3) := by decide +kernel
theorem dX1_allCapped_22 : decode cX1_allCapped 22 = .ok (.lconst 0, 1) := by decide +kernel
theorem dX1_allCapped_23 : decode cX1_allCapped 23 = .ok (.goto 8, 3) := by decide +kernel
theorem dX1_allCapped_26 : decode cX1_allCapped 26 = .ok (.aload_n 0, 1) := by decide +kernel
theorem dX1_allCapped_27 : decode cX1_allCapped 27 = .ok (.iload_n 3, 1) := by decide +kernel
theorem dX1_allCapped_28 : decode cX1_allCapped 28 = .ok (.invokevirtual 133, 3) := by decide +kernel
theorem dX1_allCapped_31 : decode cX1_allCapped 31 = .ok (.ladd, 1) := by decide +kernel
theorem dX1_allCapped_32 : decode cX1_allCapped 32 = .ok (.lstore_n 1, 1) := by decide +kernel
theorem dX1_allCapped_33 : decode cX1_allCapped 33 = .ok (.iinc 3 1, 3) := by decide +kernel
theorem dX1_allCapped_36 : decode cX1_allCapped 36 = .ok (.goto (-32), 3) := by decide +kernel
theorem dX1_allCapped_39 : decode cX1_allCapped 39 = .ok (.lload_n 1, 1) := by decide +kernel
theorem dX1_allCapped_40 : decode cX1_allCapped 40 = .ok (.lreturn, 1) := by decide +kernel
set_option maxRecDepth 20000 in
theorem dX1_spread_0 : decode cX1_spread 0 = .ok (.aload_n 0, 1) := by decide +kernel
theorem dX1_spread_1 : decode cX1_spread 1 = .ok (.iconst 0, 1) := by decide +kernel
theorem dX1_spread_2 : decode cX1_spread 2 = .ok (.putfield 48, 3) := by decide +kernel
theorem dX1_spread_5 : decode cX1_spread 5 = .ok (.aload_n 0, 1) := by decide +kernel
theorem dX1_spread_6 : decode cX1_spread 6 = .ok (.invokevirtual 136, 3) := by decide +kernel
theorem dX1_spread_9 : decode cX1_spread 9 = .ok (.lstore_n 1, 1) := by decide +kernel
theorem dX1_spread_10 : decode cX1_spread 10 = .ok (.lload_n 1, 1) := by decide +kernel
theorem dX1_spread_11 : decode cX1_spread 11 = .ok (.lconst 0, 1) := by decide +kernel
theorem dX1_spread_12 : decode cX1_spread 12 = .ok (.lcmp, 1) := by decide +kernel
theorem dX1_spread_13 : decode cX1_spread 13 = .ok (.ifCond .le 74, 3) := by decide +kernel
theorem dX1_spread_16 : decode cX1_spread 16 = .ok (.ldc2_w 33, 3) := by decide +kernel
theorem dX1_spread_19 : decode cX1_spread 19 = .ok (.aload_n 0, 1) := by decide +kernel
theorem dX1_spread_20 : decode cX1_spread 20 = .ok (.invokevirtual 139, 3) := by decide +kernel
theorem dX1_spread_23 : decode cX1_spread 23 = .ok (.lmul, 1) := by decide +kernel
theorem dX1_spread_24 : decode cX1_spread 24 = .ok (.lload_n 1, 1) := by decide +kernel
theorem dX1_spread_25 : decode cX1_spread 25 = .ok (.ldiv, 1) := by decide +kernel
theorem dX1_spread_26 : decode cX1_spread 26 = .ok (.lstore_n 3, 1) := by decide +kernel
theorem dX1_spread_27 : decode cX1_spread 27 = .ok (.lload_n 3, 1) := by decide +kernel
theorem dX1_spread_28 : decode cX1_spread 28 = .ok (.ldc2_w 142, 3) := by decide +kernel
theorem dX1_spread_31 : decode cX1_spread 31 = .ok (.lcmp, 1) := by decide +kernel
theorem dX1_spread_32 : decode cX1_spread 32 = .ok (.ifCond .le 9, 3) := by decide +kernel
theorem dX1_spread_35 : decode cX1_spread 35 = .ok (.ldc2_w 142, 3) := by decide +kernel
theorem dX1_spread_38 : decode cX1_spread 38 = .ok (.goto 4, 3) := by decide +kernel
theorem dX1_spread_41 : decode cX1_spread 41 = .ok (.lload_n 3, 1) := by decide +kernel
theorem dX1_spread_42 : decode cX1_spread 42 = .ok (.lstore_n 3, 1) := by decide +kernel
theorem dX1_spread_43 : decode cX1_spread 43 = .ok (.aload_n 0, 1) := by decide +kernel
theorem dX1_spread_44 : decode cX1_spread 44 = .ok (.getfield 35, 3) := by decide +kernel
theorem dX1_spread_47 : decode cX1_spread 47 = .ok (.lload_n 3, 1) := by decide +kernel
theorem dX1_spread_48 : decode cX1_spread 48 = .ok (.lmul, 1) := by decide +kernel
theorem dX1_spread_49 : decode cX1_spread 49 = .ok (.ldc2_w 33, 3) := by decide +kernel
theorem dX1_spread_52 : decode cX1_spread 52 = .ok (.ldiv, 1) := by decide +kernel
theorem dX1_spread_53 : decode cX1_spread 53 = .ok (.lstore 5, 2) := by decide +kernel
theorem dX1_spread_55 : decode cX1_spread 55 = .ok (.aload_n 0, 1) := by decide +kernel
theorem dX1_spread_56 : decode cX1_spread 56 = .ok (.lload 5, 2) := by decide +kernel
theorem dX1_spread_58 : decode cX1_spread 58 = .ok (.lconst 1, 1) := by decide +kernel
theorem dX1_spread_59 : decode cX1_spread 59 = .ok (.lcmp, 1) := by decide +kernel
theorem dX1_spread_60 : decode cX1_spread 60 = .ok (.ifCond .ge 7, 3) := by decide +kernel
theorem dX1_spread_63 : decode cX1_spread 63 = .ok (.lconst 1, 1) := by decide +kernel
theorem dX1_spread_64 : decode cX1_spread 64 = .ok (.goto 20, 3) := by decide +kernel
theorem dX1_spread_67 : decode cX1_spread 67 = .ok (.lload 5, 2) := by decide +kernel
theorem dX1_spread_69 : decode cX1_spread 69 = .ok (.ldc2_w 142, 3) := by decide +kernel
theorem dX1_spread_72 : decode cX1_spread 72 = .ok (.lcmp, 1) := by decide +kernel
theorem dX1_spread_73 : decode cX1_spread 73 = .ok (.ifCond .le 9, 3) := by decide +kernel
theorem dX1_spread_76 : decode cX1_spread 76 = .ok (.ldc2_w 142, 3) := by decide +kernel
theorem dX1_spread_79 : decode cX1_spread 79 = .ok (.goto 5, 3) := by decide +kernel
theorem dX1_spread_82 : decode cX1_spread 82 = .ok (.lload 5, 2) := by decide +kernel
theorem dX1_spread_84 : decode cX1_spread 84 = .ok (.putfield 35, 3) := by decide +kernel
theorem dX1_spread_87 : decode cX1_spread 87 = .ok (.aload_n 0, 1) := by decide +kernel
theorem dX1_spread_88 : decode cX1_spread 88 = .ok (.getfield 35, 3) := by decide +kernel
theorem dX1_spread_91 : decode cX1_spread 91 = .ok (.l2i, 1) := by decide +kernel
theorem dX1_spread_92 : decode cX1_spread 92 = .ok (.ireturn, 1) := by decide +kernel
set_option maxRecDepth 20000 in
theorem dX1_rows_0 : decode cX1_rows 0 = .ok (.aload_n 0, 1) := by decide +kernel
theorem dX1_rows_1 : decode cX1_rows 1 = .ok (.iconst 0, 1) := by decide +kernel
theorem dX1_rows_2 : decode cX1_rows 2 = .ok (.putfield 48, 3) := by decide +kernel
theorem dX1_rows_5 : decode cX1_rows 5 = .ok (.aload_n 0, 1) := by decide +kernel
theorem dX1_rows_6 : decode cX1_rows 6 = .ok (.invokevirtual 78, 3) := by decide +kernel
theorem dX1_rows_9 : decode cX1_rows 9 = .ok (.ireturn, 1) := by decide +kernel
set_option maxRecDepth 20000 in
theorem dX1_base_0 : decode cX1_base 0 = .ok (.aload_n 0, 1) := by decide +kernel
theorem dX1_base_1 : decode cX1_base 1 = .ok (.iconst 0, 1) := by decide +kernel
theorem dX1_base_2 : decode cX1_base 2 = .ok (.putfield 48, 3) := by decide +kernel
theorem dX1_base_5 : decode cX1_base 5 = .ok (.aload_n 0, 1) := by decide +kernel
theorem dX1_base_6 : decode cX1_base 6 = .ok (.invokevirtual 90, 3) := by decide +kernel
theorem dX1_base_9 : decode cX1_base 9 = .ok (.lreturn, 1) := by decide +kernel
set_option maxRecDepth 20000 in
theorem dX1_factor_0 : decode cX1_factor 0 = .ok (.aload_n 0, 1) := by decide +kernel
theorem dX1_factor_1 : decode cX1_factor 1 = .ok (.iload_n 1, 1) := by decide +kernel
theorem dX1_factor_2 : decode cX1_factor 2 = .ok (.iload_n 2, 1) := by decide +kernel
theorem dX1_factor_3 : decode cX1_factor 3 = .ok (.invokestatic 66, 3) := by decide +kernel
theorem dX1_factor_6 : decode cX1_factor 6 = .ok (.iconst 1, 1) := by decide +kernel
theorem dX1_factor_7 : decode cX1_factor 7 = .ok (.iconst 1, 1) := by decide +kernel
theorem dX1_factor_8 : decode cX1_factor 8 = .ok (.invokevirtual 71, 3) := by decide +kernel
theorem dX1_factor_11 : decode cX1_factor 11 = .ok (.ifCond .eq 16, 3) := by decide +kernel
theorem dX1_factor_14 : decode cX1_factor 14 = .ok (.aload_n 0, 1) := by decide +kernel
theorem dX1_factor_15 : decode cX1_factor 15 = .ok (.getfield 39, 3) := by decide +kernel
theorem dX1_factor_18 : decode cX1_factor 18 = .ok (.iconst 4, 1) := by decide +kernel
theorem dX1_factor_19 : decode cX1_factor 19 = .ok (.iload_n 1, 1) := by decide +kernel
theorem dX1_factor_20 : decode cX1_factor 20 = .ok (.imul, 1) := by decide +kernel
theorem dX1_factor_21 : decode cX1_factor 21 = .ok (.iload_n 2, 1) := by decide +kernel
theorem dX1_factor_22 : decode cX1_factor 22 = .ok (.iadd, 1) := by decide +kernel
theorem dX1_factor_23 : decode cX1_factor 23 = .ok (.iaload, 1) := by decide +kernel
theorem dX1_factor_24 : decode cX1_factor 24 = .ok (.goto 4, 3) := by decide +kernel
theorem dX1_factor_27 : decode cX1_factor 27 = .ok (.iconst 0, 1) := by decide +kernel
theorem dX1_factor_28 : decode cX1_factor 28 = .ok (.ireturn, 1) := by decide +kernel
set_option maxRecDepth 20000 in
theorem dX1_fitted_0 : decode cX1_fitted 0 = .ok (.aload_n 0, 1) := by decide +kernel
theorem dX1_fitted_1 : decode cX1_fitted 1 = .ok (.aload_n 0, 1) := by decide +kernel
theorem dX1_fitted_2 : decode cX1_fitted 2 = .ok (.iload_n 1, 1) := by decide +kernel
theorem dX1_fitted_3 : decode cX1_fitted 3 = .ok (.invokevirtual 75, 3) := by decide +kernel
theorem dX1_fitted_6 : decode cX1_fitted 6 = .ok (.iconst 1, 1) := by decide +kernel
theorem dX1_fitted_7 : decode cX1_fitted 7 = .ok (.iconst 1, 1) := by decide +kernel
theorem dX1_fitted_8 : decode cX1_fitted 8 = .ok (.invokevirtual 71, 3) := by decide +kernel
theorem dX1_fitted_11 : decode cX1_fitted 11 = .ok (.ifCond .eq 15, 3) := by decide +kernel
theorem dX1_fitted_14 : decode cX1_fitted 14 = .ok (.aload_n 0, 1) := by decide +kernel
theorem dX1_fitted_15 : decode cX1_fitted 15 = .ok (.iload_n 1, 1) := by decide +kernel
theorem dX1_fitted_16 : decode cX1_fitted 16 = .ok (.aload_n 0, 1) := by decide +kernel
theorem dX1_fitted_17 : decode cX1_fitted 17 = .ok (.invokevirtual 90, 3) := by decide +kernel
theorem dX1_fitted_20 : decode cX1_fitted 20 = .ok (.invokevirtual 94, 3) := by decide +kernel
theorem dX1_fitted_23 : decode cX1_fitted 23 = .ok (.goto 4, 3) := by decide +kernel
theorem dX1_fitted_26 : decode cX1_fitted 26 = .ok (.lconst 0, 1) := by decide +kernel
theorem dX1_fitted_27 : decode cX1_fitted 27 = .ok (.lreturn, 1) := by decide +kernel
set_option maxRecDepth 20000 in
theorem dX1_toldSum_0 : decode cX1_toldSum 0 = .ok (.aload_n 0, 1) := by decide +kernel
theorem dX1_toldSum_1 : decode cX1_toldSum 1 = .ok (.iload_n 1, 1) := by decide +kernel
theorem dX1_toldSum_2 : decode cX1_toldSum 2 = .ok (.iload_n 2, 1) := by decide +kernel
theorem dX1_toldSum_3 : decode cX1_toldSum 3 = .ok (.invokestatic 66, 3) := by decide +kernel
theorem dX1_toldSum_6 : decode cX1_toldSum 6 = .ok (.iconst 1, 1) := by decide +kernel
theorem dX1_toldSum_7 : decode cX1_toldSum 7 = .ok (.iconst 1, 1) := by decide +kernel
theorem dX1_toldSum_8 : decode cX1_toldSum 8 = .ok (.invokevirtual 71, 3) := by decide +kernel
theorem dX1_toldSum_11 : decode cX1_toldSum 11 = .ok (.ifCond .eq 12, 3) := by decide +kernel
theorem dX1_toldSum_14 : decode cX1_toldSum 14 = .ok (.aload_n 0, 1) := by decide +kernel
theorem dX1_toldSum_15 : decode cX1_toldSum 15 = .ok (.iload_n 1, 1) := by decide +kernel
theorem dX1_toldSum_16 : decode cX1_toldSum 16 = .ok (.iload_n 2, 1) := by decide +kernel
theorem dX1_toldSum_17 : decode cX1_toldSum 17 = .ok (.invokevirtual 109, 3) := by decide +kernel
theorem dX1_toldSum_20 : decode cX1_toldSum 20 = .ok (.goto 4, 3) := by decide +kernel
theorem dX1_toldSum_23 : decode cX1_toldSum 23 = .ok (.lconst 0, 1) := by decide +kernel
theorem dX1_toldSum_24 : decode cX1_toldSum 24 = .ok (.lreturn, 1) := by decide +kernel
set_option maxRecDepth 20000 in
theorem dX1_fittedSum_0 : decode cX1_fittedSum 0 = .ok (.aload_n 0, 1) := by decide +kernel
theorem dX1_fittedSum_1 : decode cX1_fittedSum 1 = .ok (.iload_n 1, 1) := by decide +kernel
theorem dX1_fittedSum_2 : decode cX1_fittedSum 2 = .ok (.iload_n 2, 1) := by decide +kernel
theorem dX1_fittedSum_3 : decode cX1_fittedSum 3 = .ok (.invokestatic 66, 3) := by decide +kernel
theorem dX1_fittedSum_6 : decode cX1_fittedSum 6 = .ok (.iconst 1, 1) := by decide +kernel
theorem dX1_fittedSum_7 : decode cX1_fittedSum 7 = .ok (.iconst 1, 1) := by decide +kernel
theorem dX1_fittedSum_8 : decode cX1_fittedSum 8 = .ok (.invokevirtual 71, 3) := by decide +kernel
theorem dX1_fittedSum_11 : decode cX1_fittedSum 11 = .ok (.ifCond .eq 12, 3) := by decide +kernel
theorem dX1_fittedSum_14 : decode cX1_fittedSum 14 = .ok (.aload_n 0, 1) := by decide +kernel
theorem dX1_fittedSum_15 : decode cX1_fittedSum 15 = .ok (.iload_n 1, 1) := by decide +kernel
theorem dX1_fittedSum_16 : decode cX1_fittedSum 16 = .ok (.iload_n 2, 1) := by decide +kernel
theorem dX1_fittedSum_17 : decode cX1_fittedSum 17 = .ok (.invokevirtual 102, 3) := by decide +kernel
theorem dX1_fittedSum_20 : decode cX1_fittedSum 20 = .ok (.goto 4, 3) := by decide +kernel
theorem dX1_fittedSum_23 : decode cX1_fittedSum 23 = .ok (.lconst 0, 1) := by decide +kernel
theorem dX1_fittedSum_24 : decode cX1_fittedSum 24 = .ok (.lreturn, 1) := by decide +kernel
set_option maxRecDepth 20000 in
theorem dX1_worst_0 : decode cX1_worst 0 = .ok (.lconst 0, 1) := by decide +kernel
theorem dX1_worst_1 : decode cX1_worst 1 = .ok (.lstore_n 2, 1) := by decide +kernel
theorem dX1_worst_2 : decode cX1_worst 2 = .ok (.aload_n 0, 1) := by decide +kernel
theorem dX1_worst_3 : decode cX1_worst 3 = .ok (.iload_n 1, 1) := by decide +kernel
theorem dX1_worst_4 : decode cX1_worst 4 = .ok (.invokestatic 55, 3) := by decide +kernel
theorem dX1_worst_7 : decode cX1_worst 7 = .ok (.iconst 1, 1) := by decide +kernel
theorem dX1_worst_8 : decode cX1_worst 8 = .ok (.iconst 1, 1) := by decide +kernel
theorem dX1_worst_9 : decode cX1_worst 9 = .ok (.invokevirtual 71, 3) := by decide +kernel
theorem dX1_worst_12 : decode cX1_worst 12 = .ok (.istore 4, 2) := by decide +kernel
theorem dX1_worst_14 : decode cX1_worst 14 = .ok (.iconst 0, 1) := by decide +kernel
theorem dX1_worst_15 : decode cX1_worst 15 = .ok (.istore 5, 2) := by decide +kernel
theorem dX1_worst_17 : decode cX1_worst 17 = .ok (.iload 4, 2) := by decide +kernel
theorem dX1_worst_19 : decode cX1_worst 19 = .ok (.ifCond .eq 66, 3) := by decide +kernel
theorem dX1_worst_22 : decode cX1_worst 22 = .ok (.iload 5, 2) := by decide +kernel
theorem dX1_worst_24 : decode cX1_worst 24 = .ok (.iload_n 1, 1) := by decide +kernel
theorem dX1_worst_25 : decode cX1_worst 25 = .ok (.invokestatic 59, 3) := by decide +kernel
theorem dX1_worst_28 : decode cX1_worst 28 = .ok (.if_icmp .ge 57, 3) := by decide +kernel
theorem dX1_worst_31 : decode cX1_worst 31 = .ok (.aload_n 0, 1) := by decide +kernel
theorem dX1_worst_32 : decode cX1_worst 32 = .ok (.iload_n 1, 1) := by decide +kernel
theorem dX1_worst_33 : decode cX1_worst 33 = .ok (.iload 5, 2) := by decide +kernel
theorem dX1_worst_35 : decode cX1_worst 35 = .ok (.invokevirtual 109, 3) := by decide +kernel
theorem dX1_worst_38 : decode cX1_worst 38 = .ok (.aload_n 0, 1) := by decide +kernel
theorem dX1_worst_39 : decode cX1_worst 39 = .ok (.iload_n 1, 1) := by decide +kernel
theorem dX1_worst_40 : decode cX1_worst 40 = .ok (.iload 5, 2) := by decide +kernel
theorem dX1_worst_42 : decode cX1_worst 42 = .ok (.invokevirtual 102, 3) := by decide +kernel
theorem dX1_worst_45 : decode cX1_worst 45 = .ok (.lsub, 1) := by decide +kernel
theorem dX1_worst_46 : decode cX1_worst 46 = .ok (.lstore 6, 2) := by decide +kernel
theorem dX1_worst_48 : decode cX1_worst 48 = .ok (.lload 6, 2) := by decide +kernel
theorem dX1_worst_50 : decode cX1_worst 50 = .ok (.lconst 0, 1) := by decide +kernel
theorem dX1_worst_51 : decode cX1_worst 51 = .ok (.lcmp, 1) := by decide +kernel
theorem dX1_worst_52 : decode cX1_worst 52 = .ok (.ifCond .ge 9, 3) := by decide +kernel
theorem dX1_worst_55 : decode cX1_worst 55 = .ok (.lload 6, 2) := by decide +kernel
theorem dX1_worst_57 : decode cX1_worst 57 = .ok (.lneg, 1) := by decide +kernel
theorem dX1_worst_58 : decode cX1_worst 58 = .ok (.goto 5, 3) := by decide +kernel
theorem dX1_worst_61 : decode cX1_worst 61 = .ok (.lload 6, 2) := by decide +kernel
theorem dX1_worst_63 : decode cX1_worst 63 = .ok (.lstore 6, 2) := by decide +kernel
theorem dX1_worst_65 : decode cX1_worst 65 = .ok (.lload 6, 2) := by decide +kernel
theorem dX1_worst_67 : decode cX1_worst 67 = .ok (.lload_n 2, 1) := by decide +kernel
theorem dX1_worst_68 : decode cX1_worst 68 = .ok (.lcmp, 1) := by decide +kernel
theorem dX1_worst_69 : decode cX1_worst 69 = .ok (.ifCond .le 8, 3) := by decide +kernel
theorem dX1_worst_72 : decode cX1_worst 72 = .ok (.lload 6, 2) := by decide +kernel
theorem dX1_worst_74 : decode cX1_worst 74 = .ok (.goto 4, 3) := by decide +kernel
theorem dX1_worst_77 : decode cX1_worst 77 = .ok (.lload_n 2, 1) := by decide +kernel
theorem dX1_worst_78 : decode cX1_worst 78 = .ok (.lstore_n 2, 1) := by decide +kernel
theorem dX1_worst_79 : decode cX1_worst 79 = .ok (.iinc 5 1, 3) := by decide +kernel
theorem dX1_worst_82 : decode cX1_worst 82 = .ok (.goto (-65), 3) := by decide +kernel
theorem dX1_worst_85 : decode cX1_worst 85 = .ok (.lload_n 2, 1) := by decide +kernel
theorem dX1_worst_86 : decode cX1_worst 86 = .ok (.lreturn, 1) := by decide +kernel
set_option maxRecDepth 20000 in
theorem dX1_premium_0 : decode cX1_premium 0 = .ok (.aload_n 0, 1) := by decide +kernel
theorem dX1_premium_1 : decode cX1_premium 1 = .ok (.aload_n 0, 1) := by decide +kernel
theorem dX1_premium_2 : decode cX1_premium 2 = .ok (.iload_n 1, 1) := by decide +kernel
theorem dX1_premium_3 : decode cX1_premium 3 = .ok (.invokevirtual 75, 3) := by decide +kernel
theorem dX1_premium_6 : decode cX1_premium 6 = .ok (.iconst 1, 1) := by decide +kernel
theorem dX1_premium_7 : decode cX1_premium 7 = .ok (.iconst 1, 1) := by decide +kernel
theorem dX1_premium_8 : decode cX1_premium 8 = .ok (.invokevirtual 71, 3) := by decide +kernel
theorem dX1_premium_11 : decode cX1_premium 11 = .ok (.ifCond .eq 11, 3) := by decide +kernel
theorem dX1_premium_14 : decode cX1_premium 14 = .ok (.aload_n 0, 1) := by decide +kernel
theorem dX1_premium_15 : decode cX1_premium 15 = .ok (.iload_n 1, 1) := by decide +kernel
theorem dX1_premium_16 : decode cX1_premium 16 = .ok (.invokevirtual 129, 3) := by decide +kernel
theorem dX1_premium_19 : decode cX1_premium 19 = .ok (.goto 4, 3) := by decide +kernel
theorem dX1_premium_22 : decode cX1_premium 22 = .ok (.lconst 0, 1) := by decide +kernel
theorem dX1_premium_23 : decode cX1_premium 23 = .ok (.lreturn, 1) := by decide +kernel
set_option maxRecDepth 20000 in
theorem dX1_capped_0 : decode cX1_capped 0 = .ok (.aload_n 0, 1) := by decide +kernel
theorem dX1_capped_1 : decode cX1_capped 1 = .ok (.aload_n 0, 1) := by decide +kernel
theorem dX1_capped_2 : decode cX1_capped 2 = .ok (.iload_n 1, 1) := by decide +kernel
theorem dX1_capped_3 : decode cX1_capped 3 = .ok (.invokevirtual 75, 3) := by decide +kernel
theorem dX1_capped_6 : decode cX1_capped 6 = .ok (.iconst 1, 1) := by decide +kernel
theorem dX1_capped_7 : decode cX1_capped 7 = .ok (.iconst 1, 1) := by decide +kernel
theorem dX1_capped_8 : decode cX1_capped 8 = .ok (.invokevirtual 71, 3) := by decide +kernel
theorem dX1_capped_11 : decode cX1_capped 11 = .ok (.ifCond .eq 11, 3) := by decide +kernel
theorem dX1_capped_14 : decode cX1_capped 14 = .ok (.aload_n 0, 1) := by decide +kernel
theorem dX1_capped_15 : decode cX1_capped 15 = .ok (.iload_n 1, 1) := by decide +kernel
theorem dX1_capped_16 : decode cX1_capped 16 = .ok (.invokevirtual 133, 3) := by decide +kernel
theorem dX1_capped_19 : decode cX1_capped 19 = .ok (.goto 4, 3) := by decide +kernel
theorem dX1_capped_22 : decode cX1_capped 22 = .ok (.lconst 0, 1) := by decide +kernel
theorem dX1_capped_23 : decode cX1_capped 23 = .ok (.lreturn, 1) := by decide +kernel
set_option maxRecDepth 20000 in
theorem dX1_lost_0 : decode cX1_lost 0 = .ok (.aload_n 0, 1) := by decide +kernel
theorem dX1_lost_1 : decode cX1_lost 1 = .ok (.iconst 0, 1) := by decide +kernel
theorem dX1_lost_2 : decode cX1_lost 2 = .ok (.putfield 48, 3) := by decide +kernel
theorem dX1_lost_5 : decode cX1_lost 5 = .ok (.aload_n 0, 1) := by decide +kernel
theorem dX1_lost_6 : decode cX1_lost 6 = .ok (.invokevirtual 139, 3) := by decide +kernel
theorem dX1_lost_9 : decode cX1_lost 9 = .ok (.aload_n 0, 1) := by decide +kernel
theorem dX1_lost_10 : decode cX1_lost 10 = .ok (.invokevirtual 136, 3) := by decide +kernel
theorem dX1_lost_13 : decode cX1_lost 13 = .ok (.lsub, 1) := by decide +kernel
theorem dX1_lost_14 : decode cX1_lost 14 = .ok (.lreturn, 1) := by decide +kernel
set_option maxRecDepth 20000 in
theorem dX1_isAhead_0 : decode cX1_isAhead 0 = .ok (.aload_n 0, 1) := by decide +kernel
theorem dX1_isAhead_1 : decode cX1_isAhead 1 = .ok (.getfield 19, 3) := by decide +kernel
theorem dX1_isAhead_4 : decode cX1_isAhead 4 = .ok (.iload_n 1, 1) := by decide +kernel
theorem dX1_isAhead_5 : decode cX1_isAhead 5 = .ok (.iaload, 1) := by decide +kernel
theorem dX1_isAhead_6 : decode cX1_isAhead 6 = .ok (.i2l, 1) := by decide +kernel
theorem dX1_isAhead_7 : decode cX1_isAhead 7 = .ok (.lconst 1, 1) := by decide +kernel
theorem dX1_isAhead_8 : decode cX1_isAhead 8 = .ok (.aload_n 0, 1) := by decide +kernel
theorem dX1_isAhead_9 : decode cX1_isAhead 9 = .ok (.iload_n 2, 1) := by decide +kernel
theorem dX1_isAhead_10 : decode cX1_isAhead 10 = .ok (.lload_n 3, 1) := by decide +kernel
theorem dX1_isAhead_11 : decode cX1_isAhead 11 = .ok (.invokevirtual 94, 3) := by decide +kernel
theorem dX1_isAhead_14 : decode cX1_isAhead 14 = .ok (.ladd, 1) := by decide +kernel
theorem dX1_isAhead_15 : decode cX1_isAhead 15 = .ok (.lmul, 1) := by decide +kernel
theorem dX1_isAhead_16 : decode cX1_isAhead 16 = .ok (.lstore 5, 2) := by decide +kernel
theorem dX1_isAhead_18 : decode cX1_isAhead 18 = .ok (.aload_n 0, 1) := by decide +kernel
theorem dX1_isAhead_19 : decode cX1_isAhead 19 = .ok (.getfield 19, 3) := by decide +kernel
theorem dX1_isAhead_22 : decode cX1_isAhead 22 = .ok (.iload_n 2, 1) := by decide +kernel
theorem dX1_isAhead_23 : decode cX1_isAhead 23 = .ok (.iaload, 1) := by decide +kernel
theorem dX1_isAhead_24 : decode cX1_isAhead 24 = .ok (.i2l, 1) := by decide +kernel
theorem dX1_isAhead_25 : decode cX1_isAhead 25 = .ok (.lconst 1, 1) := by decide +kernel
theorem dX1_isAhead_26 : decode cX1_isAhead 26 = .ok (.aload_n 0, 1) := by decide +kernel
theorem dX1_isAhead_27 : decode cX1_isAhead 27 = .ok (.iload_n 1, 1) := by decide +kernel
theorem dX1_isAhead_28 : decode cX1_isAhead 28 = .ok (.lload_n 3, 1) := by decide +kernel
theorem dX1_isAhead_29 : decode cX1_isAhead 29 = .ok (.invokevirtual 94, 3) := by decide +kernel
theorem dX1_isAhead_32 : decode cX1_isAhead 32 = .ok (.ladd, 1) := by decide +kernel
theorem dX1_isAhead_33 : decode cX1_isAhead 33 = .ok (.lmul, 1) := by decide +kernel
theorem dX1_isAhead_34 : decode cX1_isAhead 34 = .ok (.lstore 7, 2) := by decide +kernel
theorem dX1_isAhead_36 : decode cX1_isAhead 36 = .ok (.lload 5, 2) := by decide +kernel
theorem dX1_isAhead_38 : decode cX1_isAhead 38 = .ok (.lload 7, 2) := by decide +kernel
theorem dX1_isAhead_40 : decode cX1_isAhead 40 = .ok (.lcmp, 1) := by decide +kernel
theorem dX1_isAhead_41 : decode cX1_isAhead 41 = .ok (.ifCond .gt 16, 3) := by decide +kernel
theorem dX1_isAhead_44 : decode cX1_isAhead 44 = .ok (.lload 5, 2) := by decide +kernel
theorem dX1_isAhead_46 : decode cX1_isAhead 46 = .ok (.lload 7, 2) := by decide +kernel
theorem dX1_isAhead_48 : decode cX1_isAhead 48 = .ok (.lcmp, 1) := by decide +kernel
theorem dX1_isAhead_49 : decode cX1_isAhead 49 = .ok (.ifCond .ne 12, 3) := by decide +kernel
theorem dX1_isAhead_52 : decode cX1_isAhead 52 = .ok (.iload_n 1, 1) := by decide +kernel
theorem dX1_isAhead_53 : decode cX1_isAhead 53 = .ok (.iload_n 2, 1) := by decide +kernel
theorem dX1_isAhead_54 : decode cX1_isAhead 54 = .ok (.if_icmp .ge 7, 3) := by decide +kernel
theorem dX1_isAhead_57 : decode cX1_isAhead 57 = .ok (.iconst 1, 1) := by decide +kernel
theorem dX1_isAhead_58 : decode cX1_isAhead 58 = .ok (.goto 4, 3) := by decide +kernel
theorem dX1_isAhead_61 : decode cX1_isAhead 61 = .ok (.iconst 0, 1) := by decide +kernel
theorem dX1_isAhead_62 : decode cX1_isAhead 62 = .ok (.ireturn, 1) := by decide +kernel
set_option maxRecDepth 20000 in
theorem dX1_ranked_0 : decode cX1_ranked 0 = .ok (.aload_n 0, 1) := by decide +kernel
theorem dX1_ranked_1 : decode cX1_ranked 1 = .ok (.invokevirtual 90, 3) := by decide +kernel

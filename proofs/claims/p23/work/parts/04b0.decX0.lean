theorem dX0_init_0 : decode cX0_init 0 = .ok (.aload_n 0, 1) := by decide +kernel
theorem dX0_init_1 : decode cX0_init 1 = .ok (.invokespecial 1, 3) := by decide +kernel
theorem dX0_init_4 : decode cX0_init 4 = .ok (.aload_n 0, 1) := by decide +kernel
theorem dX0_init_5 : decode cX0_init 5 = .ok (.iconst 3, 1) := by decide +kernel
theorem dX0_init_6 : decode cX0_init 6 = .ok (.iconst 4, 1) := by decide +kernel
theorem dX0_init_7 : decode cX0_init 7 = .ok (.multianewarray 9 2, 4) := by decide +kernel
theorem dX0_init_11 : decode cX0_init 11 = .ok (.putfield 11, 3) := by decide +kernel
theorem dX0_init_14 : decode cX0_init 14 = .ok (.aload_n 0, 1) := by decide +kernel
theorem dX0_init_15 : decode cX0_init 15 = .ok (.iconst 3, 1) := by decide +kernel
theorem dX0_init_16 : decode cX0_init 16 = .ok (.bipush 40, 2) := by decide +kernel
theorem dX0_init_18 : decode cX0_init 18 = .ok (.multianewarray 9 2, 4) := by decide +kernel
theorem dX0_init_22 : decode cX0_init 22 = .ok (.putfield 14, 3) := by decide +kernel
theorem dX0_init_25 : decode cX0_init 25 = .ok (.aload_n 0, 1) := by decide +kernel
theorem dX0_init_26 : decode cX0_init 26 = .ok (.bipush 40, 2) := by decide +kernel
theorem dX0_init_28 : decode cX0_init 28 = .ok (.newarray .long, 2) := by decide +kernel
theorem dX0_init_30 : decode cX0_init 30 = .ok (.putfield 17, 3) := by decide +kernel
theorem dX0_init_33 : decode cX0_init 33 = .ok (.aload_n 0, 1) := by decide +kernel
theorem dX0_init_34 : decode cX0_init 34 = .ok (.bipush 40, 2) := by decide +kernel
theorem dX0_init_36 : decode cX0_init 36 = .ok (.newarray .long, 2) := by decide +kernel
theorem dX0_init_38 : decode cX0_init 38 = .ok (.putfield 21, 3) := by decide +kernel
theorem dX0_init_41 : decode cX0_init 41 = .ok (.aload_n 0, 1) := by decide +kernel
theorem dX0_init_42 : decode cX0_init 42 = .ok (.bipush 40, 2) := by decide +kernel
theorem dX0_init_44 : decode cX0_init 44 = .ok (.newarray .long, 2) := by decide +kernel
theorem dX0_init_46 : decode cX0_init 46 = .ok (.putfield 24, 3) := by decide +kernel
theorem dX0_init_49 : decode cX0_init 49 = .ok (.aload_n 0, 1) := by decide +kernel
theorem dX0_init_50 : decode cX0_init 50 = .ok (.bipush 40, 2) := by decide +kernel
theorem dX0_init_52 : decode cX0_init 52 = .ok (.newarray .int, 2) := by decide +kernel
theorem dX0_init_54 : decode cX0_init 54 = .ok (.putfield 27, 3) := by decide +kernel
theorem dX0_init_57 : decode cX0_init 57 = .ok (.aload_n 0, 1) := by decide +kernel
theorem dX0_init_58 : decode cX0_init 58 = .ok (.bipush 40, 2) := by decide +kernel
theorem dX0_init_60 : decode cX0_init 60 = .ok (.newarray .boolean, 2) := by decide +kernel
theorem dX0_init_62 : decode cX0_init 62 = .ok (.putfield 31, 3) := by decide +kernel
theorem dX0_init_65 : decode cX0_init 65 = .ok (.aload_n 0, 1) := by decide +kernel
theorem dX0_init_66 : decode cX0_init 66 = .ok (.iconst 0, 1) := by decide +kernel
theorem dX0_init_67 : decode cX0_init 67 = .ok (.putfield 35, 3) := by decide +kernel
theorem dX0_init_70 : decode cX0_init 70 = .ok (.aload_n 0, 1) := by decide +kernel
theorem dX0_init_71 : decode cX0_init 71 = .ok (.iconst 0, 1) := by decide +kernel
theorem dX0_init_72 : decode cX0_init 72 = .ok (.putfield 39, 3) := by decide +kernel
theorem dX0_init_75 : decode cX0_init 75 = .ok (.aload_n 0, 1) := by decide +kernel
theorem dX0_init_76 : decode cX0_init 76 = .ok (.iconst 0, 1) := by decide +kernel
theorem dX0_init_77 : decode cX0_init 77 = .ok (.putfield 42, 3) := by decide +kernel
theorem dX0_init_80 : decode cX0_init 80 = .ok (.aload_n 0, 1) := by decide +kernel
theorem dX0_init_81 : decode cX0_init 81 = .ok (.iconst (-1), 1) := by decide +kernel
theorem dX0_init_82 : decode cX0_init 82 = .ok (.putfield 45, 3) := by decide +kernel
theorem dX0_init_85 : decode cX0_init 85 = .ok (.aload_n 0, 1) := by decide +kernel
theorem dX0_init_86 : decode cX0_init 86 = .ok (.sipush 10000, 3) := by decide +kernel
theorem dX0_init_89 : decode cX0_init 89 = .ok (.putfield 48, 3) := by decide +kernel
theorem dX0_init_92 : decode cX0_init 92 = .ok (.aload_n 0, 1) := by decide +kernel
theorem dX0_init_93 : decode cX0_init 93 = .ok (.lconst 0, 1) := by decide +kernel
theorem dX0_init_94 : decode cX0_init 94 = .ok (.putfield 51, 3) := by decide +kernel
theorem dX0_init_97 : decode cX0_init 97 = .ok (.aload_n 0, 1) := by decide +kernel
theorem dX0_init_98 : decode cX0_init 98 = .ok (.bipush 40, 2) := by decide +kernel
theorem dX0_init_100 : decode cX0_init 100 = .ok (.newarray .long, 2) := by decide +kernel
theorem dX0_init_102 : decode cX0_init 102 = .ok (.putfield 55, 3) := by decide +kernel
theorem dX0_init_105 : decode cX0_init 105 = .ok (.aload_n 0, 1) := by decide +kernel
theorem dX0_init_106 : decode cX0_init 106 = .ok (.iconst 4, 1) := by decide +kernel
theorem dX0_init_107 : decode cX0_init 107 = .ok (.newarray .int, 2) := by decide +kernel
theorem dX0_init_109 : decode cX0_init 109 = .ok (.putfield 58, 3) := by decide +kernel
theorem dX0_init_112 : decode cX0_init 112 = .ok (.aload_n 0, 1) := by decide +kernel
theorem dX0_init_113 : decode cX0_init 113 = .ok (.iconst 4, 1) := by decide +kernel
theorem dX0_init_114 : decode cX0_init 114 = .ok (.newarray .int, 2) := by decide +kernel
theorem dX0_init_116 : decode cX0_init 116 = .ok (.putfield 61, 3) := by decide +kernel
theorem dX0_init_119 : decode cX0_init 119 = .ok (.iconst 0, 1) := by decide +kernel
theorem dX0_init_120 : decode cX0_init 120 = .ok (.istore_n 1, 1) := by decide +kernel
theorem dX0_init_121 : decode cX0_init 121 = .ok (.iload_n 1, 1) := by decide +kernel
theorem dX0_init_122 : decode cX0_init 122 = .ok (.iconst 3, 1) := by decide +kernel
theorem dX0_init_123 : decode cX0_init 123 = .ok (.if_icmp .ge 21, 3) := by decide +kernel
theorem dX0_init_126 : decode cX0_init 126 = .ok (.aload_n 0, 1) := by decide +kernel
theorem dX0_init_127 : decode cX0_init 127 = .ok (.getfield 11, 3) := by decide +kernel
theorem dX0_init_130 : decode cX0_init 130 = .ok (.iload_n 1, 1) := by decide +kernel
theorem dX0_init_131 : decode cX0_init 131 = .ok (.aaload, 1) := by decide +kernel
theorem dX0_init_132 : decode cX0_init 132 = .ok (.sipush 10000, 3) := by decide +kernel
theorem dX0_init_135 : decode cX0_init 135 = .ok (.invokestatic 64, 3) := by decide +kernel
theorem dX0_init_138 : decode cX0_init 138 = .ok (.iinc 1 1, 3) := by decide +kernel
theorem dX0_init_141 : decode cX0_init 141 = .ok (.goto (-20), 3) := by decide +kernel
theorem dX0_init_144 : decode cX0_init 144 = .ok (.return_, 1) := by decide +kernel
theorem dX0_add_0 : decode cX0_add 0 = .ok (.iconst 0, 1) := by decide +kernel
theorem dX0_add_1 : decode cX0_add 1 = .ok (.iload_n 1, 1) := by decide +kernel
theorem dX0_add_2 : decode cX0_add 2 = .ok (.invokestatic 70, 3) := by decide +kernel
theorem dX0_add_5 : decode cX0_add 5 = .ok (.ifCond .eq 19, 3) := by decide +kernel
theorem dX0_add_8 : decode cX0_add 8 = .ok (.iconst 1, 1) := by decide +kernel
theorem dX0_add_9 : decode cX0_add 9 = .ok (.iload_n 2, 1) := by decide +kernel
theorem dX0_add_10 : decode cX0_add 10 = .ok (.invokestatic 70, 3) := by decide +kernel
theorem dX0_add_13 : decode cX0_add 13 = .ok (.ifCond .eq 11, 3) := by decide +kernel
theorem dX0_add_16 : decode cX0_add 16 = .ok (.iconst 2, 1) := by decide +kernel
theorem dX0_add_17 : decode cX0_add 17 = .ok (.iload_n 3, 1) := by decide +kernel
theorem dX0_add_18 : decode cX0_add 18 = .ok (.invokestatic 70, 3) := by decide +kernel
theorem dX0_add_21 : decode cX0_add 21 = .ok (.ifCond .ne 13, 3) := by decide +kernel
theorem dX0_add_24 : decode cX0_add 24 = .ok (.new 74, 3) := by decide +kernel
theorem dX0_add_27 : decode cX0_add 27 = .ok (.dup, 1) := by decide +kernel
theorem dX0_add_28 : decode cX0_add 28 = .ok (.ldc 76, 2) := by decide +kernel
theorem dX0_add_30 : decode cX0_add 30 = .ok (.invokespecial 78, 3) := by decide +kernel
theorem dX0_add_33 : decode cX0_add 33 = .ok (.athrow, 1) := by decide +kernel
theorem dX0_add_34 : decode cX0_add 34 = .ok (.iload 4, 2) := by decide +kernel
theorem dX0_add_36 : decode cX0_add 36 = .ok (.iconst 1, 1) := by decide +kernel
theorem dX0_add_37 : decode cX0_add 37 = .ok (.sipush 1000, 3) := by decide +kernel
theorem dX0_add_40 : decode cX0_add 40 = .ok (.invokestatic 81, 3) := by decide +kernel
theorem dX0_add_43 : decode cX0_add 43 = .ok (.ifCond .eq 26, 3) := by decide +kernel
theorem dX0_add_46 : decode cX0_add 46 = .ok (.iload 5, 2) := by decide +kernel
theorem dX0_add_48 : decode cX0_add 48 = .ok (.iconst 0, 1) := by decide +kernel
theorem dX0_add_49 : decode cX0_add 49 = .ok (.sipush 1000, 3) := by decide +kernel
theorem dX0_add_52 : decode cX0_add 52 = .ok (.invokestatic 81, 3) := by decide +kernel
theorem dX0_add_55 : decode cX0_add 55 = .ok (.ifCond .eq 14, 3) := by decide +kernel
theorem dX0_add_58 : decode cX0_add 58 = .ok (.iload 6, 2) := by decide +kernel
theorem dX0_add_60 : decode cX0_add 60 = .ok (.iconst 0, 1) := by decide +kernel
theorem dX0_add_61 : decode cX0_add 61 = .ok (.ldc 85, 2) := by decide +kernel
theorem dX0_add_63 : decode cX0_add 63 = .ok (.invokestatic 81, 3) := by decide +kernel
theorem dX0_add_66 : decode cX0_add 66 = .ok (.ifCond .ne 13, 3) := by decide +kernel
theorem dX0_add_69 : decode cX0_add 69 = .ok (.new 74, 3) := by decide +kernel
theorem dX0_add_72 : decode cX0_add 72 = .ok (.dup, 1) := by decide +kernel
theorem dX0_add_73 : decode cX0_add 73 = .ok (.ldc 86, 2) := by decide +kernel
theorem dX0_add_75 : decode cX0_add 75 = .ok (.invokespecial 78, 3) := by decide +kernel
theorem dX0_add_78 : decode cX0_add 78 = .ok (.athrow, 1) := by decide +kernel
theorem dX0_add_79 : decode cX0_add 79 = .ok (.aload_n 0, 1) := by decide +kernel
theorem dX0_add_80 : decode cX0_add 80 = .ok (.getfield 35, 3) := by decide +kernel
theorem dX0_add_83 : decode cX0_add 83 = .ok (.bipush 40, 2) := by decide +kernel
theorem dX0_add_85 : decode cX0_add 85 = .ok (.if_icmp .lt 13, 3) := by decide +kernel
theorem dX0_add_88 : decode cX0_add 88 = .ok (.new 88, 3) := by decide +kernel
theorem dX0_add_91 : decode cX0_add 91 = .ok (.dup, 1) := by decide +kernel
theorem dX0_add_92 : decode cX0_add 92 = .ok (.ldc 90, 2) := by decide +kernel
theorem dX0_add_94 : decode cX0_add 94 = .ok (.invokespecial 92, 3) := by decide +kernel
theorem dX0_add_97 : decode cX0_add 97 = .ok (.athrow, 1) := by decide +kernel
theorem dX0_add_98 : decode cX0_add 98 = .ok (.aload_n 0, 1) := by decide +kernel
theorem dX0_add_99 : decode cX0_add 99 = .ok (.getfield 35, 3) := by decide +kernel
theorem dX0_add_102 : decode cX0_add 102 = .ok (.istore 7, 2) := by decide +kernel
theorem dX0_add_104 : decode cX0_add 104 = .ok (.aload_n 0, 1) := by decide +kernel
theorem dX0_add_105 : decode cX0_add 105 = .ok (.getfield 14, 3) := by decide +kernel
theorem dX0_add_108 : decode cX0_add 108 = .ok (.iconst 0, 1) := by decide +kernel
theorem dX0_add_109 : decode cX0_add 109 = .ok (.aaload, 1) := by decide +kernel
theorem dX0_add_110 : decode cX0_add 110 = .ok (.iload 7, 2) := by decide +kernel
theorem dX0_add_112 : decode cX0_add 112 = .ok (.iload_n 1, 1) := by decide +kernel
theorem dX0_add_113 : decode cX0_add 113 = .ok (.iastore, 1) := by decide +kernel
theorem dX0_add_114 : decode cX0_add 114 = .ok (.aload_n 0, 1) := by decide +kernel
theorem dX0_add_115 : decode cX0_add 115 = .ok (.getfield 14, 3) := by decide +kernel
theorem dX0_add_118 : decode cX0_add 118 = .ok (.iconst 1, 1) := by decide +kernel
theorem dX0_add_119 : decode cX0_add 119 = .ok (.aaload, 1) := by decide +kernel
theorem dX0_add_120 : decode cX0_add 120 = .ok (.iload 7, 2) := by decide +kernel
theorem dX0_add_122 : decode cX0_add 122 = .ok (.iload_n 2, 1) := by decide +kernel
theorem dX0_add_123 : decode cX0_add 123 = .ok (.iastore, 1) := by decide +kernel
theorem dX0_add_124 : decode cX0_add 124 = .ok (.aload_n 0, 1) := by decide +kernel
theorem dX0_add_125 : decode cX0_add 125 = .ok (.getfield 14, 3) := by decide +kernel
theorem dX0_add_128 : decode cX0_add 128 = .ok (.iconst 2, 1) := by decide +kernel
theorem dX0_add_129 : decode cX0_add 129 = .ok (.aaload, 1) := by decide +kernel
theorem dX0_add_130 : decode cX0_add 130 = .ok (.iload 7, 2) := by decide +kernel
theorem dX0_add_132 : decode cX0_add 132 = .ok (.iload_n 3, 1) := by decide +kernel
theorem dX0_add_133 : decode cX0_add 133 = .ok (.iastore, 1) := by decide +kernel
theorem dX0_add_134 : decode cX0_add 134 = .ok (.aload_n 0, 1) := by decide +kernel
theorem dX0_add_135 : decode cX0_add 135 = .ok (.getfield 17, 3) := by decide +kernel
theorem dX0_add_138 : decode cX0_add 138 = .ok (.iload 7, 2) := by decide +kernel
theorem dX0_add_140 : decode cX0_add 140 = .ok (.iload 4, 2) := by decide +kernel
theorem dX0_add_142 : decode cX0_add 142 = .ok (.i2l, 1) := by decide +kernel
theorem dX0_add_143 : decode cX0_add 143 = .ok (.lastore, 1) := by decide +kernel
theorem dX0_add_144 : decode cX0_add 144 = .ok (.aload_n 0, 1) := by decide +kernel
theorem dX0_add_145 : decode cX0_add 145 = .ok (.getfield 21, 3) := by decide +kernel
theorem dX0_add_148 : decode cX0_add 148 = .ok (.iload 7, 2) := by decide +kernel
theorem dX0_add_150 : decode cX0_add 150 = .ok (.iload 5, 2) := by decide +kernel
theorem dX0_add_152 : decode cX0_add 152 = .ok (.i2l, 1) := by decide +kernel
theorem dX0_add_153 : decode cX0_add 153 = .ok (.lastore, 1) := by decide +kernel
theorem dX0_add_154 : decode cX0_add 154 = .ok (.aload_n 0, 1) := by decide +kernel
theorem dX0_add_155 : decode cX0_add 155 = .ok (.getfield 24, 3) := by decide +kernel
theorem dX0_add_158 : decode cX0_add 158 = .ok (.iload 7, 2) := by decide +kernel
theorem dX0_add_160 : decode cX0_add 160 = .ok (.iload 6, 2) := by decide +kernel
theorem dX0_add_162 : decode cX0_add 162 = .ok (.i2l, 1) := by decide +kernel
theorem dX0_add_163 : decode cX0_add 163 = .ok (.lastore, 1) := by decide +kernel
theorem dX0_add_164 : decode cX0_add 164 = .ok (.aload_n 0, 1) := by decide +kernel
theorem dX0_add_165 : decode cX0_add 165 = .ok (.getfield 27, 3) := by decide +kernel
theorem dX0_add_168 : decode cX0_add 168 = .ok (.iload 7, 2) := by decide +kernel
theorem dX0_add_170 : decode cX0_add 170 = .ok (.iconst (-1), 1) := by decide +kernel
theorem dX0_add_171 : decode cX0_add 171 = .ok (.iastore, 1) := by decide +kernel
theorem dX0_add_172 : decode cX0_add 172 = .ok (.aload_n 0, 1) := by decide +kernel
theorem dX0_add_173 : decode cX0_add 173 = .ok (.getfield 31, 3) := by decide +kernel
theorem dX0_add_176 : decode cX0_add 176 = .ok (.iload 7, 2) := by decide +kernel
theorem dX0_add_178 : decode cX0_add 178 = .ok (.iconst 1, 1) := by decide +kernel
theorem dX0_add_179 : decode cX0_add 179 = .ok (.bastore, 1) := by decide +kernel
theorem dX0_add_180 : decode cX0_add 180 = .ok (.aload_n 0, 1) := by decide +kernel
theorem dX0_add_181 : decode cX0_add 181 = .ok (.dup, 1) := by decide +kernel
theorem dX0_add_182 : decode cX0_add 182 = .ok (.getfield 35, 3) := by decide +kernel
theorem dX0_add_185 : decode cX0_add 185 = .ok (.iconst 1, 1) := by decide +kernel
theorem dX0_add_186 : decode cX0_add 186 = .ok (.iadd, 1) := by decide +kernel
theorem dX0_add_187 : decode cX0_add 187 = .ok (.putfield 35, 3) := by decide +kernel
theorem dX0_add_190 : decode cX0_add 190 = .ok (.aload_n 0, 1) := by decide +kernel
theorem dX0_add_191 : decode cX0_add 191 = .ok (.dup, 1) := by decide +kernel
theorem dX0_add_192 : decode cX0_add 192 = .ok (.getfield 39, 3) := by decide +kernel
theorem dX0_add_195 : decode cX0_add 195 = .ok (.iconst 1, 1) := by decide +kernel
theorem dX0_add_196 : decode cX0_add 196 = .ok (.iadd, 1) := by decide +kernel
theorem dX0_add_197 : decode cX0_add 197 = .ok (.putfield 39, 3) := by decide +kernel
theorem dX0_add_200 : decode cX0_add 200 = .ok (.aload_n 0, 1) := by decide +kernel
theorem dX0_add_201 : decode cX0_add 201 = .ok (.invokevirtual 93, 3) := by decide +kernel
theorem dX0_add_204 : decode cX0_add 204 = .ok (.iload 7, 2) := by decide +kernel
theorem dX0_add_206 : decode cX0_add 206 = .ok (.ireturn, 1) := by decide +kernel
theorem dX0_withdraw_0 : decode cX0_withdraw 0 = .ok (.aload_n 0, 1) := by decide +kernel
theorem dX0_withdraw_1 : decode cX0_withdraw 1 = .ok (.iload_n 1, 1) := by decide +kernel
theorem dX0_withdraw_2 : decode cX0_withdraw 2 = .ok (.invokevirtual 96, 3) := by decide +kernel
theorem dX0_withdraw_5 : decode cX0_withdraw 5 = .ok (.ifCond .ne 13, 3) := by decide +kernel
theorem dX0_withdraw_8 : decode cX0_withdraw 8 = .ok (.new 100, 3) := by decide +kernel
theorem dX0_withdraw_11 : decode cX0_withdraw 11 = .ok (.dup, 1) := by decide +kernel
theorem dX0_withdraw_12 : decode cX0_withdraw 12 = .ok (.ldc 102, 2) := by decide +kernel
theorem dX0_withdraw_14 : decode cX0_withdraw 14 = .ok (.invokespecial 104, 3) := by decide +kernel
theorem dX0_withdraw_17 : decode cX0_withdraw 17 = .ok (.athrow, 1) := by decide +kernel
theorem dX0_withdraw_18 : decode cX0_withdraw 18 = .ok (.aload_n 0, 1) := by decide +kernel
theorem dX0_withdraw_19 : decode cX0_withdraw 19 = .ok (.getfield 31, 3) := by decide +kernel
theorem dX0_withdraw_22 : decode cX0_withdraw 22 = .ok (.iload_n 1, 1) := by decide +kernel
theorem dX0_withdraw_23 : decode cX0_withdraw 23 = .ok (.iconst 0, 1) := by decide +kernel
theorem dX0_withdraw_24 : decode cX0_withdraw 24 = .ok (.bastore, 1) := by decide +kernel
theorem dX0_withdraw_25 : decode cX0_withdraw 25 = .ok (.aload_n 0, 1) := by decide +kernel
theorem dX0_withdraw_26 : decode cX0_withdraw 26 = .ok (.dup, 1) := by decide +kernel
theorem dX0_withdraw_27 : decode cX0_withdraw 27 = .ok (.getfield 39, 3) := by decide +kernel
theorem dX0_withdraw_30 : decode cX0_withdraw 30 = .ok (.iconst 1, 1) := by decide +kernel
theorem dX0_withdraw_31 : decode cX0_withdraw 31 = .ok (.isub, 1) := by decide +kernel
theorem dX0_withdraw_32 : decode cX0_withdraw 32 = .ok (.putfield 39, 3) := by decide +kernel
theorem dX0_withdraw_35 : decode cX0_withdraw 35 = .ok (.aload_n 0, 1) := by decide +kernel
theorem dX0_withdraw_36 : decode cX0_withdraw 36 = .ok (.invokevirtual 93, 3) := by decide +kernel
theorem dX0_withdraw_39 : decode cX0_withdraw 39 = .ok (.aload_n 0, 1) := by decide +kernel
theorem dX0_withdraw_40 : decode cX0_withdraw 40 = .ok (.getfield 39, 3) := by decide +kernel
theorem dX0_withdraw_43 : decode cX0_withdraw 43 = .ok (.ireturn, 1) := by decide +kernel
theorem dX0_setOld_0 : decode cX0_setOld 0 = .ok (.aload_n 0, 1) := by decide +kernel
theorem dX0_setOld_1 : decode cX0_setOld 1 = .ok (.iload_n 1, 1) := by decide +kernel
theorem dX0_setOld_2 : decode cX0_setOld 2 = .ok (.invokevirtual 96, 3) := by decide +kernel
theorem dX0_setOld_5 : decode cX0_setOld 5 = .ok (.ifCond .ne 13, 3) := by decide +kernel
theorem dX0_setOld_8 : decode cX0_setOld 8 = .ok (.new 100, 3) := by decide +kernel
theorem dX0_setOld_11 : decode cX0_setOld 11 = .ok (.dup, 1) := by decide +kernel
theorem dX0_setOld_12 : decode cX0_setOld 12 = .ok (.ldc 102, 2) := by decide +kernel
theorem dX0_setOld_14 : decode cX0_setOld 14 = .ok (.invokespecial 104, 3) := by decide +kernel
theorem dX0_setOld_17 : decode cX0_setOld 17 = .ok (.athrow, 1) := by decide +kernel
theorem dX0_setOld_18 : decode cX0_setOld 18 = .ok (.iload_n 2, 1) := by decide +kernel
theorem dX0_setOld_19 : decode cX0_setOld 19 = .ok (.iconst (-1), 1) := by decide +kernel
theorem dX0_setOld_20 : decode cX0_setOld 20 = .ok (.if_icmp .eq 23, 3) := by decide +kernel
theorem dX0_setOld_23 : decode cX0_setOld 23 = .ok (.iload_n 2, 1) := by decide +kernel
theorem dX0_setOld_24 : decode cX0_setOld 24 = .ok (.iconst 0, 1) := by decide +kernel
theorem dX0_setOld_25 : decode cX0_setOld 25 = .ok (.ldc 105, 2) := by decide +kernel
theorem dX0_setOld_27 : decode cX0_setOld 27 = .ok (.invokestatic 81, 3) := by decide +kernel
theorem dX0_setOld_30 : decode cX0_setOld 30 = .ok (.ifCond .ne 13, 3) := by decide +kernel
theorem dX0_setOld_33 : decode cX0_setOld 33 = .ok (.new 74, 3) := by decide +kernel
theorem dX0_setOld_36 : decode cX0_setOld 36 = .ok (.dup, 1) := by decide +kernel
theorem dX0_setOld_37 : decode cX0_setOld 37 = .ok (.ldc 106, 2) := by decide +kernel
theorem dX0_setOld_39 : decode cX0_setOld 39 = .ok (.invokespecial 78, 3) := by decide +kernel
theorem dX0_setOld_42 : decode cX0_setOld 42 = .ok (.athrow, 1) := by decide +kernel
theorem dX0_setOld_43 : decode cX0_setOld 43 = .ok (.aload_n 0, 1) := by decide +kernel
theorem dX0_setOld_44 : decode cX0_setOld 44 = .ok (.getfield 27, 3) := by decide +kernel
theorem dX0_setOld_47 : decode cX0_setOld 47 = .ok (.iload_n 1, 1) := by decide +kernel
theorem dX0_setOld_48 : decode cX0_setOld 48 = .ok (.iaload, 1) := by decide +kernel
theorem dX0_setOld_49 : decode cX0_setOld 49 = .ok (.istore_n 3, 1) := by decide +kernel
theorem dX0_setOld_50 : decode cX0_setOld 50 = .ok (.aload_n 0, 1) := by decide +kernel
theorem dX0_setOld_51 : decode cX0_setOld 51 = .ok (.getfield 27, 3) := by decide +kernel
theorem dX0_setOld_54 : decode cX0_setOld 54 = .ok (.iload_n 1, 1) := by decide +kernel
theorem dX0_setOld_55 : decode cX0_setOld 55 = .ok (.iload_n 2, 1) := by decide +kernel
theorem dX0_setOld_56 : decode cX0_setOld 56 = .ok (.iastore, 1) := by decide +kernel
theorem dX0_setOld_57 : decode cX0_setOld 57 = .ok (.iload_n 3, 1) := by decide +kernel
theorem dX0_setOld_58 : decode cX0_setOld 58 = .ok (.ireturn, 1) := by decide +kernel
theorem dX0_setRules_0 : decode cX0_setRules 0 = .ok (.iload_n 1, 1) := by decide +kernel
theorem dX0_setRules_1 : decode cX0_setRules 1 = .ok (.iconst 0, 1) := by decide +kernel
theorem dX0_setRules_2 : decode cX0_setRules 2 = .ok (.sipush 1000, 3) := by decide +kernel
theorem dX0_setRules_5 : decode cX0_setRules 5 = .ok (.invokestatic 81, 3) := by decide +kernel
theorem dX0_setRules_8 : decode cX0_setRules 8 = .ok (.ifCond .ne 13, 3) := by decide +kernel
theorem dX0_setRules_11 : decode cX0_setRules 11 = .ok (.new 74, 3) := by decide +kernel
theorem dX0_setRules_14 : decode cX0_setRules 14 = .ok (.dup, 1) := by decide +kernel
theorem dX0_setRules_15 : decode cX0_setRules 15 = .ok (.ldc 108, 2) := by decide +kernel
theorem dX0_setRules_17 : decode cX0_setRules 17 = .ok (.invokespecial 78, 3) := by decide +kernel
theorem dX0_setRules_20 : decode cX0_setRules 20 = .ok (.athrow, 1) := by decide +kernel
theorem dX0_setRules_21 : decode cX0_setRules 21 = .ok (.iload_n 2, 1) := by decide +kernel
theorem dX0_setRules_22 : decode cX0_setRules 22 = .ok (.iconst (-1), 1) := by decide +kernel
theorem dX0_setRules_23 : decode cX0_setRules 23 = .ok (.if_icmp .eq 24, 3) := by decide +kernel
theorem dX0_setRules_26 : decode cX0_setRules 26 = .ok (.iload_n 2, 1) := by decide +kernel
theorem dX0_setRules_27 : decode cX0_setRules 27 = .ok (.iconst 0, 1) := by decide +kernel
theorem dX0_setRules_28 : decode cX0_setRules 28 = .ok (.sipush 1000, 3) := by decide +kernel
theorem dX0_setRules_31 : decode cX0_setRules 31 = .ok (.invokestatic 81, 3) := by decide +kernel
theorem dX0_setRules_34 : decode cX0_setRules 34 = .ok (.ifCond .ne 13, 3) := by decide +kernel
theorem dX0_setRules_37 : decode cX0_setRules 37 = .ok (.new 74, 3) := by decide +kernel
theorem dX0_setRules_40 : decode cX0_setRules 40 = .ok (.dup, 1) := by decide +kernel
theorem dX0_setRules_41 : decode cX0_setRules 41 = .ok (.ldc 110, 2) := by decide +kernel
theorem dX0_setRules_43 : decode cX0_setRules 43 = .ok (.invokespecial 78, 3) := by decide +kernel
theorem dX0_setRules_46 : decode cX0_setRules 46 = .ok (.athrow, 1) := by decide +kernel
theorem dX0_setRules_47 : decode cX0_setRules 47 = .ok (.aload_n 0, 1) := by decide +kernel
theorem dX0_setRules_48 : decode cX0_setRules 48 = .ok (.getfield 42, 3) := by decide +kernel
theorem dX0_setRules_51 : decode cX0_setRules 51 = .ok (.istore_n 3, 1) := by decide +kernel
theorem dX0_setRules_52 : decode cX0_setRules 52 = .ok (.aload_n 0, 1) := by decide +kernel
theorem dX0_setRules_53 : decode cX0_setRules 53 = .ok (.iload_n 1, 1) := by decide +kernel
theorem dX0_setRules_54 : decode cX0_setRules 54 = .ok (.putfield 42, 3) := by decide +kernel
theorem dX0_setRules_57 : decode cX0_setRules 57 = .ok (.aload_n 0, 1) := by decide +kernel
theorem dX0_setRules_58 : decode cX0_setRules 58 = .ok (.iload_n 2, 1) := by decide +kernel
theorem dX0_setRules_59 : decode cX0_setRules 59 = .ok (.putfield 45, 3) := by decide +kernel
theorem dX0_setRules_62 : decode cX0_setRules 62 = .ok (.iload_n 3, 1) := by decide +kernel
theorem dX0_setRules_63 : decode cX0_setRules 63 = .ok (.ireturn, 1) := by decide +kernel
theorem dX0_setFactor_0 : decode cX0_setFactor 0 = .ok (.iload_n 1, 1) := by decide +kernel
theorem dX0_setFactor_1 : decode cX0_setFactor 1 = .ok (.iload_n 2, 1) := by decide +kernel
theorem dX0_setFactor_2 : decode cX0_setFactor 2 = .ok (.invokestatic 70, 3) := by decide +kernel
theorem dX0_setFactor_5 : decode cX0_setFactor 5 = .ok (.ifCond .ne 13, 3) := by decide +kernel
theorem dX0_setFactor_8 : decode cX0_setFactor 8 = .ok (.new 100, 3) := by decide +kernel
theorem dX0_setFactor_11 : decode cX0_setFactor 11 = .ok (.dup, 1) := by decide +kernel
theorem dX0_setFactor_12 : decode cX0_setFactor 12 = .ok (.ldc 112, 2) := by decide +kernel
theorem dX0_setFactor_14 : decode cX0_setFactor 14 = .ok (.invokespecial 104, 3) := by decide +kernel
theorem dX0_setFactor_17 : decode cX0_setFactor 17 = .ok (.athrow, 1) := by decide +kernel
theorem dX0_setFactor_18 : decode cX0_setFactor 18 = .ok (.iload_n 3, 1) := by decide +kernel
theorem dX0_setFactor_19 : decode cX0_setFactor 19 = .ok (.bipush 100, 2) := by decide +kernel
theorem dX0_setFactor_21 : decode cX0_setFactor 21 = .ok (.ldc 114, 2) := by decide +kernel
theorem dX0_setFactor_23 : decode cX0_setFactor 23 = .ok (.invokestatic 81, 3) := by decide +kernel
theorem dX0_setFactor_26 : decode cX0_setFactor 26 = .ok (.ifCond .ne 13, 3) := by decide +kernel
theorem dX0_setFactor_29 : decode cX0_setFactor 29 = .ok (.new 74, 3) := by decide +kernel
theorem dX0_setFactor_32 : decode cX0_setFactor 32 = .ok (.dup, 1) := by decide +kernel
theorem dX0_setFactor_33 : decode cX0_setFactor 33 = .ok (.ldc 115, 2) := by decide +kernel
theorem dX0_setFactor_35 : decode cX0_setFactor 35 = .ok (.invokespecial 78, 3) := by decide +kernel
theorem dX0_setFactor_38 : decode cX0_setFactor 38 = .ok (.athrow, 1) := by decide +kernel
theorem dX0_setFactor_39 : decode cX0_setFactor 39 = .ok (.aload_n 0, 1) := by decide +kernel
theorem dX0_setFactor_40 : decode cX0_setFactor 40 = .ok (.getfield 11, 3) := by decide +kernel
theorem dX0_setFactor_43 : decode cX0_setFactor 43 = .ok (.iload_n 1, 1) := by decide +kernel
theorem dX0_setFactor_44 : decode cX0_setFactor 44 = .ok (.aaload, 1) := by decide +kernel
theorem dX0_setFactor_45 : decode cX0_setFactor 45 = .ok (.iload_n 2, 1) := by decide +kernel
theorem dX0_setFactor_46 : decode cX0_setFactor 46 = .ok (.iaload, 1) := by decide +kernel
theorem dX0_setFactor_47 : decode cX0_setFactor 47 = .ok (.istore 4, 2) := by decide +kernel
theorem dX0_setFactor_49 : decode cX0_setFactor 49 = .ok (.aload_n 0, 1) := by decide +kernel
theorem dX0_setFactor_50 : decode cX0_setFactor 50 = .ok (.getfield 11, 3) := by decide +kernel
theorem dX0_setFactor_53 : decode cX0_setFactor 53 = .ok (.iload_n 1, 1) := by decide +kernel
theorem dX0_setFactor_54 : decode cX0_setFactor 54 = .ok (.aaload, 1) := by decide +kernel
theorem dX0_setFactor_55 : decode cX0_setFactor 55 = .ok (.iload_n 2, 1) := by decide +kernel
theorem dX0_setFactor_56 : decode cX0_setFactor 56 = .ok (.iload_n 3, 1) := by decide +kernel
theorem dX0_setFactor_57 : decode cX0_setFactor 57 = .ok (.iastore, 1) := by decide +kernel
theorem dX0_setFactor_58 : decode cX0_setFactor 58 = .ok (.aload_n 0, 1) := by decide +kernel
theorem dX0_setFactor_59 : decode cX0_setFactor 59 = .ok (.invokevirtual 93, 3) := by decide +kernel
theorem dX0_setFactor_62 : decode cX0_setFactor 62 = .ok (.iload 4, 2) := by decide +kernel
theorem dX0_setFactor_64 : decode cX0_setFactor 64 = .ok (.ireturn, 1) := by decide +kernel
theorem dX0_pass_0 : decode cX0_pass 0 = .ok (.iload_n 1, 1) := by decide +kernel
theorem dX0_pass_1 : decode cX0_pass 1 = .ok (.invokestatic 117, 3) := by decide +kernel
theorem dX0_pass_4 : decode cX0_pass 4 = .ok (.ifCond .ne 13, 3) := by decide +kernel
theorem dX0_pass_7 : decode cX0_pass 7 = .ok (.new 100, 3) := by decide +kernel
theorem dX0_pass_10 : decode cX0_pass 10 = .ok (.dup, 1) := by decide +kernel
theorem dX0_pass_11 : decode cX0_pass 11 = .ok (.ldc 120, 2) := by decide +kernel
theorem dX0_pass_13 : decode cX0_pass 13 = .ok (.invokespecial 104, 3) := by decide +kernel
theorem dX0_pass_16 : decode cX0_pass 16 = .ok (.athrow, 1) := by decide +kernel
theorem dX0_pass_17 : decode cX0_pass 17 = .ok (.aload_n 0, 1) := by decide +kernel
theorem dX0_pass_18 : decode cX0_pass 18 = .ok (.iload_n 1, 1) := by decide +kernel
theorem dX0_pass_19 : decode cX0_pass 19 = .ok (.invokevirtual 122, 3) := by decide +kernel
theorem dX0_pass_22 : decode cX0_pass 22 = .ok (.ireturn, 1) := by decide +kernel
theorem dX0_settle_0 : decode cX0_settle 0 = .ok (.iconst 1, 1) := by decide +kernel
theorem dX0_settle_1 : decode cX0_settle 1 = .ok (.istore_n 1, 1) := by decide +kernel
theorem dX0_settle_2 : decode cX0_settle 2 = .ok (.iload_n 1, 1) := by decide +kernel
theorem dX0_settle_3 : decode cX0_settle 3 = .ok (.bipush 60, 2) := by decide +kernel
theorem dX0_settle_5 : decode cX0_settle 5 = .ok (.if_icmp .gt 18, 3) := by decide +kernel
theorem dX0_settle_8 : decode cX0_settle 8 = .ok (.aload_n 0, 1) := by decide +kernel
theorem dX0_settle_9 : decode cX0_settle 9 = .ok (.invokevirtual 126, 3) := by decide +kernel
theorem dX0_settle_12 : decode cX0_settle 12 = .ok (.ifCond .ne 5, 3) := by decide +kernel
theorem dX0_settle_15 : decode cX0_settle 15 = .ok (.iload_n 1, 1) := by decide +kernel
theorem dX0_settle_16 : decode cX0_settle 16 = .ok (.ireturn, 1) := by decide +kernel
theorem dX0_settle_17 : decode cX0_settle 17 = .ok (.iinc 1 1, 3) := by decide +kernel
theorem dX0_settle_20 : decode cX0_settle 20 = .ok (.goto (-18), 3) := by decide +kernel
theorem dX0_settle_23 : decode cX0_settle 23 = .ok (.bipush 60, 2) := by decide +kernel
theorem dX0_settle_25 : decode cX0_settle 25 = .ok (.ireturn, 1) := by decide +kernel
theorem dX0_smooth_0 : decode cX0_smooth 0 = .ok (.iload_n 1, 1) := by decide +kernel
theorem dX0_smooth_1 : decode cX0_smooth 1 = .ok (.invokestatic 117, 3) := by decide +kernel
theorem dX0_smooth_4 : decode cX0_smooth 4 = .ok (.ifCond .ne 13, 3) := by decide +kernel
theorem dX0_smooth_7 : decode cX0_smooth 7 = .ok (.new 100, 3) := by decide +kernel
theorem dX0_smooth_10 : decode cX0_smooth 10 = .ok (.dup, 1) := by decide +kernel
theorem dX0_smooth_11 : decode cX0_smooth 11 = .ok (.ldc 120, 2) := by decide +kernel
theorem dX0_smooth_13 : decode cX0_smooth 13 = .ok (.invokespecial 104, 3) := by decide +kernel
theorem dX0_smooth_16 : decode cX0_smooth 16 = .ok (.athrow, 1) := by decide +kernel
theorem dX0_smooth_17 : decode cX0_smooth 17 = .ok (.iconst 0, 1) := by decide +kernel
theorem dX0_smooth_18 : decode cX0_smooth 18 = .ok (.istore_n 2, 1) := by decide +kernel
theorem dX0_smooth_19 : decode cX0_smooth 19 = .ok (.iload_n 2, 1) := by decide +kernel
theorem dX0_smooth_20 : decode cX0_smooth 20 = .ok (.getstatic 130, 3) := by decide +kernel
theorem dX0_smooth_23 : decode cX0_smooth 23 = .ok (.iload_n 1, 1) := by decide +kernel
theorem dX0_smooth_24 : decode cX0_smooth 24 = .ok (.iaload, 1) := by decide +kernel
theorem dX0_smooth_25 : decode cX0_smooth 25 = .ok (.if_icmp .ge 30, 3) := by decide +kernel
theorem dX0_smooth_28 : decode cX0_smooth 28 = .ok (.aload_n 0, 1) := by decide +kernel
theorem dX0_smooth_29 : decode cX0_smooth 29 = .ok (.getfield 61, 3) := by decide +kernel
theorem dX0_smooth_32 : decode cX0_smooth 32 = .ok (.iload_n 2, 1) := by decide +kernel
theorem dX0_smooth_33 : decode cX0_smooth 33 = .ok (.aload_n 0, 1) := by decide +kernel
theorem dX0_smooth_34 : decode cX0_smooth 34 = .ok (.getfield 11, 3) := by decide +kernel
theorem dX0_smooth_37 : decode cX0_smooth 37 = .ok (.iload_n 1, 1) := by decide +kernel
theorem dX0_smooth_38 : decode cX0_smooth 38 = .ok (.aaload, 1) := by decide +kernel
theorem dX0_smooth_39 : decode cX0_smooth 39 = .ok (.iload_n 2, 1) := by decide +kernel
theorem dX0_smooth_40 : decode cX0_smooth 40 = .ok (.iaload, 1) := by decide +kernel
theorem dX0_smooth_41 : decode cX0_smooth 41 = .ok (.iastore, 1) := by decide +kernel
theorem dX0_smooth_42 : decode cX0_smooth 42 = .ok (.aload_n 0, 1) := by decide +kernel
theorem dX0_smooth_43 : decode cX0_smooth 43 = .ok (.getfield 58, 3) := by decide +kernel
theorem dX0_smooth_46 : decode cX0_smooth 46 = .ok (.iload_n 2, 1) := by decide +kernel
theorem dX0_smooth_47 : decode cX0_smooth 47 = .ok (.iload_n 2, 1) := by decide +kernel
theorem dX0_smooth_48 : decode cX0_smooth 48 = .ok (.iastore, 1) := by decide +kernel
theorem dX0_smooth_49 : decode cX0_smooth 49 = .ok (.iinc 2 1, 3) := by decide +kernel
theorem dX0_smooth_52 : decode cX0_smooth 52 = .ok (.goto (-33), 3) := by decide +kernel
theorem dX0_smooth_55 : decode cX0_smooth 55 = .ok (.iconst 0, 1) := by decide +kernel
theorem dX0_smooth_56 : decode cX0_smooth 56 = .ok (.istore_n 2, 1) := by decide +kernel
theorem dX0_smooth_57 : decode cX0_smooth 57 = .ok (.iload_n 2, 1) := by decide +kernel
theorem dX0_smooth_58 : decode cX0_smooth 58 = .ok (.getstatic 130, 3) := by decide +kernel
theorem dX0_smooth_61 : decode cX0_smooth 61 = .ok (.iload_n 1, 1) := by decide +kernel
theorem dX0_smooth_62 : decode cX0_smooth 62 = .ok (.iaload, 1) := by decide +kernel
theorem dX0_smooth_63 : decode cX0_smooth 63 = .ok (.if_icmp .ge 29, 3) := by decide +kernel
theorem dX0_smooth_66 : decode cX0_smooth 66 = .ok (.aload_n 0, 1) := by decide +kernel
theorem dX0_smooth_67 : decode cX0_smooth 67 = .ok (.iload_n 1, 1) := by decide +kernel
theorem dX0_smooth_68 : decode cX0_smooth 68 = .ok (.invokevirtual 133, 3) := by decide +kernel
theorem dX0_smooth_71 : decode cX0_smooth 71 = .ok (.istore_n 3, 1) := by decide +kernel
theorem dX0_smooth_72 : decode cX0_smooth 72 = .ok (.iload_n 3, 1) := by decide +kernel
theorem dX0_smooth_73 : decode cX0_smooth 73 = .ok (.iconst (-1), 1) := by decide +kernel
theorem dX0_smooth_74 : decode cX0_smooth 74 = .ok (.if_icmp .ne 6, 3) := by decide +kernel
theorem dX0_smooth_77 : decode cX0_smooth 77 = .ok (.goto 15, 3) := by decide +kernel
theorem dX0_smooth_80 : decode cX0_smooth 80 = .ok (.aload_n 0, 1) := by decide +kernel
theorem dX0_smooth_81 : decode cX0_smooth 81 = .ok (.iload_n 1, 1) := by decide +kernel
theorem dX0_smooth_82 : decode cX0_smooth 82 = .ok (.iload_n 3, 1) := by decide +kernel
theorem dX0_smooth_83 : decode cX0_smooth 83 = .ok (.invokevirtual 136, 3) := by decide +kernel
theorem dX0_smooth_86 : decode cX0_smooth 86 = .ok (.iinc 2 1, 3) := by decide +kernel
theorem dX0_smooth_89 : decode cX0_smooth 89 = .ok (.goto (-32), 3) := by decide +kernel
theorem dX0_smooth_92 : decode cX0_smooth 92 = .ok (.aload_n 0, 1) := by decide +kernel
theorem dX0_smooth_93 : decode cX0_smooth 93 = .ok (.invokevirtual 93, 3) := by decide +kernel
theorem dX0_smooth_96 : decode cX0_smooth 96 = .ok (.aload_n 0, 1) := by decide +kernel
theorem dX0_smooth_97 : decode cX0_smooth 97 = .ok (.iload_n 1, 1) := by decide +kernel
theorem dX0_smooth_98 : decode cX0_smooth 98 = .ok (.invokevirtual 140, 3) := by decide +kernel
theorem dX0_smooth_101 : decode cX0_smooth 101 = .ok (.ireturn, 1) := by decide +kernel
theorem dX0_spread_0 : decode cX0_spread 0 = .ok (.aload_n 0, 1) := by decide +kernel
theorem dX0_spread_1 : decode cX0_spread 1 = .ok (.invokevirtual 143, 3) := by decide +kernel
theorem dX0_spread_4 : decode cX0_spread 4 = .ok (.lstore_n 1, 1) := by decide +kernel
theorem dX0_spread_5 : decode cX0_spread 5 = .ok (.lload_n 1, 1) := by decide +kernel
theorem dX0_spread_6 : decode cX0_spread 6 = .ok (.lconst 0, 1) := by decide +kernel
theorem dX0_spread_7 : decode cX0_spread 7 = .ok (.lcmp, 1) := by decide +kernel
theorem dX0_spread_8 : decode cX0_spread 8 = .ok (.ifCond .le 47, 3) := by decide +kernel
theorem dX0_spread_11 : decode cX0_spread 11 = .ok (.ldc2_w 147, 3) := by decide +kernel
theorem dX0_spread_14 : decode cX0_spread 14 = .ok (.aload_n 0, 1) := by decide +kernel
theorem dX0_spread_15 : decode cX0_spread 15 = .ok (.aload_n 0, 1) := by decide +kernel
theorem dX0_spread_16 : decode cX0_spread 16 = .ok (.getfield 55, 3) := by decide +kernel
theorem dX0_spread_19 : decode cX0_spread 19 = .ok (.invokevirtual 149, 3) := by decide +kernel
theorem dX0_spread_22 : decode cX0_spread 22 = .ok (.lmul, 1) := by decide +kernel
theorem dX0_spread_23 : decode cX0_spread 23 = .ok (.lload_n 1, 1) := by decide +kernel
theorem dX0_spread_24 : decode cX0_spread 24 = .ok (.ldiv, 1) := by decide +kernel
theorem dX0_spread_25 : decode cX0_spread 25 = .ok (.ldc2_w 153, 3) := by decide +kernel
theorem dX0_spread_28 : decode cX0_spread 28 = .ok (.invokestatic 155, 3) := by decide +kernel
theorem dX0_spread_31 : decode cX0_spread 31 = .ok (.lstore_n 3, 1) := by decide +kernel
theorem dX0_spread_32 : decode cX0_spread 32 = .ok (.aload_n 0, 1) := by decide +kernel
theorem dX0_spread_33 : decode cX0_spread 33 = .ok (.aload_n 0, 1) := by decide +kernel
theorem dX0_spread_34 : decode cX0_spread 34 = .ok (.getfield 48, 3) := by decide +kernel
theorem dX0_spread_37 : decode cX0_spread 37 = .ok (.i2l, 1) := by decide +kernel
theorem dX0_spread_38 : decode cX0_spread 38 = .ok (.lload_n 3, 1) := by decide +kernel
theorem dX0_spread_39 : decode cX0_spread 39 = .ok (.lmul, 1) := by decide +kernel
theorem dX0_spread_40 : decode cX0_spread 40 = .ok (.ldc2_w 147, 3) := by decide +kernel
theorem dX0_spread_43 : decode cX0_spread 43 = .ok (.ldiv, 1) := by decide +kernel
theorem dX0_spread_44 : decode cX0_spread 44 = .ok (.lconst 1, 1) := by decide +kernel
theorem dX0_spread_45 : decode cX0_spread 45 = .ok (.ldc2_w 153, 3) := by decide +kernel
theorem dX0_spread_48 : decode cX0_spread 48 = .ok (.invokestatic 161, 3) := by decide +kernel
theorem dX0_spread_51 : decode cX0_spread 51 = .ok (.l2i, 1) := by decide +kernel
theorem dX0_spread_52 : decode cX0_spread 52 = .ok (.putfield 48, 3) := by decide +kernel
theorem dX0_spread_55 : decode cX0_spread 55 = .ok (.aload_n 0, 1) := by decide +kernel
theorem dX0_spread_56 : decode cX0_spread 56 = .ok (.getfield 48, 3) := by decide +kernel
theorem dX0_spread_59 : decode cX0_spread 59 = .ok (.ireturn, 1) := by decide +kernel
theorem dX0_rows_0 : decode cX0_rows 0 = .ok (.aload_n 0, 1) := by decide +kernel
theorem dX0_rows_1 : decode cX0_rows 1 = .ok (.getfield 39, 3) := by decide +kernel
theorem dX0_rows_4 : decode cX0_rows 4 = .ok (.ireturn, 1) := by decide +kernel
theorem dX0_base_0 : decode cX0_base 0 = .ok (.aload_n 0, 1) := by decide +kernel
theorem dX0_base_1 : decode cX0_base 1 = .ok (.getfield 51, 3) := by decide +kernel
theorem dX0_base_4 : decode cX0_base 4 = .ok (.lreturn, 1) := by decide +kernel
theorem dX0_factor_0 : decode cX0_factor 0 = .ok (.iload_n 1, 1) := by decide +kernel
theorem dX0_factor_1 : decode cX0_factor 1 = .ok (.iload_n 2, 1) := by decide +kernel
theorem dX0_factor_2 : decode cX0_factor 2 = .ok (.invokestatic 70, 3) := by decide +kernel
theorem dX0_factor_5 : decode cX0_factor 5 = .ok (.ifCond .ne 13, 3) := by decide +kernel
theorem dX0_factor_8 : decode cX0_factor 8 = .ok (.new 100, 3) := by decide +kernel
theorem dX0_factor_11 : decode cX0_factor 11 = .ok (.dup, 1) := by decide +kernel
theorem dX0_factor_12 : decode cX0_factor 12 = .ok (.ldc 112, 2) := by decide +kernel
theorem dX0_factor_14 : decode cX0_factor 14 = .ok (.invokespecial 104, 3) := by decide +kernel
theorem dX0_factor_17 : decode cX0_factor 17 = .ok (.athrow, 1) := by decide +kernel
theorem dX0_factor_18 : decode cX0_factor 18 = .ok (.aload_n 0, 1) := by decide +kernel
theorem dX0_factor_19 : decode cX0_factor 19 = .ok (.getfield 11, 3) := by decide +kernel
theorem dX0_factor_22 : decode cX0_factor 22 = .ok (.iload_n 1, 1) := by decide +kernel
theorem dX0_factor_23 : decode cX0_factor 23 = .ok (.aaload, 1) := by decide +kernel
theorem dX0_factor_24 : decode cX0_factor 24 = .ok (.iload_n 2, 1) := by decide +kernel
theorem dX0_factor_25 : decode cX0_factor 25 = .ok (.iaload, 1) := by decide +kernel
theorem dX0_factor_26 : decode cX0_factor 26 = .ok (.ireturn, 1) := by decide +kernel
theorem dX0_fitted_0 : decode cX0_fitted 0 = .ok (.aload_n 0, 1) := by decide +kernel
theorem dX0_fitted_1 : decode cX0_fitted 1 = .ok (.iload_n 1, 1) := by decide +kernel
theorem dX0_fitted_2 : decode cX0_fitted 2 = .ok (.invokevirtual 96, 3) := by decide +kernel
theorem dX0_fitted_5 : decode cX0_fitted 5 = .ok (.ifCond .ne 13, 3) := by decide +kernel
theorem dX0_fitted_8 : decode cX0_fitted 8 = .ok (.new 100, 3) := by decide +kernel
theorem dX0_fitted_11 : decode cX0_fitted 11 = .ok (.dup, 1) := by decide +kernel
theorem dX0_fitted_12 : decode cX0_fitted 12 = .ok (.ldc 102, 2) := by decide +kernel
theorem dX0_fitted_14 : decode cX0_fitted 14 = .ok (.invokespecial 104, 3) := by decide +kernel
theorem dX0_fitted_17 : decode cX0_fitted 17 = .ok (.athrow, 1) := by decide +kernel
theorem dX0_fitted_18 : decode cX0_fitted 18 = .ok (.aload_n 0, 1) := by decide +kernel
theorem dX0_fitted_19 : decode cX0_fitted 19 = .ok (.getfield 55, 3) := by decide +kernel
theorem dX0_fitted_22 : decode cX0_fitted 22 = .ok (.iload_n 1, 1) := by decide +kernel
theorem dX0_fitted_23 : decode cX0_fitted 23 = .ok (.laload, 1) := by decide +kernel
theorem dX0_fitted_24 : decode cX0_fitted 24 = .ok (.lreturn, 1) := by decide +kernel
theorem dX0_toldSum_0 : decode cX0_toldSum 0 = .ok (.iload_n 1, 1) := by decide +kernel
theorem dX0_toldSum_1 : decode cX0_toldSum 1 = .ok (.iload_n 2, 1) := by decide +kernel
theorem dX0_toldSum_2 : decode cX0_toldSum 2 = .ok (.invokestatic 70, 3) := by decide +kernel
theorem dX0_toldSum_5 : decode cX0_toldSum 5 = .ok (.ifCond .ne 13, 3) := by decide +kernel
theorem dX0_toldSum_8 : decode cX0_toldSum 8 = .ok (.new 100, 3) := by decide +kernel
theorem dX0_toldSum_11 : decode cX0_toldSum 11 = .ok (.dup, 1) := by decide +kernel
theorem dX0_toldSum_12 : decode cX0_toldSum 12 = .ok (.ldc 112, 2) := by decide +kernel
theorem dX0_toldSum_14 : decode cX0_toldSum 14 = .ok (.invokespecial 104, 3) := by decide +kernel
theorem dX0_toldSum_17 : decode cX0_toldSum 17 = .ok (.athrow, 1) := by decide +kernel
theorem dX0_toldSum_18 : decode cX0_toldSum 18 = .ok (.aload_n 0, 1) := by decide +kernel
theorem dX0_toldSum_19 : decode cX0_toldSum 19 = .ok (.aload_n 0, 1) := by decide +kernel
theorem dX0_toldSum_20 : decode cX0_toldSum 20 = .ok (.getfield 24, 3) := by decide +kernel
theorem dX0_toldSum_23 : decode cX0_toldSum 23 = .ok (.iload_n 1, 1) := by decide +kernel
theorem dX0_toldSum_24 : decode cX0_toldSum 24 = .ok (.iload_n 2, 1) := by decide +kernel
theorem dX0_toldSum_25 : decode cX0_toldSum 25 = .ok (.invokevirtual 165, 3) := by decide +kernel
theorem dX0_toldSum_28 : decode cX0_toldSum 28 = .ok (.lreturn, 1) := by decide +kernel
theorem dX0_fittedSum_0 : decode cX0_fittedSum 0 = .ok (.iload_n 1, 1) := by decide +kernel
theorem dX0_fittedSum_1 : decode cX0_fittedSum 1 = .ok (.iload_n 2, 1) := by decide +kernel
theorem dX0_fittedSum_2 : decode cX0_fittedSum 2 = .ok (.invokestatic 70, 3) := by decide +kernel
theorem dX0_fittedSum_5 : decode cX0_fittedSum 5 = .ok (.ifCond .ne 13, 3) := by decide +kernel
theorem dX0_fittedSum_8 : decode cX0_fittedSum 8 = .ok (.new 100, 3) := by decide +kernel
theorem dX0_fittedSum_11 : decode cX0_fittedSum 11 = .ok (.dup, 1) := by decide +kernel
theorem dX0_fittedSum_12 : decode cX0_fittedSum 12 = .ok (.ldc 112, 2) := by decide +kernel
theorem dX0_fittedSum_14 : decode cX0_fittedSum 14 = .ok (.invokespecial 104, 3) := by decide +kernel
theorem dX0_fittedSum_17 : decode cX0_fittedSum 17 = .ok (.athrow, 1) := by decide +kernel
theorem dX0_fittedSum_18 : decode cX0_fittedSum 18 = .ok (.aload_n 0, 1) := by decide +kernel
theorem dX0_fittedSum_19 : decode cX0_fittedSum 19 = .ok (.aload_n 0, 1) := by decide +kernel
theorem dX0_fittedSum_20 : decode cX0_fittedSum 20 = .ok (.getfield 55, 3) := by decide +kernel
theorem dX0_fittedSum_23 : decode cX0_fittedSum 23 = .ok (.iload_n 1, 1) := by decide +kernel
theorem dX0_fittedSum_24 : decode cX0_fittedSum 24 = .ok (.iload_n 2, 1) := by decide +kernel
theorem dX0_fittedSum_25 : decode cX0_fittedSum 25 = .ok (.invokevirtual 165, 3) := by decide +kernel
theorem dX0_fittedSum_28 : decode cX0_fittedSum 28 = .ok (.lreturn, 1) := by decide +kernel
theorem dX0_worst_0 : decode cX0_worst 0 = .ok (.iload_n 1, 1) := by decide +kernel
theorem dX0_worst_1 : decode cX0_worst 1 = .ok (.invokestatic 117, 3) := by decide +kernel
theorem dX0_worst_4 : decode cX0_worst 4 = .ok (.ifCond .ne 13, 3) := by decide +kernel
theorem dX0_worst_7 : decode cX0_worst 7 = .ok (.new 100, 3) := by decide +kernel
theorem dX0_worst_10 : decode cX0_worst 10 = .ok (.dup, 1) := by decide +kernel
theorem dX0_worst_11 : decode cX0_worst 11 = .ok (.ldc 120, 2) := by decide +kernel
theorem dX0_worst_13 : decode cX0_worst 13 = .ok (.invokespecial 104, 3) := by decide +kernel
theorem dX0_worst_16 : decode cX0_worst 16 = .ok (.athrow, 1) := by decide +kernel
theorem dX0_worst_17 : decode cX0_worst 17 = .ok (.lconst 0, 1) := by decide +kernel
theorem dX0_worst_18 : decode cX0_worst 18 = .ok (.lstore_n 2, 1) := by decide +kernel
theorem dX0_worst_19 : decode cX0_worst 19 = .ok (.iconst 0, 1) := by decide +kernel
theorem dX0_worst_20 : decode cX0_worst 20 = .ok (.istore 4, 2) := by decide +kernel
theorem dX0_worst_22 : decode cX0_worst 22 = .ok (.iload 4, 2) := by decide +kernel
theorem dX0_worst_24 : decode cX0_worst 24 = .ok (.getstatic 130, 3) := by decide +kernel
theorem dX0_worst_27 : decode cX0_worst 27 = .ok (.iload_n 1, 1) := by decide +kernel
theorem dX0_worst_28 : decode cX0_worst 28 = .ok (.iaload, 1) := by decide +kernel
theorem dX0_worst_29 : decode cX0_worst 29 = .ok (.if_icmp .ge 44, 3) := by decide +kernel
theorem dX0_worst_32 : decode cX0_worst 32 = .ok (.aload_n 0, 1) := by decide +kernel
theorem dX0_worst_33 : decode cX0_worst 33 = .ok (.aload_n 0, 1) := by decide +kernel
theorem dX0_worst_34 : decode cX0_worst 34 = .ok (.getfield 24, 3) := by decide +kernel
theorem dX0_worst_37 : decode cX0_worst 37 = .ok (.iload_n 1, 1) := by decide +kernel
theorem dX0_worst_38 : decode cX0_worst 38 = .ok (.iload 4, 2) := by decide +kernel
theorem dX0_worst_40 : decode cX0_worst 40 = .ok (.invokevirtual 165, 3) := by decide +kernel
theorem dX0_worst_43 : decode cX0_worst 43 = .ok (.aload_n 0, 1) := by decide +kernel
theorem dX0_worst_44 : decode cX0_worst 44 = .ok (.aload_n 0, 1) := by decide +kernel
theorem dX0_worst_45 : decode cX0_worst 45 = .ok (.getfield 55, 3) := by decide +kernel
theorem dX0_worst_48 : decode cX0_worst 48 = .ok (.iload_n 1, 1) := by decide +kernel
theorem dX0_worst_49 : decode cX0_worst 49 = .ok (.iload 4, 2) := by decide +kernel
theorem dX0_worst_51 : decode cX0_worst 51 = .ok (.invokevirtual 165, 3) := by decide +kernel
theorem dX0_worst_54 : decode cX0_worst 54 = .ok (.lsub, 1) := by decide +kernel
theorem dX0_worst_55 : decode cX0_worst 55 = .ok (.lstore 5, 2) := by decide +kernel
theorem dX0_worst_57 : decode cX0_worst 57 = .ok (.lload_n 2, 1) := by decide +kernel
theorem dX0_worst_58 : decode cX0_worst 58 = .ok (.lload 5, 2) := by decide +kernel
theorem dX0_worst_60 : decode cX0_worst 60 = .ok (.invokestatic 169, 3) := by decide +kernel
theorem dX0_worst_63 : decode cX0_worst 63 = .ok (.invokestatic 173, 3) := by decide +kernel
theorem dX0_worst_66 : decode cX0_worst 66 = .ok (.lstore_n 2, 1) := by decide +kernel
theorem dX0_worst_67 : decode cX0_worst 67 = .ok (.iinc 4 1, 3) := by decide +kernel
theorem dX0_worst_70 : decode cX0_worst 70 = .ok (.goto (-48), 3) := by decide +kernel
theorem dX0_worst_73 : decode cX0_worst 73 = .ok (.lload_n 2, 1) := by decide +kernel
theorem dX0_worst_74 : decode cX0_worst 74 = .ok (.lreturn, 1) := by decide +kernel
theorem dX0_premium_0 : decode cX0_premium 0 = .ok (.aload_n 0, 1) := by decide +kernel
theorem dX0_premium_1 : decode cX0_premium 1 = .ok (.iload_n 1, 1) := by decide +kernel
theorem dX0_premium_2 : decode cX0_premium 2 = .ok (.invokevirtual 96, 3) := by decide +kernel
theorem dX0_premium_5 : decode cX0_premium 5 = .ok (.ifCond .ne 13, 3) := by decide +kernel
theorem dX0_premium_8 : decode cX0_premium 8 = .ok (.new 100, 3) := by decide +kernel
theorem dX0_premium_11 : decode cX0_premium 11 = .ok (.dup, 1) := by decide +kernel
theorem dX0_premium_12 : decode cX0_premium 12 = .ok (.ldc 102, 2) := by decide +kernel
theorem dX0_premium_14 : decode cX0_premium 14 = .ok (.invokespecial 104, 3) := by decide +kernel
theorem dX0_premium_17 : decode cX0_premium 17 = .ok (.athrow, 1) := by decide +kernel
theorem dX0_premium_18 : decode cX0_premium 18 = .ok (.aload_n 0, 1) := by decide +kernel
theorem dX0_premium_19 : decode cX0_premium 19 = .ok (.iload_n 1, 1) := by decide +kernel
theorem dX0_premium_20 : decode cX0_premium 20 = .ok (.invokevirtual 176, 3) := by decide +kernel
theorem dX0_premium_23 : decode cX0_premium 23 = .ok (.lreturn, 1) := by decide +kernel
theorem dX0_capped_0 : decode cX0_capped 0 = .ok (.aload_n 0, 1) := by decide +kernel
theorem dX0_capped_1 : decode cX0_capped 1 = .ok (.iload_n 1, 1) := by decide +kernel
theorem dX0_capped_2 : decode cX0_capped 2 = .ok (.invokevirtual 96, 3) := by decide +kernel
theorem dX0_capped_5 : decode cX0_capped 5 = .ok (.ifCond .ne 13, 3) := by decide +kernel
theorem dX0_capped_8 : decode cX0_capped 8 = .ok (.new 100, 3) := by decide +kernel
theorem dX0_capped_11 : decode cX0_capped 11 = .ok (.dup, 1) := by decide +kernel
theorem dX0_capped_12 : decode cX0_capped 12 = .ok (.ldc 102, 2) := by decide +kernel
theorem dX0_capped_14 : decode cX0_capped 14 = .ok (.invokespecial 104, 3) := by decide +kernel
theorem dX0_capped_17 : decode cX0_capped 17 = .ok (.athrow, 1) := by decide +kernel
theorem dX0_capped_18 : decode cX0_capped 18 = .ok (.aload_n 0, 1) := by decide +kernel
theorem dX0_capped_19 : decode cX0_capped 19 = .ok (.iload_n 1, 1) := by decide +kernel
theorem dX0_capped_20 : decode cX0_capped 20 = .ok (.invokevirtual 180, 3) := by decide +kernel
theorem dX0_capped_23 : decode cX0_capped 23 = .ok (.lreturn, 1) := by decide +kernel
theorem dX0_lost_0 : decode cX0_lost 0 = .ok (.aload_n 0, 1) := by decide +kernel
theorem dX0_lost_1 : decode cX0_lost 1 = .ok (.aload_n 0, 1) := by decide +kernel
theorem dX0_lost_2 : decode cX0_lost 2 = .ok (.getfield 55, 3) := by decide +kernel
theorem dX0_lost_5 : decode cX0_lost 5 = .ok (.invokevirtual 149, 3) := by decide +kernel
theorem dX0_lost_8 : decode cX0_lost 8 = .ok (.aload_n 0, 1) := by decide +kernel
theorem dX0_lost_9 : decode cX0_lost 9 = .ok (.invokevirtual 143, 3) := by decide +kernel
theorem dX0_lost_12 : decode cX0_lost 12 = .ok (.lsub, 1) := by decide +kernel
theorem dX0_lost_13 : decode cX0_lost 13 = .ok (.lreturn, 1) := by decide +kernel
theorem dX0_rankedAt_0 : decode cX0_rankedAt 0 = .ok (.iconst 0, 1) := by decide +kernel
theorem dX0_rankedAt_1 : decode cX0_rankedAt 1 = .ok (.istore_n 2, 1) := by decide +kernel
theorem dX0_rankedAt_2 : decode cX0_rankedAt 2 = .ok (.iload_n 2, 1) := by decide +kernel
theorem dX0_rankedAt_3 : decode cX0_rankedAt 3 = .ok (.aload_n 0, 1) := by decide +kernel
theorem dX0_rankedAt_4 : decode cX0_rankedAt 4 = .ok (.getfield 35, 3) := by decide +kernel
theorem dX0_rankedAt_7 : decode cX0_rankedAt 7 = .ok (.if_icmp .ge 29, 3) := by decide +kernel
theorem dX0_rankedAt_10 : decode cX0_rankedAt 10 = .ok (.aload_n 0, 1) := by decide +kernel
theorem dX0_rankedAt_11 : decode cX0_rankedAt 11 = .ok (.getfield 31, 3) := by decide +kernel
theorem dX0_rankedAt_14 : decode cX0_rankedAt 14 = .ok (.iload_n 2, 1) := by decide +kernel
theorem dX0_rankedAt_15 : decode cX0_rankedAt 15 = .ok (.baload, 1) := by decide +kernel
theorem dX0_rankedAt_16 : decode cX0_rankedAt 16 = .ok (.ifCond .eq 14, 3) := by decide +kernel
theorem dX0_rankedAt_19 : decode cX0_rankedAt 19 = .ok (.aload_n 0, 1) := by decide +kernel
theorem dX0_rankedAt_20 : decode cX0_rankedAt 20 = .ok (.iload_n 2, 1) := by decide +kernel
theorem dX0_rankedAt_21 : decode cX0_rankedAt 21 = .ok (.invokevirtual 183, 3) := by decide +kernel
theorem dX0_rankedAt_24 : decode cX0_rankedAt 24 = .ok (.iload_n 1, 1) := by decide +kernel
theorem dX0_rankedAt_25 : decode cX0_rankedAt 25 = .ok (.if_icmp .ne 5, 3) := by decide +kernel
theorem dX0_rankedAt_28 : decode cX0_rankedAt 28 = .ok (.iload_n 2, 1) := by decide +kernel
theorem dX0_rankedAt_29 : decode cX0_rankedAt 29 = .ok (.ireturn, 1) := by decide +kernel
theorem dX0_rankedAt_30 : decode cX0_rankedAt 30 = .ok (.iinc 2 1, 3) := by decide +kernel
theorem dX0_rankedAt_33 : decode cX0_rankedAt 33 = .ok (.goto (-31), 3) := by decide +kernel
theorem dX0_rankedAt_36 : decode cX0_rankedAt 36 = .ok (.new 100, 3) := by decide +kernel
theorem dX0_rankedAt_39 : decode cX0_rankedAt 39 = .ok (.dup, 1) := by decide +kernel
theorem dX0_rankedAt_40 : decode cX0_rankedAt 40 = .ok (.ldc 186, 2) := by decide +kernel
theorem dX0_rankedAt_42 : decode cX0_rankedAt 42 = .ok (.invokespecial 104, 3) := by decide +kernel
theorem dX0_rankedAt_45 : decode cX0_rankedAt 45 = .ok (.athrow, 1) := by decide +kernel
theorem dX0_isWithin_0 : decode cX0_isWithin 0 = .ok (.iload_n 0, 1) := by decide +kernel
theorem dX0_isWithin_1 : decode cX0_isWithin 1 = .ok (.iload_n 1, 1) := by decide +kernel
theorem dX0_isWithin_2 : decode cX0_isWithin 2 = .ok (.if_icmp .lt 12, 3) := by decide +kernel
theorem dX0_isWithin_5 : decode cX0_isWithin 5 = .ok (.iload_n 0, 1) := by decide +kernel
theorem dX0_isWithin_6 : decode cX0_isWithin 6 = .ok (.iload_n 2, 1) := by decide +kernel
theorem dX0_isWithin_7 : decode cX0_isWithin 7 = .ok (.if_icmp .gt 7, 3) := by decide +kernel
theorem dX0_isWithin_10 : decode cX0_isWithin 10 = .ok (.iconst 1, 1) := by decide +kernel
theorem dX0_isWithin_11 : decode cX0_isWithin 11 = .ok (.goto 4, 3) := by decide +kernel
theorem dX0_isWithin_14 : decode cX0_isWithin 14 = .ok (.iconst 0, 1) := by decide +kernel
theorem dX0_isWithin_15 : decode cX0_isWithin 15 = .ok (.ireturn, 1) := by decide +kernel
theorem dX0_hasTrait_0 : decode cX0_hasTrait 0 = .ok (.iload_n 0, 1) := by decide +kernel
theorem dX0_hasTrait_1 : decode cX0_hasTrait 1 = .ok (.ifCond .lt 12, 3) := by decide +kernel
theorem dX0_hasTrait_4 : decode cX0_hasTrait 4 = .ok (.iload_n 0, 1) := by decide +kernel
theorem dX0_hasTrait_5 : decode cX0_hasTrait 5 = .ok (.iconst 3, 1) := by decide +kernel
theorem dX0_hasTrait_6 : decode cX0_hasTrait 6 = .ok (.if_icmp .ge 7, 3) := by decide +kernel
theorem dX0_hasTrait_9 : decode cX0_hasTrait 9 = .ok (.iconst 1, 1) := by decide +kernel
theorem dX0_hasTrait_10 : decode cX0_hasTrait 10 = .ok (.goto 4, 3) := by decide +kernel
theorem dX0_hasTrait_13 : decode cX0_hasTrait 13 = .ok (.iconst 0, 1) := by decide +kernel
theorem dX0_hasTrait_14 : decode cX0_hasTrait 14 = .ok (.ireturn, 1) := by decide +kernel
theorem dX0_hasLevel_0 : decode cX0_hasLevel 0 = .ok (.iload_n 0, 1) := by decide +kernel
theorem dX0_hasLevel_1 : decode cX0_hasLevel 1 = .ok (.invokestatic 117, 3) := by decide +kernel
theorem dX0_hasLevel_4 : decode cX0_hasLevel 4 = .ok (.ifCond .eq 20, 3) := by decide +kernel
theorem dX0_hasLevel_7 : decode cX0_hasLevel 7 = .ok (.iload_n 1, 1) := by decide +kernel
theorem dX0_hasLevel_8 : decode cX0_hasLevel 8 = .ok (.ifCond .lt 16, 3) := by decide +kernel
theorem dX0_hasLevel_11 : decode cX0_hasLevel 11 = .ok (.iload_n 1, 1) := by decide +kernel
theorem dX0_hasLevel_12 : decode cX0_hasLevel 12 = .ok (.getstatic 130, 3) := by decide +kernel
theorem dX0_hasLevel_15 : decode cX0_hasLevel 15 = .ok (.iload_n 0, 1) := by decide +kernel
theorem dX0_hasLevel_16 : decode cX0_hasLevel 16 = .ok (.iaload, 1) := by decide +kernel
theorem dX0_hasLevel_17 : decode cX0_hasLevel 17 = .ok (.if_icmp .ge 7, 3) := by decide +kernel
theorem dX0_hasLevel_20 : decode cX0_hasLevel 20 = .ok (.iconst 1, 1) := by decide +kernel
theorem dX0_hasLevel_21 : decode cX0_hasLevel 21 = .ok (.goto 4, 3) := by decide +kernel
theorem dX0_hasLevel_24 : decode cX0_hasLevel 24 = .ok (.iconst 0, 1) := by decide +kernel
theorem dX0_hasLevel_25 : decode cX0_hasLevel 25 = .ok (.ireturn, 1) := by decide +kernel
theorem dX0_hasRow_0 : decode cX0_hasRow 0 = .ok (.iload_n 1, 1) := by decide +kernel
theorem dX0_hasRow_1 : decode cX0_hasRow 1 = .ok (.ifCond .lt 24, 3) := by decide +kernel
theorem dX0_hasRow_4 : decode cX0_hasRow 4 = .ok (.iload_n 1, 1) := by decide +kernel
theorem dX0_hasRow_5 : decode cX0_hasRow 5 = .ok (.aload_n 0, 1) := by decide +kernel
theorem dX0_hasRow_6 : decode cX0_hasRow 6 = .ok (.getfield 35, 3) := by decide +kernel
theorem dX0_hasRow_9 : decode cX0_hasRow 9 = .ok (.if_icmp .ge 16, 3) := by decide +kernel
theorem dX0_hasRow_12 : decode cX0_hasRow 12 = .ok (.aload_n 0, 1) := by decide +kernel
theorem dX0_hasRow_13 : decode cX0_hasRow 13 = .ok (.getfield 31, 3) := by decide +kernel
theorem dX0_hasRow_16 : decode cX0_hasRow 16 = .ok (.iload_n 1, 1) := by decide +kernel
theorem dX0_hasRow_17 : decode cX0_hasRow 17 = .ok (.baload, 1) := by decide +kernel
theorem dX0_hasRow_18 : decode cX0_hasRow 18 = .ok (.ifCond .eq 7, 3) := by decide +kernel
theorem dX0_hasRow_21 : decode cX0_hasRow 21 = .ok (.iconst 1, 1) := by decide +kernel
theorem dX0_hasRow_22 : decode cX0_hasRow 22 = .ok (.goto 4, 3) := by decide +kernel
theorem dX0_hasRow_25 : decode cX0_hasRow 25 = .ok (.iconst 0, 1) := by decide +kernel
theorem dX0_hasRow_26 : decode cX0_hasRow 26 = .ok (.ireturn, 1) := by decide +kernel
theorem dX0_total_0 : decode cX0_total 0 = .ok (.lconst 0, 1) := by decide +kernel
theorem dX0_total_1 : decode cX0_total 1 = .ok (.lstore_n 2, 1) := by decide +kernel
theorem dX0_total_2 : decode cX0_total 2 = .ok (.iconst 0, 1) := by decide +kernel
theorem dX0_total_3 : decode cX0_total 3 = .ok (.istore 4, 2) := by decide +kernel
theorem dX0_total_5 : decode cX0_total 5 = .ok (.iload 4, 2) := by decide +kernel
theorem dX0_total_7 : decode cX0_total 7 = .ok (.aload_n 0, 1) := by decide +kernel
theorem dX0_total_8 : decode cX0_total 8 = .ok (.getfield 35, 3) := by decide +kernel
theorem dX0_total_11 : decode cX0_total 11 = .ok (.if_icmp .ge 26, 3) := by decide +kernel
theorem dX0_total_14 : decode cX0_total 14 = .ok (.aload_n 0, 1) := by decide +kernel
theorem dX0_total_15 : decode cX0_total 15 = .ok (.getfield 31, 3) := by decide +kernel
theorem dX0_total_18 : decode cX0_total 18 = .ok (.iload 4, 2) := by decide +kernel
theorem dX0_total_20 : decode cX0_total 20 = .ok (.baload, 1) := by decide +kernel
theorem dX0_total_21 : decode cX0_total 21 = .ok (.ifCond .eq 10, 3) := by decide +kernel
theorem dX0_total_24 : decode cX0_total 24 = .ok (.lload_n 2, 1) := by decide +kernel
theorem dX0_total_25 : decode cX0_total 25 = .ok (.aload_n 1, 1) := by decide +kernel
theorem dX0_total_26 : decode cX0_total 26 = .ok (.iload 4, 2) := by decide +kernel
theorem dX0_total_28 : decode cX0_total 28 = .ok (.laload, 1) := by decide +kernel
theorem dX0_total_29 : decode cX0_total 29 = .ok (.ladd, 1) := by decide +kernel
theorem dX0_total_30 : decode cX0_total 30 = .ok (.lstore_n 2, 1) := by decide +kernel
theorem dX0_total_31 : decode cX0_total 31 = .ok (.iinc 4 1, 3) := by decide +kernel
theorem dX0_total_34 : decode cX0_total 34 = .ok (.goto (-29), 3) := by decide +kernel
theorem dX0_total_37 : decode cX0_total 37 = .ok (.lload_n 2, 1) := by decide +kernel
theorem dX0_total_38 : decode cX0_total 38 = .ok (.lreturn, 1) := by decide +kernel
theorem dX0_levelTotal_0 : decode cX0_levelTotal 0 = .ok (.lconst 0, 1) := by decide +kernel
theorem dX0_levelTotal_1 : decode cX0_levelTotal 1 = .ok (.lstore 4, 2) := by decide +kernel
theorem dX0_levelTotal_3 : decode cX0_levelTotal 3 = .ok (.iconst 0, 1) := by decide +kernel
theorem dX0_levelTotal_4 : decode cX0_levelTotal 4 = .ok (.istore 6, 2) := by decide +kernel
theorem dX0_levelTotal_6 : decode cX0_levelTotal 6 = .ok (.iload 6, 2) := by decide +kernel
theorem dX0_levelTotal_8 : decode cX0_levelTotal 8 = .ok (.aload_n 0, 1) := by decide +kernel
theorem dX0_levelTotal_9 : decode cX0_levelTotal 9 = .ok (.getfield 35, 3) := by decide +kernel
theorem dX0_levelTotal_12 : decode cX0_levelTotal 12 = .ok (.if_icmp .ge 41, 3) := by decide +kernel
theorem dX0_levelTotal_15 : decode cX0_levelTotal 15 = .ok (.aload_n 0, 1) := by decide +kernel
theorem dX0_levelTotal_16 : decode cX0_levelTotal 16 = .ok (.getfield 31, 3) := by decide +kernel
theorem dX0_levelTotal_19 : decode cX0_levelTotal 19 = .ok (.iload 6, 2) := by decide +kernel
theorem dX0_levelTotal_21 : decode cX0_levelTotal 21 = .ok (.baload, 1) := by decide +kernel
theorem dX0_levelTotal_22 : decode cX0_levelTotal 22 = .ok (.ifCond .eq 25, 3) := by decide +kernel
theorem dX0_levelTotal_25 : decode cX0_levelTotal 25 = .ok (.aload_n 0, 1) := by decide +kernel
theorem dX0_levelTotal_26 : decode cX0_levelTotal 26 = .ok (.getfield 14, 3) := by decide +kernel
theorem dX0_levelTotal_29 : decode cX0_levelTotal 29 = .ok (.iload_n 2, 1) := by decide +kernel
theorem dX0_levelTotal_30 : decode cX0_levelTotal 30 = .ok (.aaload, 1) := by decide +kernel
theorem dX0_levelTotal_31 : decode cX0_levelTotal 31 = .ok (.iload 6, 2) := by decide +kernel
theorem dX0_levelTotal_33 : decode cX0_levelTotal 33 = .ok (.iaload, 1) := by decide +kernel
theorem dX0_levelTotal_34 : decode cX0_levelTotal 34 = .ok (.iload_n 3, 1) := by decide +kernel
theorem dX0_levelTotal_35 : decode cX0_levelTotal 35 = .ok (.if_icmp .ne 12, 3) := by decide +kernel
theorem dX0_levelTotal_38 : decode cX0_levelTotal 38 = .ok (.lload 4, 2) := by decide +kernel
theorem dX0_levelTotal_40 : decode cX0_levelTotal 40 = .ok (.aload_n 1, 1) := by decide +kernel

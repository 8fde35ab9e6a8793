theorem dL_from_0 : decode cL_from 0 = .ok (.aload_n 0, 1) := by decide +kernel
theorem dL_from_1 : decode cL_from 1 = .ok (.arraylength, 1) := by decide +kernel
theorem dL_from_2 : decode cL_from 2 = .ok (.ifCond .ne 15, 3) := by decide +kernel
theorem dL_from_5 : decode cL_from 5 = .ok (.sipush 181, 3) := by decide +kernel
theorem dL_from_8 : decode cL_from 8 = .ok (.iload_n 1, 1) := by decide +kernel
theorem dL_from_9 : decode cL_from 9 = .ok (.imul, 1) := by decide +kernel
theorem dL_from_10 : decode cL_from 10 = .ok (.sipush 157, 3) := by decide +kernel
theorem dL_from_13 : decode cL_from 13 = .ok (.iadd, 1) := by decide +kernel
theorem dL_from_14 : decode cL_from 14 = .ok (.goto 14, 3) := by decide +kernel
theorem dL_from_17 : decode cL_from 17 = .ok (.aload_n 0, 1) := by decide +kernel
theorem dL_from_18 : decode cL_from 18 = .ok (.iload_n 1, 1) := by decide +kernel
theorem dL_from_19 : decode cL_from 19 = .ok (.aload_n 0, 1) := by decide +kernel
theorem dL_from_20 : decode cL_from 20 = .ok (.arraylength, 1) := by decide +kernel
theorem dL_from_21 : decode cL_from 21 = .ok (.irem, 1) := by decide +kernel
theorem dL_from_22 : decode cL_from 22 = .ok (.iaload, 1) := by decide +kernel
theorem dL_from_23 : decode cL_from 23 = .ok (.ldc 7, 2) := by decide +kernel
theorem dL_from_25 : decode cL_from 25 = .ok (.iload_n 1, 1) := by decide +kernel
theorem dL_from_26 : decode cL_from 26 = .ok (.imul, 1) := by decide +kernel
theorem dL_from_27 : decode cL_from 27 = .ok (.ixor, 1) := by decide +kernel
theorem dL_from_28 : decode cL_from 28 = .ok (.istore_n 3, 1) := by decide +kernel
theorem dL_from_29 : decode cL_from 29 = .ok (.iload_n 3, 1) := by decide +kernel
theorem dL_from_30 : decode cL_from 30 = .ok (.ldc 8, 2) := by decide +kernel
theorem dL_from_32 : decode cL_from 32 = .ok (.iand, 1) := by decide +kernel
theorem dL_from_33 : decode cL_from 33 = .ok (.iload_n 2, 1) := by decide +kernel
theorem dL_from_34 : decode cL_from 34 = .ok (.irem, 1) := by decide +kernel
theorem dL_from_35 : decode cL_from 35 = .ok (.ireturn, 1) := by decide +kernel
theorem dL_many_0 : decode cL_many 0 = .ok (.iload_n 0, 1) := by decide +kernel
theorem dL_many_1 : decode cL_many 1 = .ok (.iconst 1, 1) := by decide +kernel
theorem dL_many_2 : decode cL_many 2 = .ok (.if_icmp .ne 7, 3) := by decide +kernel
theorem dL_many_5 : decode cL_many 5 = .ok (.iconst 3, 1) := by decide +kernel
theorem dL_many_6 : decode cL_many 6 = .ok (.goto 4, 3) := by decide +kernel
theorem dL_many_9 : decode cL_many 9 = .ok (.iconst 4, 1) := by decide +kernel
theorem dL_many_10 : decode cL_many 10 = .ok (.ireturn, 1) := by decide +kernel
theorem dL_base_0 : decode cL_base 0 = .ok (.lconst 0, 1) := by decide +kernel
theorem dL_base_1 : decode cL_base 1 = .ok (.lstore 4, 2) := by decide +kernel
theorem dL_base_3 : decode cL_base 3 = .ok (.lconst 0, 1) := by decide +kernel
theorem dL_base_4 : decode cL_base 4 = .ok (.lstore 6, 2) := by decide +kernel
theorem dL_base_6 : decode cL_base 6 = .ok (.iconst 0, 1) := by decide +kernel
theorem dL_base_7 : decode cL_base 7 = .ok (.istore 8, 2) := by decide +kernel
theorem dL_base_9 : decode cL_base 9 = .ok (.iload 8, 2) := by decide +kernel
theorem dL_base_11 : decode cL_base 11 = .ok (.aload_n 3, 1) := by decide +kernel
theorem dL_base_12 : decode cL_base 12 = .ok (.iconst 0, 1) := by decide +kernel
theorem dL_base_13 : decode cL_base 13 = .ok (.iaload, 1) := by decide +kernel
theorem dL_base_14 : decode cL_base 14 = .ok (.if_icmp .ge 53, 3) := by decide +kernel
theorem dL_base_17 : decode cL_base 17 = .ok (.lload 4, 2) := by decide +kernel
theorem dL_base_19 : decode cL_base 19 = .ok (.aload_n 2, 1) := by decide +kernel
theorem dL_base_20 : decode cL_base 20 = .ok (.iload 8, 2) := by decide +kernel
theorem dL_base_22 : decode cL_base 22 = .ok (.iaload, 1) := by decide +kernel
theorem dL_base_23 : decode cL_base 23 = .ok (.iconst 1, 1) := by decide +kernel
theorem dL_base_24 : decode cL_base 24 = .ok (.if_icmp .ne 7, 3) := by decide +kernel
theorem dL_base_27 : decode cL_base 27 = .ok (.lconst 0, 1) := by decide +kernel
theorem dL_base_28 : decode cL_base 28 = .ok (.goto 8, 3) := by decide +kernel
theorem dL_base_31 : decode cL_base 31 = .ok (.aload_n 1, 1) := by decide +kernel
theorem dL_base_32 : decode cL_base 32 = .ok (.iload 8, 2) := by decide +kernel
theorem dL_base_34 : decode cL_base 34 = .ok (.iaload, 1) := by decide +kernel
theorem dL_base_35 : decode cL_base 35 = .ok (.i2l, 1) := by decide +kernel
theorem dL_base_36 : decode cL_base 36 = .ok (.ladd, 1) := by decide +kernel
theorem dL_base_37 : decode cL_base 37 = .ok (.lstore 4, 2) := by decide +kernel
theorem dL_base_39 : decode cL_base 39 = .ok (.lload 6, 2) := by decide +kernel
theorem dL_base_41 : decode cL_base 41 = .ok (.aload_n 2, 1) := by decide +kernel
theorem dL_base_42 : decode cL_base 42 = .ok (.iload 8, 2) := by decide +kernel
theorem dL_base_44 : decode cL_base 44 = .ok (.iaload, 1) := by decide +kernel
theorem dL_base_45 : decode cL_base 45 = .ok (.iconst 1, 1) := by decide +kernel
theorem dL_base_46 : decode cL_base 46 = .ok (.if_icmp .ne 7, 3) := by decide +kernel
theorem dL_base_49 : decode cL_base 49 = .ok (.lconst 0, 1) := by decide +kernel
theorem dL_base_50 : decode cL_base 50 = .ok (.goto 8, 3) := by decide +kernel
theorem dL_base_53 : decode cL_base 53 = .ok (.aload_n 0, 1) := by decide +kernel
theorem dL_base_54 : decode cL_base 54 = .ok (.iload 8, 2) := by decide +kernel
theorem dL_base_56 : decode cL_base 56 = .ok (.iaload, 1) := by decide +kernel
theorem dL_base_57 : decode cL_base 57 = .ok (.i2l, 1) := by decide +kernel
theorem dL_base_58 : decode cL_base 58 = .ok (.ladd, 1) := by decide +kernel
theorem dL_base_59 : decode cL_base 59 = .ok (.lstore 6, 2) := by decide +kernel
theorem dL_base_61 : decode cL_base 61 = .ok (.iinc 8 1, 3) := by decide +kernel
theorem dL_base_64 : decode cL_base 64 = .ok (.goto (-55), 3) := by decide +kernel
theorem dL_base_67 : decode cL_base 67 = .ok (.lload 6, 2) := by decide +kernel
theorem dL_base_69 : decode cL_base 69 = .ok (.lconst 0, 1) := by decide +kernel
theorem dL_base_70 : decode cL_base 70 = .ok (.lcmp, 1) := by decide +kernel
theorem dL_base_71 : decode cL_base 71 = .ok (.ifCond .ne 7, 3) := by decide +kernel
theorem dL_base_74 : decode cL_base 74 = .ok (.lconst 0, 1) := by decide +kernel
theorem dL_base_75 : decode cL_base 75 = .ok (.goto 12, 3) := by decide +kernel
theorem dL_base_78 : decode cL_base 78 = .ok (.lload 4, 2) := by decide +kernel
theorem dL_base_80 : decode cL_base 80 = .ok (.ldc2_w 9, 3) := by decide +kernel
theorem dL_base_83 : decode cL_base 83 = .ok (.lmul, 1) := by decide +kernel
theorem dL_base_84 : decode cL_base 84 = .ok (.lload 6, 2) := by decide +kernel
theorem dL_base_86 : decode cL_base 86 = .ok (.ldiv, 1) := by decide +kernel
theorem dL_base_87 : decode cL_base 87 = .ok (.lreturn, 1) := by decide +kernel
theorem dL_fitted_0 : decode cL_fitted 0 = .ok (.lload 4, 2) := by decide +kernel
theorem dL_fitted_2 : decode cL_fitted 2 = .ok (.aload_n 1, 1) := by decide +kernel
theorem dL_fitted_3 : decode cL_fitted 3 = .ok (.iload_n 3, 1) := by decide +kernel
theorem dL_fitted_4 : decode cL_fitted 4 = .ok (.iaload, 1) := by decide +kernel
theorem dL_fitted_5 : decode cL_fitted 5 = .ok (.i2l, 1) := by decide +kernel
theorem dL_fitted_6 : decode cL_fitted 6 = .ok (.lmul, 1) := by decide +kernel
theorem dL_fitted_7 : decode cL_fitted 7 = .ok (.ldc2_w 9, 3) := by decide +kernel
theorem dL_fitted_10 : decode cL_fitted 10 = .ok (.ldiv, 1) := by decide +kernel
theorem dL_fitted_11 : decode cL_fitted 11 = .ok (.lstore 6, 2) := by decide +kernel
theorem dL_fitted_13 : decode cL_fitted 13 = .ok (.lload 6, 2) := by decide +kernel
theorem dL_fitted_15 : decode cL_fitted 15 = .ok (.aload_n 2, 1) := by decide +kernel
theorem dL_fitted_16 : decode cL_fitted 16 = .ok (.aload_n 0, 1) := by decide +kernel
theorem dL_fitted_17 : decode cL_fitted 17 = .ok (.iconst 3, 1) := by decide +kernel
theorem dL_fitted_18 : decode cL_fitted 18 = .ok (.iload_n 3, 1) := by decide +kernel
theorem dL_fitted_19 : decode cL_fitted 19 = .ok (.imul, 1) := by decide +kernel
theorem dL_fitted_20 : decode cL_fitted 20 = .ok (.iaload, 1) := by decide +kernel
theorem dL_fitted_21 : decode cL_fitted 21 = .ok (.iaload, 1) := by decide +kernel
theorem dL_fitted_22 : decode cL_fitted 22 = .ok (.i2l, 1) := by decide +kernel
theorem dL_fitted_23 : decode cL_fitted 23 = .ok (.lmul, 1) := by decide +kernel
theorem dL_fitted_24 : decode cL_fitted 24 = .ok (.ldc2_w 9, 3) := by decide +kernel
theorem dL_fitted_27 : decode cL_fitted 27 = .ok (.ldiv, 1) := by decide +kernel
theorem dL_fitted_28 : decode cL_fitted 28 = .ok (.lstore 8, 2) := by decide +kernel
theorem dL_fitted_30 : decode cL_fitted 30 = .ok (.lload 8, 2) := by decide +kernel
theorem dL_fitted_32 : decode cL_fitted 32 = .ok (.aload_n 2, 1) := by decide +kernel
theorem dL_fitted_33 : decode cL_fitted 33 = .ok (.iconst 4, 1) := by decide +kernel
theorem dL_fitted_34 : decode cL_fitted 34 = .ok (.aload_n 0, 1) := by decide +kernel
theorem dL_fitted_35 : decode cL_fitted 35 = .ok (.iconst 3, 1) := by decide +kernel
theorem dL_fitted_36 : decode cL_fitted 36 = .ok (.iload_n 3, 1) := by decide +kernel
theorem dL_fitted_37 : decode cL_fitted 37 = .ok (.imul, 1) := by decide +kernel
theorem dL_fitted_38 : decode cL_fitted 38 = .ok (.iconst 1, 1) := by decide +kernel
theorem dL_fitted_39 : decode cL_fitted 39 = .ok (.iadd, 1) := by decide +kernel
theorem dL_fitted_40 : decode cL_fitted 40 = .ok (.iaload, 1) := by decide +kernel
theorem dL_fitted_41 : decode cL_fitted 41 = .ok (.iadd, 1) := by decide +kernel
theorem dL_fitted_42 : decode cL_fitted 42 = .ok (.iaload, 1) := by decide +kernel
theorem dL_fitted_43 : decode cL_fitted 43 = .ok (.i2l, 1) := by decide +kernel
theorem dL_fitted_44 : decode cL_fitted 44 = .ok (.lmul, 1) := by decide +kernel
theorem dL_fitted_45 : decode cL_fitted 45 = .ok (.ldc2_w 9, 3) := by decide +kernel
theorem dL_fitted_48 : decode cL_fitted 48 = .ok (.ldiv, 1) := by decide +kernel
theorem dL_fitted_49 : decode cL_fitted 49 = .ok (.lstore 10, 2) := by decide +kernel
theorem dL_fitted_51 : decode cL_fitted 51 = .ok (.lload 10, 2) := by decide +kernel
theorem dL_fitted_53 : decode cL_fitted 53 = .ok (.aload_n 2, 1) := by decide +kernel
theorem dL_fitted_54 : decode cL_fitted 54 = .ok (.bipush 8, 2) := by decide +kernel
theorem dL_fitted_56 : decode cL_fitted 56 = .ok (.aload_n 0, 1) := by decide +kernel
theorem dL_fitted_57 : decode cL_fitted 57 = .ok (.iconst 3, 1) := by decide +kernel
theorem dL_fitted_58 : decode cL_fitted 58 = .ok (.iload_n 3, 1) := by decide +kernel
theorem dL_fitted_59 : decode cL_fitted 59 = .ok (.imul, 1) := by decide +kernel
theorem dL_fitted_60 : decode cL_fitted 60 = .ok (.iconst 2, 1) := by decide +kernel
theorem dL_fitted_61 : decode cL_fitted 61 = .ok (.iadd, 1) := by decide +kernel
theorem dL_fitted_62 : decode cL_fitted 62 = .ok (.iaload, 1) := by decide +kernel
theorem dL_fitted_63 : decode cL_fitted 63 = .ok (.iadd, 1) := by decide +kernel
theorem dL_fitted_64 : decode cL_fitted 64 = .ok (.iaload, 1) := by decide +kernel
theorem dL_fitted_65 : decode cL_fitted 65 = .ok (.i2l, 1) := by decide +kernel
theorem dL_fitted_66 : decode cL_fitted 66 = .ok (.lmul, 1) := by decide +kernel
theorem dL_fitted_67 : decode cL_fitted 67 = .ok (.ldc2_w 9, 3) := by decide +kernel
theorem dL_fitted_70 : decode cL_fitted 70 = .ok (.ldiv, 1) := by decide +kernel
theorem dL_fitted_71 : decode cL_fitted 71 = .ok (.lreturn, 1) := by decide +kernel
theorem dL_sum_0 : decode cL_sum 0 = .ok (.aload_n 1, 1) := by decide +kernel
theorem dL_sum_1 : decode cL_sum 1 = .ok (.aload_n 3, 1) := by decide +kernel
theorem dL_sum_2 : decode cL_sum 2 = .ok (.aload 4, 2) := by decide +kernel
theorem dL_sum_4 : decode cL_sum 4 = .ok (.aload 6, 2) := by decide +kernel
theorem dL_sum_6 : decode cL_sum 6 = .ok (.invokestatic 11, 3) := by decide +kernel
theorem dL_sum_9 : decode cL_sum 9 = .ok (.lstore 10, 2) := by decide +kernel
theorem dL_sum_11 : decode cL_sum 11 = .ok (.lconst 0, 1) := by decide +kernel
theorem dL_sum_12 : decode cL_sum 12 = .ok (.lstore 12, 2) := by decide +kernel
theorem dL_sum_14 : decode cL_sum 14 = .ok (.iconst 0, 1) := by decide +kernel
theorem dL_sum_15 : decode cL_sum 15 = .ok (.istore 14, 2) := by decide +kernel
theorem dL_sum_17 : decode cL_sum 17 = .ok (.iload 14, 2) := by decide +kernel
theorem dL_sum_19 : decode cL_sum 19 = .ok (.aload 6, 2) := by decide +kernel
theorem dL_sum_21 : decode cL_sum 21 = .ok (.iconst 0, 1) := by decide +kernel
theorem dL_sum_22 : decode cL_sum 22 = .ok (.iaload, 1) := by decide +kernel
theorem dL_sum_23 : decode cL_sum 23 = .ok (.if_icmp .ge 114, 3) := by decide +kernel
theorem dL_sum_26 : decode cL_sum 26 = .ok (.aload 4, 2) := by decide +kernel
theorem dL_sum_28 : decode cL_sum 28 = .ok (.iload 14, 2) := by decide +kernel
theorem dL_sum_30 : decode cL_sum 30 = .ok (.iaload, 1) := by decide +kernel
theorem dL_sum_31 : decode cL_sum 31 = .ok (.ifCond .ne 21, 3) := by decide +kernel
theorem dL_sum_34 : decode cL_sum 34 = .ok (.aload_n 0, 1) := by decide +kernel
theorem dL_sum_35 : decode cL_sum 35 = .ok (.iconst 3, 1) := by decide +kernel
theorem dL_sum_36 : decode cL_sum 36 = .ok (.iload 14, 2) := by decide +kernel
theorem dL_sum_38 : decode cL_sum 38 = .ok (.imul, 1) := by decide +kernel
theorem dL_sum_39 : decode cL_sum 39 = .ok (.iload 8, 2) := by decide +kernel
theorem dL_sum_41 : decode cL_sum 41 = .ok (.iadd, 1) := by decide +kernel
theorem dL_sum_42 : decode cL_sum 42 = .ok (.iaload, 1) := by decide +kernel
theorem dL_sum_43 : decode cL_sum 43 = .ok (.iload 9, 2) := by decide +kernel
theorem dL_sum_45 : decode cL_sum 45 = .ok (.if_icmp .ne 7, 3) := by decide +kernel
theorem dL_sum_48 : decode cL_sum 48 = .ok (.iconst 1, 1) := by decide +kernel
theorem dL_sum_49 : decode cL_sum 49 = .ok (.goto 4, 3) := by decide +kernel
theorem dL_sum_52 : decode cL_sum 52 = .ok (.iconst 0, 1) := by decide +kernel
theorem dL_sum_53 : decode cL_sum 53 = .ok (.istore 15, 2) := by decide +kernel
theorem dL_sum_55 : decode cL_sum 55 = .ok (.lload 12, 2) := by decide +kernel
theorem dL_sum_57 : decode cL_sum 57 = .ok (.iload 15, 2) := by decide +kernel
theorem dL_sum_59 : decode cL_sum 59 = .ok (.ifCond .ne 7, 3) := by decide +kernel
theorem dL_sum_62 : decode cL_sum 62 = .ok (.lconst 0, 1) := by decide +kernel
theorem dL_sum_63 : decode cL_sum 63 = .ok (.goto 65, 3) := by decide +kernel
theorem dL_sum_66 : decode cL_sum 66 = .ok (.iload 7, 2) := by decide +kernel
theorem dL_sum_68 : decode cL_sum 68 = .ok (.ifCond .ne 11, 3) := by decide +kernel
theorem dL_sum_71 : decode cL_sum 71 = .ok (.aload_n 3, 1) := by decide +kernel
theorem dL_sum_72 : decode cL_sum 72 = .ok (.iload 14, 2) := by decide +kernel
theorem dL_sum_74 : decode cL_sum 74 = .ok (.iaload, 1) := by decide +kernel
theorem dL_sum_75 : decode cL_sum 75 = .ok (.i2l, 1) := by decide +kernel
theorem dL_sum_76 : decode cL_sum 76 = .ok (.goto 52, 3) := by decide +kernel
theorem dL_sum_79 : decode cL_sum 79 = .ok (.iload 7, 2) := by decide +kernel
theorem dL_sum_81 : decode cL_sum 81 = .ok (.iconst 1, 1) := by decide +kernel
theorem dL_sum_82 : decode cL_sum 82 = .ok (.if_icmp .ne 17, 3) := by decide +kernel
theorem dL_sum_85 : decode cL_sum 85 = .ok (.aload_n 0, 1) := by decide +kernel
theorem dL_sum_86 : decode cL_sum 86 = .ok (.aload_n 1, 1) := by decide +kernel
theorem dL_sum_87 : decode cL_sum 87 = .ok (.aload 5, 2) := by decide +kernel
theorem dL_sum_89 : decode cL_sum 89 = .ok (.iload 14, 2) := by decide +kernel
theorem dL_sum_91 : decode cL_sum 91 = .ok (.lload 10, 2) := by decide +kernel
theorem dL_sum_93 : decode cL_sum 93 = .ok (.invokestatic 17, 3) := by decide +kernel
theorem dL_sum_96 : decode cL_sum 96 = .ok (.goto 32, 3) := by decide +kernel
theorem dL_sum_99 : decode cL_sum 99 = .ok (.iload 7, 2) := by decide +kernel
theorem dL_sum_101 : decode cL_sum 101 = .ok (.iconst 2, 1) := by decide +kernel
theorem dL_sum_102 : decode cL_sum 102 = .ok (.if_icmp .ne 11, 3) := by decide +kernel
theorem dL_sum_105 : decode cL_sum 105 = .ok (.aload_n 2, 1) := by decide +kernel
theorem dL_sum_106 : decode cL_sum 106 = .ok (.iload 14, 2) := by decide +kernel
theorem dL_sum_108 : decode cL_sum 108 = .ok (.iaload, 1) := by decide +kernel
theorem dL_sum_109 : decode cL_sum 109 = .ok (.i2l, 1) := by decide +kernel
theorem dL_sum_110 : decode cL_sum 110 = .ok (.goto 18, 3) := by decide +kernel
theorem dL_sum_113 : decode cL_sum 113 = .ok (.iload 7, 2) := by decide +kernel
theorem dL_sum_115 : decode cL_sum 115 = .ok (.iconst 3, 1) := by decide +kernel
theorem dL_sum_116 : decode cL_sum 116 = .ok (.if_icmp .ne 11, 3) := by decide +kernel
theorem dL_sum_119 : decode cL_sum 119 = .ok (.aload_n 1, 1) := by decide +kernel
theorem dL_sum_120 : decode cL_sum 120 = .ok (.iload 14, 2) := by decide +kernel
theorem dL_sum_122 : decode cL_sum 122 = .ok (.iaload, 1) := by decide +kernel
theorem dL_sum_123 : decode cL_sum 123 = .ok (.i2l, 1) := by decide +kernel
theorem dL_sum_124 : decode cL_sum 124 = .ok (.goto 4, 3) := by decide +kernel
theorem dL_sum_127 : decode cL_sum 127 = .ok (.lconst 1, 1) := by decide +kernel
theorem dL_sum_128 : decode cL_sum 128 = .ok (.ladd, 1) := by decide +kernel
theorem dL_sum_129 : decode cL_sum 129 = .ok (.lstore 12, 2) := by decide +kernel
theorem dL_sum_131 : decode cL_sum 131 = .ok (.iinc 14 1, 3) := by decide +kernel
theorem dL_sum_134 : decode cL_sum 134 = .ok (.goto (-117), 3) := by decide +kernel
theorem dL_sum_137 : decode cL_sum 137 = .ok (.lload 12, 2) := by decide +kernel
theorem dL_sum_139 : decode cL_sum 139 = .ok (.lreturn, 1) := by decide +kernel
theorem dL_pass_0 : decode cL_pass 0 = .ok (.iconst 4, 1) := by decide +kernel
theorem dL_pass_1 : decode cL_pass 1 = .ok (.newarray .long, 2) := by decide +kernel
theorem dL_pass_3 : decode cL_pass 3 = .ok (.astore 8, 2) := by decide +kernel
theorem dL_pass_5 : decode cL_pass 5 = .ok (.iconst 0, 1) := by decide +kernel
theorem dL_pass_6 : decode cL_pass 6 = .ok (.istore 9, 2) := by decide +kernel
theorem dL_pass_8 : decode cL_pass 8 = .ok (.iconst 0, 1) := by decide +kernel
theorem dL_pass_9 : decode cL_pass 9 = .ok (.istore 10, 2) := by decide +kernel
theorem dL_pass_11 : decode cL_pass 11 = .ok (.iload 10, 2) := by decide +kernel
theorem dL_pass_13 : decode cL_pass 13 = .ok (.iload 7, 2) := by decide +kernel
theorem dL_pass_15 : decode cL_pass 15 = .ok (.invokestatic 21, 3) := by decide +kernel
theorem dL_pass_18 : decode cL_pass 18 = .ok (.if_icmp .ge 186, 3) := by decide +kernel
theorem dL_pass_21 : decode cL_pass 21 = .ok (.aload 5, 2) := by decide +kernel
theorem dL_pass_23 : decode cL_pass 23 = .ok (.iconst 4, 1) := by decide +kernel
theorem dL_pass_24 : decode cL_pass 24 = .ok (.iload 7, 2) := by decide +kernel
theorem dL_pass_26 : decode cL_pass 26 = .ok (.imul, 1) := by decide +kernel
theorem dL_pass_27 : decode cL_pass 27 = .ok (.iload 10, 2) := by decide +kernel
theorem dL_pass_29 : decode cL_pass 29 = .ok (.iadd, 1) := by decide +kernel
theorem dL_pass_30 : decode cL_pass 30 = .ok (.iaload, 1) := by decide +kernel
theorem dL_pass_31 : decode cL_pass 31 = .ok (.i2l, 1) := by decide +kernel
theorem dL_pass_32 : decode cL_pass 32 = .ok (.lstore 11, 2) := by decide +kernel
theorem dL_pass_34 : decode cL_pass 34 = .ok (.aload_n 0, 1) := by decide +kernel
theorem dL_pass_35 : decode cL_pass 35 = .ok (.aload_n 1, 1) := by decide +kernel
theorem dL_pass_36 : decode cL_pass 36 = .ok (.aload_n 2, 1) := by decide +kernel
theorem dL_pass_37 : decode cL_pass 37 = .ok (.aload_n 3, 1) := by decide +kernel
theorem dL_pass_38 : decode cL_pass 38 = .ok (.aload 4, 2) := by decide +kernel
theorem dL_pass_40 : decode cL_pass 40 = .ok (.aload 5, 2) := by decide +kernel
theorem dL_pass_42 : decode cL_pass 42 = .ok (.aload 6, 2) := by decide +kernel
theorem dL_pass_44 : decode cL_pass 44 = .ok (.iconst 1, 1) := by decide +kernel
theorem dL_pass_45 : decode cL_pass 45 = .ok (.iload 7, 2) := by decide +kernel
theorem dL_pass_47 : decode cL_pass 47 = .ok (.iload 10, 2) := by decide +kernel
theorem dL_pass_49 : decode cL_pass 49 = .ok (.invokestatic 25, 3) := by decide +kernel
theorem dL_pass_52 : decode cL_pass 52 = .ok (.lstore 13, 2) := by decide +kernel
theorem dL_pass_54 : decode cL_pass 54 = .ok (.aload_n 0, 1) := by decide +kernel
theorem dL_pass_55 : decode cL_pass 55 = .ok (.aload_n 1, 1) := by decide +kernel
theorem dL_pass_56 : decode cL_pass 56 = .ok (.aload_n 2, 1) := by decide +kernel
theorem dL_pass_57 : decode cL_pass 57 = .ok (.aload_n 3, 1) := by decide +kernel
theorem dL_pass_58 : decode cL_pass 58 = .ok (.aload 4, 2) := by decide +kernel
theorem dL_pass_60 : decode cL_pass 60 = .ok (.aload 5, 2) := by decide +kernel
theorem dL_pass_62 : decode cL_pass 62 = .ok (.aload 6, 2) := by decide +kernel
theorem dL_pass_64 : decode cL_pass 64 = .ok (.iconst 2, 1) := by decide +kernel
theorem dL_pass_65 : decode cL_pass 65 = .ok (.iload 7, 2) := by decide +kernel
theorem dL_pass_67 : decode cL_pass 67 = .ok (.iload 10, 2) := by decide +kernel
theorem dL_pass_69 : decode cL_pass 69 = .ok (.invokestatic 25, 3) := by decide +kernel
theorem dL_pass_72 : decode cL_pass 72 = .ok (.lstore 15, 2) := by decide +kernel
theorem dL_pass_74 : decode cL_pass 74 = .ok (.lload 13, 2) := by decide +kernel
theorem dL_pass_76 : decode cL_pass 76 = .ok (.lconst 0, 1) := by decide +kernel
theorem dL_pass_77 : decode cL_pass 77 = .ok (.lcmp, 1) := by decide +kernel
theorem dL_pass_78 : decode cL_pass 78 = .ok (.ifCond .eq 113, 3) := by decide +kernel
theorem dL_pass_81 : decode cL_pass 81 = .ok (.lload 15, 2) := by decide +kernel
theorem dL_pass_83 : decode cL_pass 83 = .ok (.lconst 0, 1) := by decide +kernel
theorem dL_pass_84 : decode cL_pass 84 = .ok (.lcmp, 1) := by decide +kernel
theorem dL_pass_85 : decode cL_pass 85 = .ok (.ifCond .eq 106, 3) := by decide +kernel
theorem dL_pass_88 : decode cL_pass 88 = .ok (.lload 11, 2) := by decide +kernel
theorem dL_pass_90 : decode cL_pass 90 = .ok (.aload_n 0, 1) := by decide +kernel
theorem dL_pass_91 : decode cL_pass 91 = .ok (.aload_n 1, 1) := by decide +kernel
theorem dL_pass_92 : decode cL_pass 92 = .ok (.aload_n 2, 1) := by decide +kernel
theorem dL_pass_93 : decode cL_pass 93 = .ok (.aload_n 3, 1) := by decide +kernel
theorem dL_pass_94 : decode cL_pass 94 = .ok (.aload 4, 2) := by decide +kernel
theorem dL_pass_96 : decode cL_pass 96 = .ok (.aload 5, 2) := by decide +kernel
theorem dL_pass_98 : decode cL_pass 98 = .ok (.aload 6, 2) := by decide +kernel
theorem dL_pass_100 : decode cL_pass 100 = .ok (.iconst 0, 1) := by decide +kernel
theorem dL_pass_101 : decode cL_pass 101 = .ok (.iload 7, 2) := by decide +kernel
theorem dL_pass_103 : decode cL_pass 103 = .ok (.iload 10, 2) := by decide +kernel
theorem dL_pass_105 : decode cL_pass 105 = .ok (.invokestatic 25, 3) := by decide +kernel
theorem dL_pass_108 : decode cL_pass 108 = .ok (.lmul, 1) := by decide +kernel
theorem dL_pass_109 : decode cL_pass 109 = .ok (.lload 13, 2) := by decide +kernel
theorem dL_pass_111 : decode cL_pass 111 = .ok (.ldiv, 1) := by decide +kernel
theorem dL_pass_112 : decode cL_pass 112 = .ok (.lload 11, 2) := by decide +kernel
theorem dL_pass_114 : decode cL_pass 114 = .ok (.lsub, 1) := by decide +kernel
theorem dL_pass_115 : decode cL_pass 115 = .ok (.lload 15, 2) := by decide +kernel
theorem dL_pass_117 : decode cL_pass 117 = .ok (.lmul, 1) := by decide +kernel
theorem dL_pass_118 : decode cL_pass 118 = .ok (.lstore 17, 2) := by decide +kernel
theorem dL_pass_120 : decode cL_pass 120 = .ok (.lload 15, 2) := by decide +kernel
theorem dL_pass_122 : decode cL_pass 122 = .ok (.aload 6, 2) := by decide +kernel
theorem dL_pass_124 : decode cL_pass 124 = .ok (.iconst 1, 1) := by decide +kernel
theorem dL_pass_125 : decode cL_pass 125 = .ok (.iaload, 1) := by decide +kernel
theorem dL_pass_126 : decode cL_pass 126 = .ok (.i2l, 1) := by decide +kernel
theorem dL_pass_127 : decode cL_pass 127 = .ok (.ladd, 1) := by decide +kernel
theorem dL_pass_128 : decode cL_pass 128 = .ok (.lstore 19, 2) := by decide +kernel
theorem dL_pass_130 : decode cL_pass 130 = .ok (.lload 11, 2) := by decide +kernel
theorem dL_pass_132 : decode cL_pass 132 = .ok (.lload 17, 2) := by decide +kernel
theorem dL_pass_134 : decode cL_pass 134 = .ok (.lconst 0, 1) := by decide +kernel
theorem dL_pass_135 : decode cL_pass 135 = .ok (.lcmp, 1) := by decide +kernel
theorem dL_pass_136 : decode cL_pass 136 = .ok (.ifCond .ge 13, 3) := by decide +kernel
theorem dL_pass_139 : decode cL_pass 139 = .ok (.lload 17, 2) := by decide +kernel
theorem dL_pass_141 : decode cL_pass 141 = .ok (.lneg, 1) := by decide +kernel
theorem dL_pass_142 : decode cL_pass 142 = .ok (.lload 19, 2) := by decide +kernel
theorem dL_pass_144 : decode cL_pass 144 = .ok (.ldiv, 1) := by decide +kernel
theorem dL_pass_145 : decode cL_pass 145 = .ok (.lneg, 1) := by decide +kernel
theorem dL_pass_146 : decode cL_pass 146 = .ok (.goto 8, 3) := by decide +kernel
theorem dL_pass_149 : decode cL_pass 149 = .ok (.lload 17, 2) := by decide +kernel
theorem dL_pass_151 : decode cL_pass 151 = .ok (.lload 19, 2) := by decide +kernel
theorem dL_pass_153 : decode cL_pass 153 = .ok (.ldiv, 1) := by decide +kernel
theorem dL_pass_154 : decode cL_pass 154 = .ok (.ladd, 1) := by decide +kernel
theorem dL_pass_155 : decode cL_pass 155 = .ok (.lstore 11, 2) := by decide +kernel
theorem dL_pass_157 : decode cL_pass 157 = .ok (.lload 11, 2) := by decide +kernel
theorem dL_pass_159 : decode cL_pass 159 = .ok (.ldc2_w 29, 3) := by decide +kernel
theorem dL_pass_162 : decode cL_pass 162 = .ok (.lcmp, 1) := by decide +kernel
theorem dL_pass_163 : decode cL_pass 163 = .ok (.ifCond .ge 9, 3) := by decide +kernel
theorem dL_pass_166 : decode cL_pass 166 = .ok (.ldc2_w 29, 3) := by decide +kernel
theorem dL_pass_169 : decode cL_pass 169 = .ok (.goto 20, 3) := by decide +kernel

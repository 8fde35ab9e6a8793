theorem dL_capped_38 : decode cL_capped 38 = .ok (.iload 7, 2) := by decide +kernel
theorem dL_capped_40 : decode cL_capped 40 = .ok (.iaload, 1) := by decide +kernel
theorem dL_capped_41 : decode cL_capped 41 = .ok (.ifCond .ge 6, 3) := by decide +kernel
theorem dL_capped_44 : decode cL_capped 44 = .ok (.lload 8, 2) := by decide +kernel
theorem dL_capped_46 : decode cL_capped 46 = .ok (.lreturn, 1) := by decide +kernel
theorem dL_capped_47 : decode cL_capped 47 = .ok (.aload 6, 2) := by decide +kernel
theorem dL_capped_49 : decode cL_capped 49 = .ok (.iconst 2, 1) := by decide +kernel
theorem dL_capped_50 : decode cL_capped 50 = .ok (.iaload, 1) := by decide +kernel
theorem dL_capped_51 : decode cL_capped 51 = .ok (.bipush 100, 2) := by decide +kernel
theorem dL_capped_53 : decode cL_capped 53 = .ok (.if_icmp .le 7, 3) := by decide +kernel
theorem dL_capped_56 : decode cL_capped 56 = .ok (.lconst 0, 1) := by decide +kernel
theorem dL_capped_57 : decode cL_capped 57 = .ok (.goto 22, 3) := by decide +kernel
theorem dL_capped_60 : decode cL_capped 60 = .ok (.ldc2_w 29, 3) := by decide +kernel
theorem dL_capped_63 : decode cL_capped 63 = .ok (.aload 6, 2) := by decide +kernel
theorem dL_capped_65 : decode cL_capped 65 = .ok (.iconst 2, 1) := by decide +kernel
theorem dL_capped_66 : decode cL_capped 66 = .ok (.iaload, 1) := by decide +kernel
theorem dL_capped_67 : decode cL_capped 67 = .ok (.i2l, 1) := by decide +kernel
theorem dL_capped_68 : decode cL_capped 68 = .ok (.lsub, 1) := by decide +kernel
theorem dL_capped_69 : decode cL_capped 69 = .ok (.aload_n 3, 1) := by decide +kernel
theorem dL_capped_70 : decode cL_capped 70 = .ok (.iload 7, 2) := by decide +kernel
theorem dL_capped_72 : decode cL_capped 72 = .ok (.iaload, 1) := by decide +kernel
theorem dL_capped_73 : decode cL_capped 73 = .ok (.i2l, 1) := by decide +kernel
theorem dL_capped_74 : decode cL_capped 74 = .ok (.lmul, 1) := by decide +kernel
theorem dL_capped_75 : decode cL_capped 75 = .ok (.ldc2_w 29, 3) := by decide +kernel
theorem dL_capped_78 : decode cL_capped 78 = .ok (.ldiv, 1) := by decide +kernel
theorem dL_capped_79 : decode cL_capped 79 = .ok (.lstore 10, 2) := by decide +kernel
theorem dL_capped_81 : decode cL_capped 81 = .ok (.ldc2_w 29, 3) := by decide +kernel
theorem dL_capped_84 : decode cL_capped 84 = .ok (.aload 6, 2) := by decide +kernel
theorem dL_capped_86 : decode cL_capped 86 = .ok (.iconst 2, 1) := by decide +kernel
theorem dL_capped_87 : decode cL_capped 87 = .ok (.iaload, 1) := by decide +kernel
theorem dL_capped_88 : decode cL_capped 88 = .ok (.i2l, 1) := by decide +kernel
theorem dL_capped_89 : decode cL_capped 89 = .ok (.ladd, 1) := by decide +kernel
theorem dL_capped_90 : decode cL_capped 90 = .ok (.aload_n 3, 1) := by decide +kernel
theorem dL_capped_91 : decode cL_capped 91 = .ok (.iload 7, 2) := by decide +kernel
theorem dL_capped_93 : decode cL_capped 93 = .ok (.iaload, 1) := by decide +kernel
theorem dL_capped_94 : decode cL_capped 94 = .ok (.i2l, 1) := by decide +kernel
theorem dL_capped_95 : decode cL_capped 95 = .ok (.lmul, 1) := by decide +kernel
theorem dL_capped_96 : decode cL_capped 96 = .ok (.ldc2_w 29, 3) := by decide +kernel
theorem dL_capped_99 : decode cL_capped 99 = .ok (.ldiv, 1) := by decide +kernel
theorem dL_capped_100 : decode cL_capped 100 = .ok (.lstore 12, 2) := by decide +kernel
theorem dL_capped_102 : decode cL_capped 102 = .ok (.lload 8, 2) := by decide +kernel
theorem dL_capped_104 : decode cL_capped 104 = .ok (.lload 10, 2) := by decide +kernel
theorem dL_capped_106 : decode cL_capped 106 = .ok (.lcmp, 1) := by decide +kernel
theorem dL_capped_107 : decode cL_capped 107 = .ok (.ifCond .ge 8, 3) := by decide +kernel
theorem dL_capped_110 : decode cL_capped 110 = .ok (.lload 10, 2) := by decide +kernel
theorem dL_capped_112 : decode cL_capped 112 = .ok (.goto 18, 3) := by decide +kernel
theorem dL_capped_115 : decode cL_capped 115 = .ok (.lload 8, 2) := by decide +kernel
theorem dL_capped_117 : decode cL_capped 117 = .ok (.lload 12, 2) := by decide +kernel
theorem dL_capped_119 : decode cL_capped 119 = .ok (.lcmp, 1) := by decide +kernel
theorem dL_capped_120 : decode cL_capped 120 = .ok (.ifCond .le 8, 3) := by decide +kernel
theorem dL_capped_123 : decode cL_capped 123 = .ok (.lload 12, 2) := by decide +kernel
theorem dL_capped_125 : decode cL_capped 125 = .ok (.goto 5, 3) := by decide +kernel
theorem dL_capped_128 : decode cL_capped 128 = .ok (.lload 8, 2) := by decide +kernel
theorem dL_capped_130 : decode cL_capped 130 = .ok (.lreturn, 1) := by decide +kernel
theorem dL_all_0 : decode cL_all 0 = .ok (.aload_n 1, 1) := by decide +kernel
theorem dL_all_1 : decode cL_all 1 = .ok (.aload_n 2, 1) := by decide +kernel
theorem dL_all_2 : decode cL_all 2 = .ok (.aload 4, 2) := by decide +kernel
theorem dL_all_4 : decode cL_all 4 = .ok (.aload 6, 2) := by decide +kernel
theorem dL_all_6 : decode cL_all 6 = .ok (.invokestatic 11, 3) := by decide +kernel
theorem dL_all_9 : decode cL_all 9 = .ok (.lstore 8, 2) := by decide +kernel
theorem dL_all_11 : decode cL_all 11 = .ok (.lconst 0, 1) := by decide +kernel
theorem dL_all_12 : decode cL_all 12 = .ok (.lstore 10, 2) := by decide +kernel
theorem dL_all_14 : decode cL_all 14 = .ok (.iconst 0, 1) := by decide +kernel
theorem dL_all_15 : decode cL_all 15 = .ok (.istore 12, 2) := by decide +kernel
theorem dL_all_17 : decode cL_all 17 = .ok (.iload 12, 2) := by decide +kernel
theorem dL_all_19 : decode cL_all 19 = .ok (.aload 6, 2) := by decide +kernel
theorem dL_all_21 : decode cL_all 21 = .ok (.iconst 0, 1) := by decide +kernel
theorem dL_all_22 : decode cL_all 22 = .ok (.iaload, 1) := by decide +kernel
theorem dL_all_23 : decode cL_all 23 = .ok (.if_icmp .ge 61, 3) := by decide +kernel
theorem dL_all_26 : decode cL_all 26 = .ok (.lload 10, 2) := by decide +kernel
theorem dL_all_28 : decode cL_all 28 = .ok (.aload 4, 2) := by decide +kernel
theorem dL_all_30 : decode cL_all 30 = .ok (.iload 12, 2) := by decide +kernel
theorem dL_all_32 : decode cL_all 32 = .ok (.iaload, 1) := by decide +kernel
theorem dL_all_33 : decode cL_all 33 = .ok (.iconst 1, 1) := by decide +kernel
theorem dL_all_34 : decode cL_all 34 = .ok (.if_icmp .ne 7, 3) := by decide +kernel
theorem dL_all_37 : decode cL_all 37 = .ok (.lconst 0, 1) := by decide +kernel
theorem dL_all_38 : decode cL_all 38 = .ok (.goto 37, 3) := by decide +kernel
theorem dL_all_41 : decode cL_all 41 = .ok (.iload 7, 2) := by decide +kernel
theorem dL_all_43 : decode cL_all 43 = .ok (.ifCond .eq 21, 3) := by decide +kernel
theorem dL_all_46 : decode cL_all 46 = .ok (.aload_n 0, 1) := by decide +kernel
theorem dL_all_47 : decode cL_all 47 = .ok (.aload_n 1, 1) := by decide +kernel
theorem dL_all_48 : decode cL_all 48 = .ok (.aload_n 2, 1) := by decide +kernel
theorem dL_all_49 : decode cL_all 49 = .ok (.aload_n 3, 1) := by decide +kernel
theorem dL_all_50 : decode cL_all 50 = .ok (.aload 4, 2) := by decide +kernel
theorem dL_all_52 : decode cL_all 52 = .ok (.aload 5, 2) := by decide +kernel
theorem dL_all_54 : decode cL_all 54 = .ok (.aload 6, 2) := by decide +kernel
theorem dL_all_56 : decode cL_all 56 = .ok (.iload 12, 2) := by decide +kernel
theorem dL_all_58 : decode cL_all 58 = .ok (.invokestatic 33, 3) := by decide +kernel
theorem dL_all_61 : decode cL_all 61 = .ok (.goto 14, 3) := by decide +kernel
theorem dL_all_64 : decode cL_all 64 = .ok (.aload_n 0, 1) := by decide +kernel
theorem dL_all_65 : decode cL_all 65 = .ok (.aload_n 1, 1) := by decide +kernel
theorem dL_all_66 : decode cL_all 66 = .ok (.aload 5, 2) := by decide +kernel
theorem dL_all_68 : decode cL_all 68 = .ok (.iload 12, 2) := by decide +kernel
theorem dL_all_70 : decode cL_all 70 = .ok (.lload 8, 2) := by decide +kernel
theorem dL_all_72 : decode cL_all 72 = .ok (.invokestatic 17, 3) := by decide +kernel
theorem dL_all_75 : decode cL_all 75 = .ok (.ladd, 1) := by decide +kernel
theorem dL_all_76 : decode cL_all 76 = .ok (.lstore 10, 2) := by decide +kernel
theorem dL_all_78 : decode cL_all 78 = .ok (.iinc 12 1, 3) := by decide +kernel
theorem dL_all_81 : decode cL_all 81 = .ok (.goto (-64), 3) := by decide +kernel
theorem dL_all_84 : decode cL_all 84 = .ok (.lload 10, 2) := by decide +kernel
theorem dL_all_86 : decode cL_all 86 = .ok (.lreturn, 1) := by decide +kernel
theorem dL_rowTold_0 : decode cL_rowTold 0 = .ok (.iload_n 1, 1) := by decide +kernel
theorem dL_rowTold_1 : decode cL_rowTold 1 = .ok (.ifCond .ne 11, 3) := by decide +kernel
theorem dL_rowTold_4 : decode cL_rowTold 4 = .ok (.aload_n 0, 1) := by decide +kernel
theorem dL_rowTold_5 : decode cL_rowTold 5 = .ok (.iload_n 2, 1) := by decide +kernel
theorem dL_rowTold_6 : decode cL_rowTold 6 = .ok (.invokevirtual 37, 3) := by decide +kernel
theorem dL_rowTold_9 : decode cL_rowTold 9 = .ok (.goto 36, 3) := by decide +kernel
theorem dL_rowTold_12 : decode cL_rowTold 12 = .ok (.iload_n 1, 1) := by decide +kernel
theorem dL_rowTold_13 : decode cL_rowTold 13 = .ok (.iconst 1, 1) := by decide +kernel
theorem dL_rowTold_14 : decode cL_rowTold 14 = .ok (.if_icmp .ne 11, 3) := by decide +kernel
theorem dL_rowTold_17 : decode cL_rowTold 17 = .ok (.aload_n 0, 1) := by decide +kernel
theorem dL_rowTold_18 : decode cL_rowTold 18 = .ok (.iload_n 2, 1) := by decide +kernel
theorem dL_rowTold_19 : decode cL_rowTold 19 = .ok (.invokevirtual 42, 3) := by decide +kernel
theorem dL_rowTold_22 : decode cL_rowTold 22 = .ok (.goto 23, 3) := by decide +kernel
theorem dL_rowTold_25 : decode cL_rowTold 25 = .ok (.iload_n 1, 1) := by decide +kernel
theorem dL_rowTold_26 : decode cL_rowTold 26 = .ok (.iconst 2, 1) := by decide +kernel
theorem dL_rowTold_27 : decode cL_rowTold 27 = .ok (.if_icmp .ne 11, 3) := by decide +kernel
theorem dL_rowTold_30 : decode cL_rowTold 30 = .ok (.aload_n 0, 1) := by decide +kernel
theorem dL_rowTold_31 : decode cL_rowTold 31 = .ok (.iload_n 2, 1) := by decide +kernel
theorem dL_rowTold_32 : decode cL_rowTold 32 = .ok (.invokevirtual 45, 3) := by decide +kernel
theorem dL_rowTold_35 : decode cL_rowTold 35 = .ok (.goto 10, 3) := by decide +kernel
theorem dL_rowTold_38 : decode cL_rowTold 38 = .ok (.aload_n 0, 1) := by decide +kernel
theorem dL_rowTold_39 : decode cL_rowTold 39 = .ok (.iload_n 2, 1) := by decide +kernel
theorem dL_rowTold_40 : decode cL_rowTold 40 = .ok (.iconst (-1), 1) := by decide +kernel
theorem dL_rowTold_41 : decode cL_rowTold 41 = .ok (.invokevirtual 47, 3) := by decide +kernel
theorem dL_rowTold_44 : decode cL_rowTold 44 = .ok (.i2l, 1) := by decide +kernel
theorem dL_rowTold_45 : decode cL_rowTold 45 = .ok (.lreturn, 1) := by decide +kernel
theorem dL_rowTold_46 : decode cL_rowTold 46 = .ok (.astore_n 3, 1) := by decide +kernel
theorem dL_rowTold_47 : decode cL_rowTold 47 = .ok (.ldc2_w 53, 3) := by decide +kernel
theorem dL_rowTold_50 : decode cL_rowTold 50 = .ok (.lreturn, 1) := by decide +kernel
theorem dL_isRanked_0 : decode cL_isRanked 0 = .ok (.aload_n 2, 1) := by decide +kernel
theorem dL_isRanked_1 : decode cL_isRanked 1 = .ok (.aload_n 3, 1) := by decide +kernel
theorem dL_isRanked_2 : decode cL_isRanked 2 = .ok (.aload 4, 2) := by decide +kernel
theorem dL_isRanked_4 : decode cL_isRanked 4 = .ok (.aload 6, 2) := by decide +kernel
theorem dL_isRanked_6 : decode cL_isRanked 6 = .ok (.invokestatic 11, 3) := by decide +kernel
theorem dL_isRanked_9 : decode cL_isRanked 9 = .ok (.lstore 8, 2) := by decide +kernel
theorem dL_isRanked_11 : decode cL_isRanked 11 = .ok (.iconst 0, 1) := by decide +kernel
theorem dL_isRanked_12 : decode cL_isRanked 12 = .ok (.istore 10, 2) := by decide +kernel
theorem dL_isRanked_14 : decode cL_isRanked 14 = .ok (.iconst 1, 1) := by decide +kernel
theorem dL_isRanked_15 : decode cL_isRanked 15 = .ok (.istore 11, 2) := by decide +kernel
theorem dL_isRanked_17 : decode cL_isRanked 17 = .ok (.iconst 0, 1) := by decide +kernel
theorem dL_isRanked_18 : decode cL_isRanked 18 = .ok (.istore 12, 2) := by decide +kernel
theorem dL_isRanked_20 : decode cL_isRanked 20 = .ok (.iload 12, 2) := by decide +kernel
theorem dL_isRanked_22 : decode cL_isRanked 22 = .ok (.iload 7, 2) := by decide +kernel
theorem dL_isRanked_24 : decode cL_isRanked 24 = .ok (.if_icmp .ge 148, 3) := by decide +kernel
theorem dL_isRanked_27 : decode cL_isRanked 27 = .ok (.iload 11, 2) := by decide +kernel
theorem dL_isRanked_29 : decode cL_isRanked 29 = .ok (.ifCond .eq 143, 3) := by decide +kernel
theorem dL_isRanked_32 : decode cL_isRanked 32 = .ok (.iconst (-1), 1) := by decide +kernel
theorem dL_isRanked_33 : decode cL_isRanked 33 = .ok (.istore 13, 2) := by decide +kernel
theorem dL_isRanked_35 : decode cL_isRanked 35 = .ok (.iconst 0, 1) := by decide +kernel
theorem dL_isRanked_36 : decode cL_isRanked 36 = .ok (.istore 14, 2) := by decide +kernel
theorem dL_isRanked_38 : decode cL_isRanked 38 = .ok (.iload 14, 2) := by decide +kernel
theorem dL_isRanked_40 : decode cL_isRanked 40 = .ok (.aload 6, 2) := by decide +kernel
theorem dL_isRanked_42 : decode cL_isRanked 42 = .ok (.iconst 0, 1) := by decide +kernel
theorem dL_isRanked_43 : decode cL_isRanked 43 = .ok (.iaload, 1) := by decide +kernel
theorem dL_isRanked_44 : decode cL_isRanked 44 = .ok (.if_icmp .ge 95, 3) := by decide +kernel
theorem dL_isRanked_47 : decode cL_isRanked 47 = .ok (.aload 4, 2) := by decide +kernel
theorem dL_isRanked_49 : decode cL_isRanked 49 = .ok (.iload 14, 2) := by decide +kernel
theorem dL_isRanked_51 : decode cL_isRanked 51 = .ok (.iaload, 1) := by decide +kernel
theorem dL_isRanked_52 : decode cL_isRanked 52 = .ok (.ifCond .ne 81, 3) := by decide +kernel
theorem dL_isRanked_55 : decode cL_isRanked 55 = .ok (.iload 10, 2) := by decide +kernel
theorem dL_isRanked_57 : decode cL_isRanked 57 = .ok (.iload 14, 2) := by decide +kernel
theorem dL_isRanked_59 : decode cL_isRanked 59 = .ok (.ishr, 1) := by decide +kernel
theorem dL_isRanked_60 : decode cL_isRanked 60 = .ok (.iconst 1, 1) := by decide +kernel
theorem dL_isRanked_61 : decode cL_isRanked 61 = .ok (.iand, 1) := by decide +kernel
theorem dL_isRanked_62 : decode cL_isRanked 62 = .ok (.ifCond .ne 71, 3) := by decide +kernel
theorem dL_isRanked_65 : decode cL_isRanked 65 = .ok (.iload 13, 2) := by decide +kernel
theorem dL_isRanked_67 : decode cL_isRanked 67 = .ok (.ifCond .lt 45, 3) := by decide +kernel
theorem dL_isRanked_70 : decode cL_isRanked 70 = .ok (.aload_n 3, 1) := by decide +kernel
theorem dL_isRanked_71 : decode cL_isRanked 71 = .ok (.iload 14, 2) := by decide +kernel
theorem dL_isRanked_73 : decode cL_isRanked 73 = .ok (.iaload, 1) := by decide +kernel
theorem dL_isRanked_74 : decode cL_isRanked 74 = .ok (.i2l, 1) := by decide +kernel
theorem dL_isRanked_75 : decode cL_isRanked 75 = .ok (.aload_n 1, 1) := by decide +kernel
theorem dL_isRanked_76 : decode cL_isRanked 76 = .ok (.aload_n 2, 1) := by decide +kernel
theorem dL_isRanked_77 : decode cL_isRanked 77 = .ok (.aload 5, 2) := by decide +kernel
theorem dL_isRanked_79 : decode cL_isRanked 79 = .ok (.iload 13, 2) := by decide +kernel
theorem dL_isRanked_81 : decode cL_isRanked 81 = .ok (.lload 8, 2) := by decide +kernel
theorem dL_isRanked_83 : decode cL_isRanked 83 = .ok (.invokestatic 17, 3) := by decide +kernel
theorem dL_isRanked_86 : decode cL_isRanked 86 = .ok (.lconst 1, 1) := by decide +kernel
theorem dL_isRanked_87 : decode cL_isRanked 87 = .ok (.ladd, 1) := by decide +kernel
theorem dL_isRanked_88 : decode cL_isRanked 88 = .ok (.lmul, 1) := by decide +kernel
theorem dL_isRanked_89 : decode cL_isRanked 89 = .ok (.aload_n 3, 1) := by decide +kernel
theorem dL_isRanked_90 : decode cL_isRanked 90 = .ok (.iload 13, 2) := by decide +kernel
theorem dL_isRanked_92 : decode cL_isRanked 92 = .ok (.iaload, 1) := by decide +kernel
theorem dL_isRanked_93 : decode cL_isRanked 93 = .ok (.i2l, 1) := by decide +kernel
theorem dL_isRanked_94 : decode cL_isRanked 94 = .ok (.aload_n 1, 1) := by decide +kernel
theorem dL_isRanked_95 : decode cL_isRanked 95 = .ok (.aload_n 2, 1) := by decide +kernel
theorem dL_isRanked_96 : decode cL_isRanked 96 = .ok (.aload 5, 2) := by decide +kernel
theorem dL_isRanked_98 : decode cL_isRanked 98 = .ok (.iload 14, 2) := by decide +kernel
theorem dL_isRanked_100 : decode cL_isRanked 100 = .ok (.lload 8, 2) := by decide +kernel
theorem dL_isRanked_102 : decode cL_isRanked 102 = .ok (.invokestatic 17, 3) := by decide +kernel
theorem dL_isRanked_105 : decode cL_isRanked 105 = .ok (.lconst 1, 1) := by decide +kernel
theorem dL_isRanked_106 : decode cL_isRanked 106 = .ok (.ladd, 1) := by decide +kernel
theorem dL_isRanked_107 : decode cL_isRanked 107 = .ok (.lmul, 1) := by decide +kernel
theorem dL_isRanked_108 : decode cL_isRanked 108 = .ok (.lcmp, 1) := by decide +kernel
theorem dL_isRanked_109 : decode cL_isRanked 109 = .ok (.ifCond .le 7, 3) := by decide +kernel
theorem dL_isRanked_112 : decode cL_isRanked 112 = .ok (.iconst 1, 1) := by decide +kernel
theorem dL_isRanked_113 : decode cL_isRanked 113 = .ok (.goto 4, 3) := by decide +kernel
theorem dL_isRanked_116 : decode cL_isRanked 116 = .ok (.iconst 0, 1) := by decide +kernel
theorem dL_isRanked_117 : decode cL_isRanked 117 = .ok (.istore 15, 2) := by decide +kernel
theorem dL_isRanked_119 : decode cL_isRanked 119 = .ok (.iload 15, 2) := by decide +kernel
theorem dL_isRanked_121 : decode cL_isRanked 121 = .ok (.ifCond .eq 8, 3) := by decide +kernel
theorem dL_isRanked_124 : decode cL_isRanked 124 = .ok (.iload 14, 2) := by decide +kernel
theorem dL_isRanked_126 : decode cL_isRanked 126 = .ok (.goto 5, 3) := by decide +kernel
theorem dL_isRanked_129 : decode cL_isRanked 129 = .ok (.iload 13, 2) := by decide +kernel
theorem dL_isRanked_131 : decode cL_isRanked 131 = .ok (.istore 13, 2) := by decide +kernel
theorem dL_isRanked_133 : decode cL_isRanked 133 = .ok (.iinc 14 1, 3) := by decide +kernel
theorem dL_isRanked_136 : decode cL_isRanked 136 = .ok (.goto (-98), 3) := by decide +kernel
theorem dL_isRanked_139 : decode cL_isRanked 139 = .ok (.iload 10, 2) := by decide +kernel
theorem dL_isRanked_141 : decode cL_isRanked 141 = .ok (.iconst 1, 1) := by decide +kernel
theorem dL_isRanked_142 : decode cL_isRanked 142 = .ok (.iload 13, 2) := by decide +kernel
theorem dL_isRanked_144 : decode cL_isRanked 144 = .ok (.ishl, 1) := by decide +kernel
theorem dL_isRanked_145 : decode cL_isRanked 145 = .ok (.ior, 1) := by decide +kernel
theorem dL_isRanked_146 : decode cL_isRanked 146 = .ok (.istore 10, 2) := by decide +kernel
theorem dL_isRanked_148 : decode cL_isRanked 148 = .ok (.aload_n 0, 1) := by decide +kernel
theorem dL_isRanked_149 : decode cL_isRanked 149 = .ok (.iload 12, 2) := by decide +kernel
theorem dL_isRanked_151 : decode cL_isRanked 151 = .ok (.invokevirtual 55, 3) := by decide +kernel
theorem dL_isRanked_154 : decode cL_isRanked 154 = .ok (.iload 13, 2) := by decide +kernel
theorem dL_isRanked_156 : decode cL_isRanked 156 = .ok (.if_icmp .ne 7, 3) := by decide +kernel
theorem dL_isRanked_159 : decode cL_isRanked 159 = .ok (.iconst 1, 1) := by decide +kernel
theorem dL_isRanked_160 : decode cL_isRanked 160 = .ok (.goto 4, 3) := by decide +kernel
theorem dL_isRanked_163 : decode cL_isRanked 163 = .ok (.iconst 0, 1) := by decide +kernel
theorem dL_isRanked_164 : decode cL_isRanked 164 = .ok (.istore 11, 2) := by decide +kernel
theorem dL_isRanked_166 : decode cL_isRanked 166 = .ok (.iinc 12 1, 3) := by decide +kernel
theorem dL_isRanked_169 : decode cL_isRanked 169 = .ok (.goto (-149), 3) := by decide +kernel
theorem dL_isRanked_172 : decode cL_isRanked 172 = .ok (.iload 11, 2) := by decide +kernel
theorem dL_isRanked_174 : decode cL_isRanked 174 = .ok (.ireturn, 1) := by decide +kernel
theorem dL_isTold_0 : decode cL_isTold 0 = .ok (.iconst 0, 1) := by decide +kernel
theorem dL_isTold_1 : decode cL_isTold 1 = .ok (.istore 9, 2) := by decide +kernel
theorem dL_isTold_3 : decode cL_isTold 3 = .ok (.aload_n 2, 1) := by decide +kernel
theorem dL_isTold_4 : decode cL_isTold 4 = .ok (.aload 4, 2) := by decide +kernel
theorem dL_isTold_6 : decode cL_isTold 6 = .ok (.aload 6, 2) := by decide +kernel
theorem dL_isTold_8 : decode cL_isTold 8 = .ok (.aload 8, 2) := by decide +kernel
theorem dL_isTold_10 : decode cL_isTold 10 = .ok (.invokestatic 11, 3) := by decide +kernel
theorem dL_isTold_13 : decode cL_isTold 13 = .ok (.lstore 10, 2) := by decide +kernel
theorem dL_isTold_15 : decode cL_isTold 15 = .ok (.aload_n 0, 1) := by decide +kernel
theorem dL_isTold_16 : decode cL_isTold 16 = .ok (.invokevirtual 58, 3) := by decide +kernel
theorem dL_isTold_19 : decode cL_isTold 19 = .ok (.lload 10, 2) := by decide +kernel
theorem dL_isTold_21 : decode cL_isTold 21 = .ok (.lcmp, 1) := by decide +kernel
theorem dL_isTold_22 : decode cL_isTold 22 = .ok (.ifCond .ne 48, 3) := by decide +kernel
theorem dL_isTold_25 : decode cL_isTold 25 = .ok (.aload_n 0, 1) := by decide +kernel
theorem dL_isTold_26 : decode cL_isTold 26 = .ok (.invokevirtual 61, 3) := by decide +kernel
theorem dL_isTold_29 : decode cL_isTold 29 = .ok (.aload_n 1, 1) := by decide +kernel
theorem dL_isTold_30 : decode cL_isTold 30 = .ok (.aload_n 2, 1) := by decide +kernel
theorem dL_isTold_31 : decode cL_isTold 31 = .ok (.aload 4, 2) := by decide +kernel
theorem dL_isTold_33 : decode cL_isTold 33 = .ok (.aload 5, 2) := by decide +kernel
theorem dL_isTold_35 : decode cL_isTold 35 = .ok (.aload 6, 2) := by decide +kernel
theorem dL_isTold_37 : decode cL_isTold 37 = .ok (.aload 7, 2) := by decide +kernel
theorem dL_isTold_39 : decode cL_isTold 39 = .ok (.aload 8, 2) := by decide +kernel
theorem dL_isTold_41 : decode cL_isTold 41 = .ok (.iconst 0, 1) := by decide +kernel
theorem dL_isTold_42 : decode cL_isTold 42 = .ok (.invokestatic 64, 3) := by decide +kernel
theorem dL_isTold_45 : decode cL_isTold 45 = .ok (.aload_n 1, 1) := by decide +kernel
theorem dL_isTold_46 : decode cL_isTold 46 = .ok (.aload_n 2, 1) := by decide +kernel
theorem dL_isTold_47 : decode cL_isTold 47 = .ok (.aload 4, 2) := by decide +kernel
theorem dL_isTold_49 : decode cL_isTold 49 = .ok (.aload 5, 2) := by decide +kernel
theorem dL_isTold_51 : decode cL_isTold 51 = .ok (.aload 6, 2) := by decide +kernel
theorem dL_isTold_53 : decode cL_isTold 53 = .ok (.aload 7, 2) := by decide +kernel
theorem dL_isTold_55 : decode cL_isTold 55 = .ok (.aload 8, 2) := by decide +kernel
theorem dL_isTold_57 : decode cL_isTold 57 = .ok (.iconst 1, 1) := by decide +kernel
theorem dL_isTold_58 : decode cL_isTold 58 = .ok (.invokestatic 64, 3) := by decide +kernel
theorem dL_isTold_61 : decode cL_isTold 61 = .ok (.lsub, 1) := by decide +kernel
theorem dL_isTold_62 : decode cL_isTold 62 = .ok (.lcmp, 1) := by decide +kernel
theorem dL_isTold_63 : decode cL_isTold 63 = .ok (.ifCond .ne 7, 3) := by decide +kernel
theorem dL_isTold_66 : decode cL_isTold 66 = .ok (.iconst 1, 1) := by decide +kernel
theorem dL_isTold_67 : decode cL_isTold 67 = .ok (.goto 4, 3) := by decide +kernel
theorem dL_isTold_70 : decode cL_isTold 70 = .ok (.iconst 0, 1) := by decide +kernel
theorem dL_isTold_71 : decode cL_isTold 71 = .ok (.istore 12, 2) := by decide +kernel
theorem dL_isTold_73 : decode cL_isTold 73 = .ok (.iconst 0, 1) := by decide +kernel
theorem dL_isTold_74 : decode cL_isTold 74 = .ok (.istore 13, 2) := by decide +kernel
theorem dL_isTold_76 : decode cL_isTold 76 = .ok (.iload 13, 2) := by decide +kernel
theorem dL_isTold_78 : decode cL_isTold 78 = .ok (.aload 8, 2) := by decide +kernel
theorem dL_isTold_80 : decode cL_isTold 80 = .ok (.iconst 0, 1) := by decide +kernel
theorem dL_isTold_81 : decode cL_isTold 81 = .ok (.iaload, 1) := by decide +kernel
theorem dL_isTold_82 : decode cL_isTold 82 = .ok (.if_icmp .ge 155, 3) := by decide +kernel
theorem dL_isTold_85 : decode cL_isTold 85 = .ok (.iload 12, 2) := by decide +kernel
theorem dL_isTold_87 : decode cL_isTold 87 = .ok (.ifCond .eq 150, 3) := by decide +kernel
theorem dL_isTold_90 : decode cL_isTold 90 = .ok (.aload_n 1, 1) := by decide +kernel
theorem dL_isTold_91 : decode cL_isTold 91 = .ok (.aload_n 2, 1) := by decide +kernel
theorem dL_isTold_92 : decode cL_isTold 92 = .ok (.aload 7, 2) := by decide +kernel
theorem dL_isTold_94 : decode cL_isTold 94 = .ok (.iload 13, 2) := by decide +kernel
theorem dL_isTold_96 : decode cL_isTold 96 = .ok (.lload 10, 2) := by decide +kernel
theorem dL_isTold_98 : decode cL_isTold 98 = .ok (.invokestatic 17, 3) := by decide +kernel
theorem dL_isTold_101 : decode cL_isTold 101 = .ok (.lstore 14, 2) := by decide +kernel
theorem dL_isTold_103 : decode cL_isTold 103 = .ok (.iload 9, 2) := by decide +kernel
theorem dL_isTold_105 : decode cL_isTold 105 = .ok (.iconst 1, 1) := by decide +kernel
theorem dL_isTold_106 : decode cL_isTold 106 = .ok (.aload 6, 2) := by decide +kernel
theorem dL_isTold_108 : decode cL_isTold 108 = .ok (.iload 13, 2) := by decide +kernel
theorem dL_isTold_110 : decode cL_isTold 110 = .ok (.iaload, 1) := by decide +kernel
theorem dL_isTold_111 : decode cL_isTold 111 = .ok (.isub, 1) := by decide +kernel
theorem dL_isTold_112 : decode cL_isTold 112 = .ok (.iadd, 1) := by decide +kernel
theorem dL_isTold_113 : decode cL_isTold 113 = .ok (.istore 9, 2) := by decide +kernel
theorem dL_isTold_115 : decode cL_isTold 115 = .ok (.aload_n 0, 1) := by decide +kernel
theorem dL_isTold_116 : decode cL_isTold 116 = .ok (.iconst 0, 1) := by decide +kernel
theorem dL_isTold_117 : decode cL_isTold 117 = .ok (.iload 13, 2) := by decide +kernel
theorem dL_isTold_119 : decode cL_isTold 119 = .ok (.invokestatic 68, 3) := by decide +kernel
theorem dL_isTold_122 : decode cL_isTold 122 = .ok (.aload 6, 2) := by decide +kernel
theorem dL_isTold_124 : decode cL_isTold 124 = .ok (.iload 13, 2) := by decide +kernel
theorem dL_isTold_126 : decode cL_isTold 126 = .ok (.iaload, 1) := by decide +kernel
theorem dL_isTold_127 : decode cL_isTold 127 = .ok (.iconst 1, 1) := by decide +kernel
theorem dL_isTold_128 : decode cL_isTold 128 = .ok (.if_icmp .ne 9, 3) := by decide +kernel
theorem dL_isTold_131 : decode cL_isTold 131 = .ok (.ldc2_w 53, 3) := by decide +kernel
theorem dL_isTold_134 : decode cL_isTold 134 = .ok (.goto 5, 3) := by decide +kernel
theorem dL_isTold_137 : decode cL_isTold 137 = .ok (.lload 14, 2) := by decide +kernel
theorem dL_isTold_139 : decode cL_isTold 139 = .ok (.lcmp, 1) := by decide +kernel
theorem dL_isTold_140 : decode cL_isTold 140 = .ok (.ifCond .ne 88, 3) := by decide +kernel
theorem dL_isTold_143 : decode cL_isTold 143 = .ok (.aload_n 0, 1) := by decide +kernel
theorem dL_isTold_144 : decode cL_isTold 144 = .ok (.iconst 1, 1) := by decide +kernel
theorem dL_isTold_145 : decode cL_isTold 145 = .ok (.iload 13, 2) := by decide +kernel
theorem dL_isTold_147 : decode cL_isTold 147 = .ok (.invokestatic 68, 3) := by decide +kernel
theorem dL_isTold_150 : decode cL_isTold 150 = .ok (.aload 6, 2) := by decide +kernel
theorem dL_isTold_152 : decode cL_isTold 152 = .ok (.iload 13, 2) := by decide +kernel
theorem dL_isTold_154 : decode cL_isTold 154 = .ok (.iaload, 1) := by decide +kernel
theorem dL_isTold_155 : decode cL_isTold 155 = .ok (.iconst 1, 1) := by decide +kernel
theorem dL_isTold_156 : decode cL_isTold 156 = .ok (.if_icmp .ne 9, 3) := by decide +kernel
theorem dL_isTold_159 : decode cL_isTold 159 = .ok (.ldc2_w 53, 3) := by decide +kernel
theorem dL_isTold_162 : decode cL_isTold 162 = .ok (.goto 15, 3) := by decide +kernel
theorem dL_isTold_165 : decode cL_isTold 165 = .ok (.lload 14, 2) := by decide +kernel
theorem dL_isTold_167 : decode cL_isTold 167 = .ok (.aload 8, 2) := by decide +kernel
theorem dL_isTold_169 : decode cL_isTold 169 = .ok (.iconst 3, 1) := by decide +kernel
theorem dL_isTold_170 : decode cL_isTold 170 = .ok (.iaload, 1) := by decide +kernel

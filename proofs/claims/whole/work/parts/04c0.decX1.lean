theorem dX1_init_0 : decode cX1_init 0 = .ok (.aload_n 0, 1) := by decide +kernel
theorem dX1_init_1 : decode cX1_init 1 = .ok (.invokespecial 1, 3) := by decide +kernel
theorem dX1_init_4 : decode cX1_init 4 = .ok (.aload_n 0, 1) := by decide +kernel
theorem dX1_init_5 : decode cX1_init 5 = .ok (.bipush 120, 2) := by decide +kernel
theorem dX1_init_7 : decode cX1_init 7 = .ok (.newarray .int, 2) := by decide +kernel
theorem dX1_init_9 : decode cX1_init 9 = .ok (.putfield 7, 3) := by decide +kernel
theorem dX1_init_12 : decode cX1_init 12 = .ok (.aload_n 0, 1) := by decide +kernel
theorem dX1_init_13 : decode cX1_init 13 = .ok (.bipush 40, 2) := by decide +kernel
theorem dX1_init_15 : decode cX1_init 15 = .ok (.newarray .int, 2) := by decide +kernel
theorem dX1_init_17 : decode cX1_init 17 = .ok (.putfield 13, 3) := by decide +kernel
theorem dX1_init_20 : decode cX1_init 20 = .ok (.aload_n 0, 1) := by decide +kernel
theorem dX1_init_21 : decode cX1_init 21 = .ok (.bipush 40, 2) := by decide +kernel
theorem dX1_init_23 : decode cX1_init 23 = .ok (.newarray .int, 2) := by decide +kernel
theorem dX1_init_25 : decode cX1_init 25 = .ok (.putfield 16, 3) := by decide +kernel
theorem dX1_init_28 : decode cX1_init 28 = .ok (.aload_n 0, 1) := by decide +kernel
theorem dX1_init_29 : decode cX1_init 29 = .ok (.bipush 40, 2) := by decide +kernel
theorem dX1_init_31 : decode cX1_init 31 = .ok (.newarray .int, 2) := by decide +kernel
theorem dX1_init_33 : decode cX1_init 33 = .ok (.putfield 19, 3) := by decide +kernel
theorem dX1_init_36 : decode cX1_init 36 = .ok (.aload_n 0, 1) := by decide +kernel
theorem dX1_init_37 : decode cX1_init 37 = .ok (.bipush 40, 2) := by decide +kernel
theorem dX1_init_39 : decode cX1_init 39 = .ok (.newarray .int, 2) := by decide +kernel
theorem dX1_init_41 : decode cX1_init 41 = .ok (.putfield 22, 3) := by decide +kernel
theorem dX1_init_44 : decode cX1_init 44 = .ok (.aload_n 0, 1) := by decide +kernel
theorem dX1_init_45 : decode cX1_init 45 = .ok (.bipush 40, 2) := by decide +kernel
theorem dX1_init_47 : decode cX1_init 47 = .ok (.newarray .boolean, 2) := by decide +kernel
theorem dX1_init_49 : decode cX1_init 49 = .ok (.putfield 25, 3) := by decide +kernel
theorem dX1_init_52 : decode cX1_init 52 = .ok (.aload_n 0, 1) := by decide +kernel
theorem dX1_init_53 : decode cX1_init 53 = .ok (.iconst (-1), 1) := by decide +kernel
theorem dX1_init_54 : decode cX1_init 54 = .ok (.putfield 29, 3) := by decide +kernel
theorem dX1_init_57 : decode cX1_init 57 = .ok (.aload_n 0, 1) := by decide +kernel
theorem dX1_init_58 : decode cX1_init 58 = .ok (.ldc2_w 33, 3) := by decide +kernel
theorem dX1_init_61 : decode cX1_init 61 = .ok (.putfield 35, 3) := by decide +kernel
theorem dX1_init_64 : decode cX1_init 64 = .ok (.aload_n 0, 1) := by decide +kernel
theorem dX1_init_65 : decode cX1_init 65 = .ok (.bipush 12, 2) := by decide +kernel
theorem dX1_init_67 : decode cX1_init 67 = .ok (.newarray .int, 2) := by decide +kernel
theorem dX1_init_69 : decode cX1_init 69 = .ok (.putfield 39, 3) := by decide +kernel
theorem dX1_init_72 : decode cX1_init 72 = .ok (.aload_n 0, 1) := by decide +kernel
theorem dX1_init_73 : decode cX1_init 73 = .ok (.iconst 4, 1) := by decide +kernel
theorem dX1_init_74 : decode cX1_init 74 = .ok (.newarray .int, 2) := by decide +kernel
theorem dX1_init_76 : decode cX1_init 76 = .ok (.putfield 42, 3) := by decide +kernel
theorem dX1_init_79 : decode cX1_init 79 = .ok (.aload_n 0, 1) := by decide +kernel
theorem dX1_init_80 : decode cX1_init 80 = .ok (.iconst 4, 1) := by decide +kernel
theorem dX1_init_81 : decode cX1_init 81 = .ok (.newarray .int, 2) := by decide +kernel
theorem dX1_init_83 : decode cX1_init 83 = .ok (.putfield 45, 3) := by decide +kernel
theorem dX1_init_86 : decode cX1_init 86 = .ok (.iconst 0, 1) := by decide +kernel
theorem dX1_init_87 : decode cX1_init 87 = .ok (.istore_n 1, 1) := by decide +kernel
theorem dX1_init_88 : decode cX1_init 88 = .ok (.iload_n 1, 1) := by decide +kernel
theorem dX1_init_89 : decode cX1_init 89 = .ok (.bipush 12, 2) := by decide +kernel
theorem dX1_init_91 : decode cX1_init 91 = .ok (.if_icmp .ge 18, 3) := by decide +kernel
theorem dX1_init_94 : decode cX1_init 94 = .ok (.aload_n 0, 1) := by decide +kernel
theorem dX1_init_95 : decode cX1_init 95 = .ok (.getfield 39, 3) := by decide +kernel
theorem dX1_init_98 : decode cX1_init 98 = .ok (.iload_n 1, 1) := by decide +kernel
theorem dX1_init_99 : decode cX1_init 99 = .ok (.sipush 10000, 3) := by decide +kernel
theorem dX1_init_102 : decode cX1_init 102 = .ok (.iastore, 1) := by decide +kernel
theorem dX1_init_103 : decode cX1_init 103 = .ok (.iinc 1 1, 3) := by decide +kernel
theorem dX1_init_106 : decode cX1_init 106 = .ok (.goto (-18), 3) := by decide +kernel
theorem dX1_init_109 : decode cX1_init 109 = .ok (.return_, 1) := by decide +kernel
theorem dX1_thrown_0 : decode cX1_thrown 0 = .ok (.aload_n 0, 1) := by decide +kernel
theorem dX1_thrown_1 : decode cX1_thrown 1 = .ok (.getfield 48, 3) := by decide +kernel
theorem dX1_thrown_4 : decode cX1_thrown 4 = .ok (.ireturn, 1) := by decide +kernel
theorem dX1_in_0 : decode cX1_in 0 = .ok (.iload_n 0, 1) := by decide +kernel
theorem dX1_in_1 : decode cX1_in 1 = .ok (.iload_n 1, 1) := by decide +kernel
theorem dX1_in_2 : decode cX1_in 2 = .ok (.if_icmp .lt 12, 3) := by decide +kernel
theorem dX1_in_5 : decode cX1_in 5 = .ok (.iload_n 0, 1) := by decide +kernel
theorem dX1_in_6 : decode cX1_in 6 = .ok (.iload_n 2, 1) := by decide +kernel
theorem dX1_in_7 : decode cX1_in 7 = .ok (.if_icmp .gt 7, 3) := by decide +kernel
theorem dX1_in_10 : decode cX1_in 10 = .ok (.iconst 1, 1) := by decide +kernel
theorem dX1_in_11 : decode cX1_in 11 = .ok (.goto 4, 3) := by decide +kernel
theorem dX1_in_14 : decode cX1_in 14 = .ok (.iconst 0, 1) := by decide +kernel
theorem dX1_in_15 : decode cX1_in 15 = .ok (.ireturn, 1) := by decide +kernel
theorem dX1_goes_0 : decode cX1_goes 0 = .ok (.aload_n 0, 1) := by decide +kernel
theorem dX1_goes_1 : decode cX1_goes 1 = .ok (.iload_n 1, 1) := by decide +kernel
theorem dX1_goes_2 : decode cX1_goes 2 = .ok (.ifCond .ne 7, 3) := by decide +kernel
theorem dX1_goes_5 : decode cX1_goes 5 = .ok (.iconst 1, 1) := by decide +kernel
theorem dX1_goes_6 : decode cX1_goes 6 = .ok (.goto 20, 3) := by decide +kernel
theorem dX1_goes_9 : decode cX1_goes 9 = .ok (.iload_n 2, 1) := by decide +kernel
theorem dX1_goes_10 : decode cX1_goes 10 = .ok (.ifCond .ne 7, 3) := by decide +kernel
theorem dX1_goes_13 : decode cX1_goes 13 = .ok (.iconst 2, 1) := by decide +kernel
theorem dX1_goes_14 : decode cX1_goes 14 = .ok (.goto 12, 3) := by decide +kernel
theorem dX1_goes_17 : decode cX1_goes 17 = .ok (.iload_n 3, 1) := by decide +kernel
theorem dX1_goes_18 : decode cX1_goes 18 = .ok (.ifCond .eq 7, 3) := by decide +kernel
theorem dX1_goes_21 : decode cX1_goes 21 = .ok (.iconst 0, 1) := by decide +kernel
theorem dX1_goes_22 : decode cX1_goes 22 = .ok (.goto 4, 3) := by decide +kernel
theorem dX1_goes_25 : decode cX1_goes 25 = .ok (.iconst 3, 1) := by decide +kernel
theorem dX1_goes_26 : decode cX1_goes 26 = .ok (.putfield 48, 3) := by decide +kernel
theorem dX1_goes_29 : decode cX1_goes 29 = .ok (.aload_n 0, 1) := by decide +kernel
theorem dX1_goes_30 : decode cX1_goes 30 = .ok (.getfield 48, 3) := by decide +kernel
theorem dX1_goes_33 : decode cX1_goes 33 = .ok (.ifCond .ne 7, 3) := by decide +kernel
theorem dX1_goes_36 : decode cX1_goes 36 = .ok (.iconst 1, 1) := by decide +kernel
theorem dX1_goes_37 : decode cX1_goes 37 = .ok (.goto 4, 3) := by decide +kernel
theorem dX1_goes_40 : decode cX1_goes 40 = .ok (.iconst 0, 1) := by decide +kernel
theorem dX1_goes_41 : decode cX1_goes 41 = .ok (.ireturn, 1) := by decide +kernel
theorem dX1_levelsOf_0 : decode cX1_levelsOf 0 = .ok (.iload_n 0, 1) := by decide +kernel
theorem dX1_levelsOf_1 : decode cX1_levelsOf 1 = .ok (.iconst 1, 1) := by decide +kernel
theorem dX1_levelsOf_2 : decode cX1_levelsOf 2 = .ok (.if_icmp .ne 7, 3) := by decide +kernel
theorem dX1_levelsOf_5 : decode cX1_levelsOf 5 = .ok (.iconst 3, 1) := by decide +kernel
theorem dX1_levelsOf_6 : decode cX1_levelsOf 6 = .ok (.goto 4, 3) := by decide +kernel
theorem dX1_levelsOf_9 : decode cX1_levelsOf 9 = .ok (.iconst 4, 1) := by decide +kernel
theorem dX1_levelsOf_10 : decode cX1_levelsOf 10 = .ok (.ireturn, 1) := by decide +kernel
set_option maxRecDepth 20000 in
theorem dX1_isTrait_0 : decode cX1_isTrait 0 = .ok (.iload_n 0, 1) := by decide +kernel
theorem dX1_isTrait_1 : decode cX1_isTrait 1 = .ok (.iconst 0, 1) := by decide +kernel
theorem dX1_isTrait_2 : decode cX1_isTrait 2 = .ok (.iconst 2, 1) := by decide +kernel
theorem dX1_isTrait_3 : decode cX1_isTrait 3 = .ok (.invokestatic 51, 3) := by decide +kernel
theorem dX1_isTrait_6 : decode cX1_isTrait 6 = .ok (.ireturn, 1) := by decide +kernel
set_option maxRecDepth 20000 in
theorem dX1_isLevel_0 : decode cX1_isLevel 0 = .ok (.iload_n 0, 1) := by decide +kernel
theorem dX1_isLevel_1 : decode cX1_isLevel 1 = .ok (.invokestatic 55, 3) := by decide +kernel
theorem dX1_isLevel_4 : decode cX1_isLevel 4 = .ok (.ifCond .eq 21, 3) := by decide +kernel
theorem dX1_isLevel_7 : decode cX1_isLevel 7 = .ok (.iload_n 1, 1) := by decide +kernel
theorem dX1_isLevel_8 : decode cX1_isLevel 8 = .ok (.iconst 0, 1) := by decide +kernel
theorem dX1_isLevel_9 : decode cX1_isLevel 9 = .ok (.iload_n 0, 1) := by decide +kernel
theorem dX1_isLevel_10 : decode cX1_isLevel 10 = .ok (.invokestatic 59, 3) := by decide +kernel
theorem dX1_isLevel_13 : decode cX1_isLevel 13 = .ok (.iconst 1, 1) := by decide +kernel
theorem dX1_isLevel_14 : decode cX1_isLevel 14 = .ok (.isub, 1) := by decide +kernel
theorem dX1_isLevel_15 : decode cX1_isLevel 15 = .ok (.invokestatic 51, 3) := by decide +kernel
theorem dX1_isLevel_18 : decode cX1_isLevel 18 = .ok (.ifCond .eq 7, 3) := by decide +kernel
theorem dX1_isLevel_21 : decode cX1_isLevel 21 = .ok (.iconst 1, 1) := by decide +kernel
theorem dX1_isLevel_22 : decode cX1_isLevel 22 = .ok (.goto 4, 3) := by decide +kernel
theorem dX1_isLevel_25 : decode cX1_isLevel 25 = .ok (.iconst 0, 1) := by decide +kernel
theorem dX1_isLevel_26 : decode cX1_isLevel 26 = .ok (.ireturn, 1) := by decide +kernel
set_option maxRecDepth 20000 in
theorem dX1_isRow_0 : decode cX1_isRow 0 = .ok (.iload_n 1, 1) := by decide +kernel
theorem dX1_isRow_1 : decode cX1_isRow 1 = .ok (.iconst 0, 1) := by decide +kernel
theorem dX1_isRow_2 : decode cX1_isRow 2 = .ok (.aload_n 0, 1) := by decide +kernel
theorem dX1_isRow_3 : decode cX1_isRow 3 = .ok (.getfield 63, 3) := by decide +kernel
theorem dX1_isRow_6 : decode cX1_isRow 6 = .ok (.iconst 1, 1) := by decide +kernel
theorem dX1_isRow_7 : decode cX1_isRow 7 = .ok (.isub, 1) := by decide +kernel
theorem dX1_isRow_8 : decode cX1_isRow 8 = .ok (.invokestatic 51, 3) := by decide +kernel
theorem dX1_isRow_11 : decode cX1_isRow 11 = .ok (.ifCond .eq 16, 3) := by decide +kernel
theorem dX1_isRow_14 : decode cX1_isRow 14 = .ok (.aload_n 0, 1) := by decide +kernel
theorem dX1_isRow_15 : decode cX1_isRow 15 = .ok (.getfield 25, 3) := by decide +kernel
theorem dX1_isRow_18 : decode cX1_isRow 18 = .ok (.iload_n 1, 1) := by decide +kernel
theorem dX1_isRow_19 : decode cX1_isRow 19 = .ok (.baload, 1) := by decide +kernel
theorem dX1_isRow_20 : decode cX1_isRow 20 = .ok (.ifCond .ne 7, 3) := by decide +kernel
theorem dX1_isRow_23 : decode cX1_isRow 23 = .ok (.iconst 1, 1) := by decide +kernel
theorem dX1_isRow_24 : decode cX1_isRow 24 = .ok (.goto 4, 3) := by decide +kernel
theorem dX1_isRow_27 : decode cX1_isRow 27 = .ok (.iconst 0, 1) := by decide +kernel
theorem dX1_isRow_28 : decode cX1_isRow 28 = .ok (.ireturn, 1) := by decide +kernel
set_option maxRecDepth 20000 in
theorem dX1_add_0 : decode cX1_add 0 = .ok (.iconst 0, 1) := by decide +kernel
theorem dX1_add_1 : decode cX1_add 1 = .ok (.iload_n 1, 1) := by decide +kernel
theorem dX1_add_2 : decode cX1_add 2 = .ok (.invokestatic 66, 3) := by decide +kernel
theorem dX1_add_5 : decode cX1_add 5 = .ok (.ifCond .eq 58, 3) := by decide +kernel
theorem dX1_add_8 : decode cX1_add 8 = .ok (.iconst 1, 1) := by decide +kernel
theorem dX1_add_9 : decode cX1_add 9 = .ok (.iload_n 2, 1) := by decide +kernel
theorem dX1_add_10 : decode cX1_add 10 = .ok (.invokestatic 66, 3) := by decide +kernel
theorem dX1_add_13 : decode cX1_add 13 = .ok (.ifCond .eq 50, 3) := by decide +kernel
theorem dX1_add_16 : decode cX1_add 16 = .ok (.iconst 2, 1) := by decide +kernel
theorem dX1_add_17 : decode cX1_add 17 = .ok (.iload_n 3, 1) := by decide +kernel
theorem dX1_add_18 : decode cX1_add 18 = .ok (.invokestatic 66, 3) := by decide +kernel
theorem dX1_add_21 : decode cX1_add 21 = .ok (.ifCond .eq 42, 3) := by decide +kernel
theorem dX1_add_24 : decode cX1_add 24 = .ok (.iload 4, 2) := by decide +kernel
theorem dX1_add_26 : decode cX1_add 26 = .ok (.iconst 1, 1) := by decide +kernel
theorem dX1_add_27 : decode cX1_add 27 = .ok (.sipush 1000, 3) := by decide +kernel
theorem dX1_add_30 : decode cX1_add 30 = .ok (.invokestatic 51, 3) := by decide +kernel
theorem dX1_add_33 : decode cX1_add 33 = .ok (.ifCond .eq 30, 3) := by decide +kernel
theorem dX1_add_36 : decode cX1_add 36 = .ok (.iload 5, 2) := by decide +kernel
theorem dX1_add_38 : decode cX1_add 38 = .ok (.iconst 0, 1) := by decide +kernel
theorem dX1_add_39 : decode cX1_add 39 = .ok (.sipush 1000, 3) := by decide +kernel
theorem dX1_add_42 : decode cX1_add 42 = .ok (.invokestatic 51, 3) := by decide +kernel
theorem dX1_add_45 : decode cX1_add 45 = .ok (.ifCond .eq 18, 3) := by decide +kernel
theorem dX1_add_48 : decode cX1_add 48 = .ok (.iload 6, 2) := by decide +kernel
theorem dX1_add_50 : decode cX1_add 50 = .ok (.iconst 0, 1) := by decide +kernel
theorem dX1_add_51 : decode cX1_add 51 = .ok (.ldc 70, 2) := by decide +kernel
theorem dX1_add_53 : decode cX1_add 53 = .ok (.invokestatic 51, 3) := by decide +kernel
theorem dX1_add_56 : decode cX1_add 56 = .ok (.ifCond .eq 7, 3) := by decide +kernel
theorem dX1_add_59 : decode cX1_add 59 = .ok (.iconst 1, 1) := by decide +kernel
theorem dX1_add_60 : decode cX1_add 60 = .ok (.goto 4, 3) := by decide +kernel
theorem dX1_add_63 : decode cX1_add 63 = .ok (.iconst 0, 1) := by decide +kernel
theorem dX1_add_64 : decode cX1_add 64 = .ok (.istore 7, 2) := by decide +kernel
theorem dX1_add_66 : decode cX1_add 66 = .ok (.aload_n 0, 1) := by decide +kernel
theorem dX1_add_67 : decode cX1_add 67 = .ok (.iload 7, 2) := by decide +kernel
theorem dX1_add_69 : decode cX1_add 69 = .ok (.aload_n 0, 1) := by decide +kernel
theorem dX1_add_70 : decode cX1_add 70 = .ok (.getfield 63, 3) := by decide +kernel
theorem dX1_add_73 : decode cX1_add 73 = .ok (.bipush 40, 2) := by decide +kernel
theorem dX1_add_75 : decode cX1_add 75 = .ok (.if_icmp .ge 7, 3) := by decide +kernel
theorem dX1_add_78 : decode cX1_add 78 = .ok (.iconst 1, 1) := by decide +kernel
theorem dX1_add_79 : decode cX1_add 79 = .ok (.goto 4, 3) := by decide +kernel
theorem dX1_add_82 : decode cX1_add 82 = .ok (.iconst 0, 1) := by decide +kernel
theorem dX1_add_83 : decode cX1_add 83 = .ok (.iconst 1, 1) := by decide +kernel
theorem dX1_add_84 : decode cX1_add 84 = .ok (.invokevirtual 71, 3) := by decide +kernel
theorem dX1_add_87 : decode cX1_add 87 = .ok (.ifCond .ne 5, 3) := by decide +kernel
theorem dX1_add_90 : decode cX1_add 90 = .ok (.iconst 0, 1) := by decide +kernel
theorem dX1_add_91 : decode cX1_add 91 = .ok (.ireturn, 1) := by decide +kernel
theorem dX1_add_92 : decode cX1_add 92 = .ok (.aload_n 0, 1) := by decide +kernel
theorem dX1_add_93 : decode cX1_add 93 = .ok (.getfield 7, 3) := by decide +kernel
theorem dX1_add_96 : decode cX1_add 96 = .ok (.iconst 3, 1) := by decide +kernel
theorem dX1_add_97 : decode cX1_add 97 = .ok (.aload_n 0, 1) := by decide +kernel
theorem dX1_add_98 : decode cX1_add 98 = .ok (.getfield 63, 3) := by decide +kernel
theorem dX1_add_101 : decode cX1_add 101 = .ok (.imul, 1) := by decide +kernel
theorem dX1_add_102 : decode cX1_add 102 = .ok (.iload_n 1, 1) := by decide +kernel
theorem dX1_add_103 : decode cX1_add 103 = .ok (.iastore, 1) := by decide +kernel
theorem dX1_add_104 : decode cX1_add 104 = .ok (.aload_n 0, 1) := by decide +kernel
theorem dX1_add_105 : decode cX1_add 105 = .ok (.getfield 7, 3) := by decide +kernel
theorem dX1_add_108 : decode cX1_add 108 = .ok (.iconst 3, 1) := by decide +kernel
theorem dX1_add_109 : decode cX1_add 109 = .ok (.aload_n 0, 1) := by decide +kernel
theorem dX1_add_110 : decode cX1_add 110 = .ok (.getfield 63, 3) := by decide +kernel
theorem dX1_add_113 : decode cX1_add 113 = .ok (.imul, 1) := by decide +kernel
theorem dX1_add_114 : decode cX1_add 114 = .ok (.iconst 1, 1) := by decide +kernel
theorem dX1_add_115 : decode cX1_add 115 = .ok (.iadd, 1) := by decide +kernel
theorem dX1_add_116 : decode cX1_add 116 = .ok (.iload_n 2, 1) := by decide +kernel
theorem dX1_add_117 : decode cX1_add 117 = .ok (.iastore, 1) := by decide +kernel
theorem dX1_add_118 : decode cX1_add 118 = .ok (.aload_n 0, 1) := by decide +kernel
theorem dX1_add_119 : decode cX1_add 119 = .ok (.getfield 7, 3) := by decide +kernel
theorem dX1_add_122 : decode cX1_add 122 = .ok (.iconst 3, 1) := by decide +kernel
theorem dX1_add_123 : decode cX1_add 123 = .ok (.aload_n 0, 1) := by decide +kernel
theorem dX1_add_124 : decode cX1_add 124 = .ok (.getfield 63, 3) := by decide +kernel
theorem dX1_add_127 : decode cX1_add 127 = .ok (.imul, 1) := by decide +kernel
theorem dX1_add_128 : decode cX1_add 128 = .ok (.iconst 2, 1) := by decide +kernel
theorem dX1_add_129 : decode cX1_add 129 = .ok (.iadd, 1) := by decide +kernel
theorem dX1_add_130 : decode cX1_add 130 = .ok (.iload_n 3, 1) := by decide +kernel
theorem dX1_add_131 : decode cX1_add 131 = .ok (.iastore, 1) := by decide +kernel
theorem dX1_add_132 : decode cX1_add 132 = .ok (.aload_n 0, 1) := by decide +kernel
theorem dX1_add_133 : decode cX1_add 133 = .ok (.getfield 13, 3) := by decide +kernel
theorem dX1_add_136 : decode cX1_add 136 = .ok (.aload_n 0, 1) := by decide +kernel
theorem dX1_add_137 : decode cX1_add 137 = .ok (.getfield 63, 3) := by decide +kernel
theorem dX1_add_140 : decode cX1_add 140 = .ok (.iload 4, 2) := by decide +kernel
theorem dX1_add_142 : decode cX1_add 142 = .ok (.iastore, 1) := by decide +kernel
theorem dX1_add_143 : decode cX1_add 143 = .ok (.aload_n 0, 1) := by decide +kernel
theorem dX1_add_144 : decode cX1_add 144 = .ok (.getfield 16, 3) := by decide +kernel
theorem dX1_add_147 : decode cX1_add 147 = .ok (.aload_n 0, 1) := by decide +kernel
theorem dX1_add_148 : decode cX1_add 148 = .ok (.getfield 63, 3) := by decide +kernel
theorem dX1_add_151 : decode cX1_add 151 = .ok (.iload 5, 2) := by decide +kernel
theorem dX1_add_153 : decode cX1_add 153 = .ok (.iastore, 1) := by decide +kernel
theorem dX1_add_154 : decode cX1_add 154 = .ok (.aload_n 0, 1) := by decide +kernel
theorem dX1_add_155 : decode cX1_add 155 = .ok (.getfield 19, 3) := by decide +kernel
theorem dX1_add_158 : decode cX1_add 158 = .ok (.aload_n 0, 1) := by decide +kernel
theorem dX1_add_159 : decode cX1_add 159 = .ok (.getfield 63, 3) := by decide +kernel
theorem dX1_add_162 : decode cX1_add 162 = .ok (.iload 6, 2) := by decide +kernel
theorem dX1_add_164 : decode cX1_add 164 = .ok (.iastore, 1) := by decide +kernel
theorem dX1_add_165 : decode cX1_add 165 = .ok (.aload_n 0, 1) := by decide +kernel
theorem dX1_add_166 : decode cX1_add 166 = .ok (.getfield 22, 3) := by decide +kernel
theorem dX1_add_169 : decode cX1_add 169 = .ok (.aload_n 0, 1) := by decide +kernel
theorem dX1_add_170 : decode cX1_add 170 = .ok (.getfield 63, 3) := by decide +kernel
theorem dX1_add_173 : decode cX1_add 173 = .ok (.iconst (-1), 1) := by decide +kernel
theorem dX1_add_174 : decode cX1_add 174 = .ok (.iastore, 1) := by decide +kernel
theorem dX1_add_175 : decode cX1_add 175 = .ok (.aload_n 0, 1) := by decide +kernel
theorem dX1_add_176 : decode cX1_add 176 = .ok (.dup, 1) := by decide +kernel
theorem dX1_add_177 : decode cX1_add 177 = .ok (.getfield 63, 3) := by decide +kernel
theorem dX1_add_180 : decode cX1_add 180 = .ok (.iconst 1, 1) := by decide +kernel
theorem dX1_add_181 : decode cX1_add 181 = .ok (.iadd, 1) := by decide +kernel
theorem dX1_add_182 : decode cX1_add 182 = .ok (.putfield 63, 3) := by decide +kernel
theorem dX1_add_185 : decode cX1_add 185 = .ok (.aload_n 0, 1) := by decide +kernel
theorem dX1_add_186 : decode cX1_add 186 = .ok (.getfield 63, 3) := by decide +kernel
theorem dX1_add_189 : decode cX1_add 189 = .ok (.iconst 1, 1) := by decide +kernel
theorem dX1_add_190 : decode cX1_add 190 = .ok (.isub, 1) := by decide +kernel
theorem dX1_add_191 : decode cX1_add 191 = .ok (.ireturn, 1) := by decide +kernel
theorem dX1_count_0 : decode cX1_count 0 = .ok (.iconst 0, 1) := by decide +kernel
theorem dX1_count_1 : decode cX1_count 1 = .ok (.istore_n 1, 1) := by decide +kernel
theorem dX1_count_2 : decode cX1_count 2 = .ok (.iconst 0, 1) := by decide +kernel
theorem dX1_count_3 : decode cX1_count 3 = .ok (.istore_n 2, 1) := by decide +kernel
theorem dX1_count_4 : decode cX1_count 4 = .ok (.iload_n 2, 1) := by decide +kernel
theorem dX1_count_5 : decode cX1_count 5 = .ok (.aload_n 0, 1) := by decide +kernel
theorem dX1_count_6 : decode cX1_count 6 = .ok (.getfield 63, 3) := by decide +kernel
theorem dX1_count_9 : decode cX1_count 9 = .ok (.if_icmp .ge 26, 3) := by decide +kernel
theorem dX1_count_12 : decode cX1_count 12 = .ok (.iload_n 1, 1) := by decide +kernel
theorem dX1_count_13 : decode cX1_count 13 = .ok (.aload_n 0, 1) := by decide +kernel
theorem dX1_count_14 : decode cX1_count 14 = .ok (.getfield 25, 3) := by decide +kernel
theorem dX1_count_17 : decode cX1_count 17 = .ok (.iload_n 2, 1) := by decide +kernel
theorem dX1_count_18 : decode cX1_count 18 = .ok (.baload, 1) := by decide +kernel
theorem dX1_count_19 : decode cX1_count 19 = .ok (.ifCond .eq 7, 3) := by decide +kernel
theorem dX1_count_22 : decode cX1_count 22 = .ok (.iconst 0, 1) := by decide +kernel
theorem dX1_count_23 : decode cX1_count 23 = .ok (.goto 4, 3) := by decide +kernel
theorem dX1_count_26 : decode cX1_count 26 = .ok (.iconst 1, 1) := by decide +kernel
theorem dX1_count_27 : decode cX1_count 27 = .ok (.iadd, 1) := by decide +kernel
theorem dX1_count_28 : decode cX1_count 28 = .ok (.istore_n 1, 1) := by decide +kernel
theorem dX1_count_29 : decode cX1_count 29 = .ok (.iinc 2 1, 3) := by decide +kernel
theorem dX1_count_32 : decode cX1_count 32 = .ok (.goto (-28), 3) := by decide +kernel
theorem dX1_count_35 : decode cX1_count 35 = .ok (.iload_n 1, 1) := by decide +kernel
theorem dX1_count_36 : decode cX1_count 36 = .ok (.ireturn, 1) := by decide +kernel
set_option maxRecDepth 20000 in
theorem dX1_withdraw_0 : decode cX1_withdraw 0 = .ok (.aload_n 0, 1) := by decide +kernel
theorem dX1_withdraw_1 : decode cX1_withdraw 1 = .ok (.aload_n 0, 1) := by decide +kernel
theorem dX1_withdraw_2 : decode cX1_withdraw 2 = .ok (.iload_n 1, 1) := by decide +kernel
theorem dX1_withdraw_3 : decode cX1_withdraw 3 = .ok (.invokevirtual 75, 3) := by decide +kernel
theorem dX1_withdraw_6 : decode cX1_withdraw 6 = .ok (.iconst 1, 1) := by decide +kernel
theorem dX1_withdraw_7 : decode cX1_withdraw 7 = .ok (.iconst 1, 1) := by decide +kernel
theorem dX1_withdraw_8 : decode cX1_withdraw 8 = .ok (.invokevirtual 71, 3) := by decide +kernel
theorem dX1_withdraw_11 : decode cX1_withdraw 11 = .ok (.ifCond .ne 5, 3) := by decide +kernel
theorem dX1_withdraw_14 : decode cX1_withdraw 14 = .ok (.iconst 0, 1) := by decide +kernel
theorem dX1_withdraw_15 : decode cX1_withdraw 15 = .ok (.ireturn, 1) := by decide +kernel
theorem dX1_withdraw_16 : decode cX1_withdraw 16 = .ok (.aload_n 0, 1) := by decide +kernel
theorem dX1_withdraw_17 : decode cX1_withdraw 17 = .ok (.getfield 25, 3) := by decide +kernel
theorem dX1_withdraw_20 : decode cX1_withdraw 20 = .ok (.iload_n 1, 1) := by decide +kernel
theorem dX1_withdraw_21 : decode cX1_withdraw 21 = .ok (.iconst 1, 1) := by decide +kernel
theorem dX1_withdraw_22 : decode cX1_withdraw 22 = .ok (.bastore, 1) := by decide +kernel
theorem dX1_withdraw_23 : decode cX1_withdraw 23 = .ok (.aload_n 0, 1) := by decide +kernel
theorem dX1_withdraw_24 : decode cX1_withdraw 24 = .ok (.invokevirtual 78, 3) := by decide +kernel
theorem dX1_withdraw_27 : decode cX1_withdraw 27 = .ok (.ireturn, 1) := by decide +kernel
set_option maxRecDepth 20000 in
theorem dX1_setOld_0 : decode cX1_setOld 0 = .ok (.aload_n 0, 1) := by decide +kernel
theorem dX1_setOld_1 : decode cX1_setOld 1 = .ok (.aload_n 0, 1) := by decide +kernel
theorem dX1_setOld_2 : decode cX1_setOld 2 = .ok (.iload_n 1, 1) := by decide +kernel
theorem dX1_setOld_3 : decode cX1_setOld 3 = .ok (.invokevirtual 75, 3) := by decide +kernel
theorem dX1_setOld_6 : decode cX1_setOld 6 = .ok (.iload_n 2, 1) := by decide +kernel
theorem dX1_setOld_7 : decode cX1_setOld 7 = .ok (.iconst (-1), 1) := by decide +kernel
theorem dX1_setOld_8 : decode cX1_setOld 8 = .ok (.ldc 82, 2) := by decide +kernel
theorem dX1_setOld_10 : decode cX1_setOld 10 = .ok (.invokestatic 51, 3) := by decide +kernel
theorem dX1_setOld_13 : decode cX1_setOld 13 = .ok (.iconst 1, 1) := by decide +kernel
theorem dX1_setOld_14 : decode cX1_setOld 14 = .ok (.invokevirtual 71, 3) := by decide +kernel
theorem dX1_setOld_17 : decode cX1_setOld 17 = .ok (.ifCond .ne 5, 3) := by decide +kernel
theorem dX1_setOld_20 : decode cX1_setOld 20 = .ok (.iconst 0, 1) := by decide +kernel
theorem dX1_setOld_21 : decode cX1_setOld 21 = .ok (.ireturn, 1) := by decide +kernel
theorem dX1_setOld_22 : decode cX1_setOld 22 = .ok (.aload_n 0, 1) := by decide +kernel
theorem dX1_setOld_23 : decode cX1_setOld 23 = .ok (.getfield 22, 3) := by decide +kernel
theorem dX1_setOld_26 : decode cX1_setOld 26 = .ok (.iload_n 1, 1) := by decide +kernel
theorem dX1_setOld_27 : decode cX1_setOld 27 = .ok (.iaload, 1) := by decide +kernel
theorem dX1_setOld_28 : decode cX1_setOld 28 = .ok (.istore_n 3, 1) := by decide +kernel
theorem dX1_setOld_29 : decode cX1_setOld 29 = .ok (.aload_n 0, 1) := by decide +kernel
theorem dX1_setOld_30 : decode cX1_setOld 30 = .ok (.getfield 22, 3) := by decide +kernel
theorem dX1_setOld_33 : decode cX1_setOld 33 = .ok (.iload_n 1, 1) := by decide +kernel
theorem dX1_setOld_34 : decode cX1_setOld 34 = .ok (.iload_n 2, 1) := by decide +kernel
theorem dX1_setOld_35 : decode cX1_setOld 35 = .ok (.iastore, 1) := by decide +kernel
theorem dX1_setOld_36 : decode cX1_setOld 36 = .ok (.iload_n 3, 1) := by decide +kernel
theorem dX1_setOld_37 : decode cX1_setOld 37 = .ok (.ireturn, 1) := by decide +kernel
set_option maxRecDepth 20000 in
theorem dX1_setRules_0 : decode cX1_setRules 0 = .ok (.aload_n 0, 1) := by decide +kernel
theorem dX1_setRules_1 : decode cX1_setRules 1 = .ok (.iload_n 1, 1) := by decide +kernel
theorem dX1_setRules_2 : decode cX1_setRules 2 = .ok (.iconst 0, 1) := by decide +kernel
theorem dX1_setRules_3 : decode cX1_setRules 3 = .ok (.sipush 1000, 3) := by decide +kernel
theorem dX1_setRules_6 : decode cX1_setRules 6 = .ok (.invokestatic 51, 3) := by decide +kernel
theorem dX1_setRules_9 : decode cX1_setRules 9 = .ok (.ifCond .eq 18, 3) := by decide +kernel
theorem dX1_setRules_12 : decode cX1_setRules 12 = .ok (.iload_n 2, 1) := by decide +kernel
theorem dX1_setRules_13 : decode cX1_setRules 13 = .ok (.iconst (-1), 1) := by decide +kernel
theorem dX1_setRules_14 : decode cX1_setRules 14 = .ok (.sipush 1000, 3) := by decide +kernel
theorem dX1_setRules_17 : decode cX1_setRules 17 = .ok (.invokestatic 51, 3) := by decide +kernel
theorem dX1_setRules_20 : decode cX1_setRules 20 = .ok (.ifCond .eq 7, 3) := by decide +kernel
theorem dX1_setRules_23 : decode cX1_setRules 23 = .ok (.iconst 1, 1) := by decide +kernel
theorem dX1_setRules_24 : decode cX1_setRules 24 = .ok (.goto 4, 3) := by decide +kernel
theorem dX1_setRules_27 : decode cX1_setRules 27 = .ok (.iconst 0, 1) := by decide +kernel
theorem dX1_setRules_28 : decode cX1_setRules 28 = .ok (.iconst 1, 1) := by decide +kernel
theorem dX1_setRules_29 : decode cX1_setRules 29 = .ok (.iconst 1, 1) := by decide +kernel
theorem dX1_setRules_30 : decode cX1_setRules 30 = .ok (.invokevirtual 71, 3) := by decide +kernel
theorem dX1_setRules_33 : decode cX1_setRules 33 = .ok (.ifCond .ne 5, 3) := by decide +kernel
theorem dX1_setRules_36 : decode cX1_setRules 36 = .ok (.iconst 0, 1) := by decide +kernel
theorem dX1_setRules_37 : decode cX1_setRules 37 = .ok (.ireturn, 1) := by decide +kernel
theorem dX1_setRules_38 : decode cX1_setRules 38 = .ok (.aload_n 0, 1) := by decide +kernel
theorem dX1_setRules_39 : decode cX1_setRules 39 = .ok (.getfield 83, 3) := by decide +kernel
theorem dX1_setRules_42 : decode cX1_setRules 42 = .ok (.istore_n 3, 1) := by decide +kernel
theorem dX1_setRules_43 : decode cX1_setRules 43 = .ok (.aload_n 0, 1) := by decide +kernel
theorem dX1_setRules_44 : decode cX1_setRules 44 = .ok (.iload_n 1, 1) := by decide +kernel
theorem dX1_setRules_45 : decode cX1_setRules 45 = .ok (.putfield 83, 3) := by decide +kernel
theorem dX1_setRules_48 : decode cX1_setRules 48 = .ok (.aload_n 0, 1) := by decide +kernel
theorem dX1_setRules_49 : decode cX1_setRules 49 = .ok (.iload_n 2, 1) := by decide +kernel
theorem dX1_setRules_50 : decode cX1_setRules 50 = .ok (.putfield 29, 3) := by decide +kernel
theorem dX1_setRules_53 : decode cX1_setRules 53 = .ok (.iload_n 3, 1) := by decide +kernel
theorem dX1_setRules_54 : decode cX1_setRules 54 = .ok (.ireturn, 1) := by decide +kernel
set_option maxRecDepth 20000 in
theorem dX1_setFactor_0 : decode cX1_setFactor 0 = .ok (.aload_n 0, 1) := by decide +kernel
theorem dX1_setFactor_1 : decode cX1_setFactor 1 = .ok (.iload_n 1, 1) := by decide +kernel
theorem dX1_setFactor_2 : decode cX1_setFactor 2 = .ok (.iload_n 2, 1) := by decide +kernel
theorem dX1_setFactor_3 : decode cX1_setFactor 3 = .ok (.invokestatic 66, 3) := by decide +kernel
theorem dX1_setFactor_6 : decode cX1_setFactor 6 = .ok (.iload_n 3, 1) := by decide +kernel
theorem dX1_setFactor_7 : decode cX1_setFactor 7 = .ok (.bipush 100, 2) := by decide +kernel
theorem dX1_setFactor_9 : decode cX1_setFactor 9 = .ok (.ldc 86, 2) := by decide +kernel
theorem dX1_setFactor_11 : decode cX1_setFactor 11 = .ok (.invokestatic 51, 3) := by decide +kernel
theorem dX1_setFactor_14 : decode cX1_setFactor 14 = .ok (.iconst 1, 1) := by decide +kernel
theorem dX1_setFactor_15 : decode cX1_setFactor 15 = .ok (.invokevirtual 71, 3) := by decide +kernel
theorem dX1_setFactor_18 : decode cX1_setFactor 18 = .ok (.ifCond .ne 5, 3) := by decide +kernel
theorem dX1_setFactor_21 : decode cX1_setFactor 21 = .ok (.iconst 0, 1) := by decide +kernel
theorem dX1_setFactor_22 : decode cX1_setFactor 22 = .ok (.ireturn, 1) := by decide +kernel
theorem dX1_setFactor_23 : decode cX1_setFactor 23 = .ok (.aload_n 0, 1) := by decide +kernel
theorem dX1_setFactor_24 : decode cX1_setFactor 24 = .ok (.getfield 39, 3) := by decide +kernel
theorem dX1_setFactor_27 : decode cX1_setFactor 27 = .ok (.iconst 4, 1) := by decide +kernel
theorem dX1_setFactor_28 : decode cX1_setFactor 28 = .ok (.iload_n 1, 1) := by decide +kernel
theorem dX1_setFactor_29 : decode cX1_setFactor 29 = .ok (.imul, 1) := by decide +kernel
theorem dX1_setFactor_30 : decode cX1_setFactor 30 = .ok (.iload_n 2, 1) := by decide +kernel
theorem dX1_setFactor_31 : decode cX1_setFactor 31 = .ok (.iadd, 1) := by decide +kernel
theorem dX1_setFactor_32 : decode cX1_setFactor 32 = .ok (.iaload, 1) := by decide +kernel
theorem dX1_setFactor_33 : decode cX1_setFactor 33 = .ok (.istore 4, 2) := by decide +kernel
theorem dX1_setFactor_35 : decode cX1_setFactor 35 = .ok (.aload_n 0, 1) := by decide +kernel
theorem dX1_setFactor_36 : decode cX1_setFactor 36 = .ok (.getfield 39, 3) := by decide +kernel
theorem dX1_setFactor_39 : decode cX1_setFactor 39 = .ok (.iconst 4, 1) := by decide +kernel
theorem dX1_setFactor_40 : decode cX1_setFactor 40 = .ok (.iload_n 1, 1) := by decide +kernel
theorem dX1_setFactor_41 : decode cX1_setFactor 41 = .ok (.imul, 1) := by decide +kernel
theorem dX1_setFactor_42 : decode cX1_setFactor 42 = .ok (.iload_n 2, 1) := by decide +kernel
theorem dX1_setFactor_43 : decode cX1_setFactor 43 = .ok (.iadd, 1) := by decide +kernel
theorem dX1_setFactor_44 : decode cX1_setFactor 44 = .ok (.iload_n 3, 1) := by decide +kernel
theorem dX1_setFactor_45 : decode cX1_setFactor 45 = .ok (.iastore, 1) := by decide +kernel
theorem dX1_setFactor_46 : decode cX1_setFactor 46 = .ok (.iload 4, 2) := by decide +kernel
theorem dX1_setFactor_48 : decode cX1_setFactor 48 = .ok (.ireturn, 1) := by decide +kernel
theorem dX1_baseNow_0 : decode cX1_baseNow 0 = .ok (.lconst 0, 1) := by decide +kernel
theorem dX1_baseNow_1 : decode cX1_baseNow 1 = .ok (.lstore_n 1, 1) := by decide +kernel
theorem dX1_baseNow_2 : decode cX1_baseNow 2 = .ok (.lconst 0, 1) := by decide +kernel
theorem dX1_baseNow_3 : decode cX1_baseNow 3 = .ok (.lstore_n 3, 1) := by decide +kernel
theorem dX1_baseNow_4 : decode cX1_baseNow 4 = .ok (.iconst 0, 1) := by decide +kernel
theorem dX1_baseNow_5 : decode cX1_baseNow 5 = .ok (.istore 5, 2) := by decide +kernel
theorem dX1_baseNow_7 : decode cX1_baseNow 7 = .ok (.iload 5, 2) := by decide +kernel
theorem dX1_baseNow_9 : decode cX1_baseNow 9 = .ok (.aload_n 0, 1) := by decide +kernel
theorem dX1_baseNow_10 : decode cX1_baseNow 10 = .ok (.getfield 63, 3) := by decide +kernel
theorem dX1_baseNow_13 : decode cX1_baseNow 13 = .ok (.if_icmp .ge 59, 3) := by decide +kernel
theorem dX1_baseNow_16 : decode cX1_baseNow 16 = .ok (.lload_n 1, 1) := by decide +kernel
theorem dX1_baseNow_17 : decode cX1_baseNow 17 = .ok (.aload_n 0, 1) := by decide +kernel
theorem dX1_baseNow_18 : decode cX1_baseNow 18 = .ok (.getfield 25, 3) := by decide +kernel
theorem dX1_baseNow_21 : decode cX1_baseNow 21 = .ok (.iload 5, 2) := by decide +kernel
theorem dX1_baseNow_23 : decode cX1_baseNow 23 = .ok (.baload, 1) := by decide +kernel
theorem dX1_baseNow_24 : decode cX1_baseNow 24 = .ok (.ifCond .eq 7, 3) := by decide +kernel
theorem dX1_baseNow_27 : decode cX1_baseNow 27 = .ok (.lconst 0, 1) := by decide +kernel
theorem dX1_baseNow_28 : decode cX1_baseNow 28 = .ok (.goto 11, 3) := by decide +kernel
theorem dX1_baseNow_31 : decode cX1_baseNow 31 = .ok (.aload_n 0, 1) := by decide +kernel
theorem dX1_baseNow_32 : decode cX1_baseNow 32 = .ok (.getfield 19, 3) := by decide +kernel
theorem dX1_baseNow_35 : decode cX1_baseNow 35 = .ok (.iload 5, 2) := by decide +kernel
theorem dX1_baseNow_37 : decode cX1_baseNow 37 = .ok (.iaload, 1) := by decide +kernel
theorem dX1_baseNow_38 : decode cX1_baseNow 38 = .ok (.i2l, 1) := by decide +kernel
theorem dX1_baseNow_39 : decode cX1_baseNow 39 = .ok (.ladd, 1) := by decide +kernel
theorem dX1_baseNow_40 : decode cX1_baseNow 40 = .ok (.lstore_n 1, 1) := by decide +kernel
theorem dX1_baseNow_41 : decode cX1_baseNow 41 = .ok (.lload_n 3, 1) := by decide +kernel
theorem dX1_baseNow_42 : decode cX1_baseNow 42 = .ok (.aload_n 0, 1) := by decide +kernel
theorem dX1_baseNow_43 : decode cX1_baseNow 43 = .ok (.getfield 25, 3) := by decide +kernel
theorem dX1_baseNow_46 : decode cX1_baseNow 46 = .ok (.iload 5, 2) := by decide +kernel
theorem dX1_baseNow_48 : decode cX1_baseNow 48 = .ok (.baload, 1) := by decide +kernel
theorem dX1_baseNow_49 : decode cX1_baseNow 49 = .ok (.ifCond .eq 7, 3) := by decide +kernel
theorem dX1_baseNow_52 : decode cX1_baseNow 52 = .ok (.lconst 0, 1) := by decide +kernel
theorem dX1_baseNow_53 : decode cX1_baseNow 53 = .ok (.goto 11, 3) := by decide +kernel
theorem dX1_baseNow_56 : decode cX1_baseNow 56 = .ok (.aload_n 0, 1) := by decide +kernel
theorem dX1_baseNow_57 : decode cX1_baseNow 57 = .ok (.getfield 13, 3) := by decide +kernel
theorem dX1_baseNow_60 : decode cX1_baseNow 60 = .ok (.iload 5, 2) := by decide +kernel
theorem dX1_baseNow_62 : decode cX1_baseNow 62 = .ok (.iaload, 1) := by decide +kernel
theorem dX1_baseNow_63 : decode cX1_baseNow 63 = .ok (.i2l, 1) := by decide +kernel
theorem dX1_baseNow_64 : decode cX1_baseNow 64 = .ok (.ladd, 1) := by decide +kernel
theorem dX1_baseNow_65 : decode cX1_baseNow 65 = .ok (.lstore_n 3, 1) := by decide +kernel
theorem dX1_baseNow_66 : decode cX1_baseNow 66 = .ok (.iinc 5 1, 3) := by decide +kernel
theorem dX1_baseNow_69 : decode cX1_baseNow 69 = .ok (.goto (-62), 3) := by decide +kernel
theorem dX1_baseNow_72 : decode cX1_baseNow 72 = .ok (.lload_n 3, 1) := by decide +kernel
theorem dX1_baseNow_73 : decode cX1_baseNow 73 = .ok (.lconst 0, 1) := by decide +kernel
theorem dX1_baseNow_74 : decode cX1_baseNow 74 = .ok (.lcmp, 1) := by decide +kernel
theorem dX1_baseNow_75 : decode cX1_baseNow 75 = .ok (.ifCond .ne 7, 3) := by decide +kernel
theorem dX1_baseNow_78 : decode cX1_baseNow 78 = .ok (.lconst 0, 1) := by decide +kernel
theorem dX1_baseNow_79 : decode cX1_baseNow 79 = .ok (.goto 10, 3) := by decide +kernel
theorem dX1_baseNow_82 : decode cX1_baseNow 82 = .ok (.ldc2_w 33, 3) := by decide +kernel
theorem dX1_baseNow_85 : decode cX1_baseNow 85 = .ok (.lload_n 1, 1) := by decide +kernel
theorem dX1_baseNow_86 : decode cX1_baseNow 86 = .ok (.lmul, 1) := by decide +kernel
theorem dX1_baseNow_87 : decode cX1_baseNow 87 = .ok (.lload_n 3, 1) := by decide +kernel
theorem dX1_baseNow_88 : decode cX1_baseNow 88 = .ok (.ldiv, 1) := by decide +kernel
theorem dX1_baseNow_89 : decode cX1_baseNow 89 = .ok (.lreturn, 1) := by decide +kernel
theorem dX1_fit_0 : decode cX1_fit 0 = .ok (.aload_n 0, 1) := by decide +kernel
theorem dX1_fit_1 : decode cX1_fit 1 = .ok (.getfield 13, 3) := by decide +kernel
theorem dX1_fit_4 : decode cX1_fit 4 = .ok (.iload_n 1, 1) := by decide +kernel
theorem dX1_fit_5 : decode cX1_fit 5 = .ok (.iaload, 1) := by decide +kernel
theorem dX1_fit_6 : decode cX1_fit 6 = .ok (.i2l, 1) := by decide +kernel
theorem dX1_fit_7 : decode cX1_fit 7 = .ok (.lload_n 2, 1) := by decide +kernel
theorem dX1_fit_8 : decode cX1_fit 8 = .ok (.lmul, 1) := by decide +kernel
theorem dX1_fit_9 : decode cX1_fit 9 = .ok (.ldc2_w 33, 3) := by decide +kernel
theorem dX1_fit_12 : decode cX1_fit 12 = .ok (.ldiv, 1) := by decide +kernel
theorem dX1_fit_13 : decode cX1_fit 13 = .ok (.lstore 4, 2) := by decide +kernel
theorem dX1_fit_15 : decode cX1_fit 15 = .ok (.iconst 0, 1) := by decide +kernel
theorem dX1_fit_16 : decode cX1_fit 16 = .ok (.istore 6, 2) := by decide +kernel
theorem dX1_fit_18 : decode cX1_fit 18 = .ok (.iload 6, 2) := by decide +kernel
theorem dX1_fit_20 : decode cX1_fit 20 = .ok (.iconst 3, 1) := by decide +kernel
theorem dX1_fit_21 : decode cX1_fit 21 = .ok (.if_icmp .ge 40, 3) := by decide +kernel
theorem dX1_fit_24 : decode cX1_fit 24 = .ok (.lload 4, 2) := by decide +kernel
theorem dX1_fit_26 : decode cX1_fit 26 = .ok (.aload_n 0, 1) := by decide +kernel
theorem dX1_fit_27 : decode cX1_fit 27 = .ok (.getfield 39, 3) := by decide +kernel
theorem dX1_fit_30 : decode cX1_fit 30 = .ok (.iconst 4, 1) := by decide +kernel
theorem dX1_fit_31 : decode cX1_fit 31 = .ok (.iload 6, 2) := by decide +kernel
theorem dX1_fit_33 : decode cX1_fit 33 = .ok (.imul, 1) := by decide +kernel
theorem dX1_fit_34 : decode cX1_fit 34 = .ok (.aload_n 0, 1) := by decide +kernel
theorem dX1_fit_35 : decode cX1_fit 35 = .ok (.getfield 7, 3) := by decide +kernel
theorem dX1_fit_38 : decode cX1_fit 38 = .ok (.iconst 3, 1) := by decide +kernel
theorem dX1_fit_39 : decode cX1_fit 39 = .ok (.iload_n 1, 1) := by decide +kernel
theorem dX1_fit_40 : decode cX1_fit 40 = .ok (.imul, 1) := by decide +kernel
theorem dX1_fit_41 : decode cX1_fit 41 = .ok (.iload 6, 2) := by decide +kernel
theorem dX1_fit_43 : decode cX1_fit 43 = .ok (.iadd, 1) := by decide +kernel
theorem dX1_fit_44 : decode cX1_fit 44 = .ok (.iaload, 1) := by decide +kernel
theorem dX1_fit_45 : decode cX1_fit 45 = .ok (.iadd, 1) := by decide +kernel
theorem dX1_fit_46 : decode cX1_fit 46 = .ok (.iaload, 1) := by decide +kernel
theorem dX1_fit_47 : decode cX1_fit 47 = .ok (.i2l, 1) := by decide +kernel
theorem dX1_fit_48 : decode cX1_fit 48 = .ok (.lmul, 1) := by decide +kernel
theorem dX1_fit_49 : decode cX1_fit 49 = .ok (.ldc2_w 33, 3) := by decide +kernel
theorem dX1_fit_52 : decode cX1_fit 52 = .ok (.ldiv, 1) := by decide +kernel
theorem dX1_fit_53 : decode cX1_fit 53 = .ok (.lstore 4, 2) := by decide +kernel
theorem dX1_fit_55 : decode cX1_fit 55 = .ok (.iinc 6 1, 3) := by decide +kernel
theorem dX1_fit_58 : decode cX1_fit 58 = .ok (.goto (-40), 3) := by decide +kernel
theorem dX1_fit_61 : decode cX1_fit 61 = .ok (.lload 4, 2) := by decide +kernel
theorem dX1_fit_63 : decode cX1_fit 63 = .ok (.lreturn, 1) := by decide +kernel
theorem dX1_has_0 : decode cX1_has 0 = .ok (.aload_n 0, 1) := by decide +kernel
theorem dX1_has_1 : decode cX1_has 1 = .ok (.getfield 25, 3) := by decide +kernel
theorem dX1_has_4 : decode cX1_has 4 = .ok (.iload_n 1, 1) := by decide +kernel
theorem dX1_has_5 : decode cX1_has 5 = .ok (.baload, 1) := by decide +kernel
theorem dX1_has_6 : decode cX1_has 6 = .ok (.ifCond .ne 21, 3) := by decide +kernel
theorem dX1_has_9 : decode cX1_has 9 = .ok (.aload_n 0, 1) := by decide +kernel
theorem dX1_has_10 : decode cX1_has 10 = .ok (.getfield 7, 3) := by decide +kernel
theorem dX1_has_13 : decode cX1_has 13 = .ok (.iconst 3, 1) := by decide +kernel
theorem dX1_has_14 : decode cX1_has 14 = .ok (.iload_n 1, 1) := by decide +kernel
theorem dX1_has_15 : decode cX1_has 15 = .ok (.imul, 1) := by decide +kernel
theorem dX1_has_16 : decode cX1_has 16 = .ok (.iload_n 2, 1) := by decide +kernel
theorem dX1_has_17 : decode cX1_has 17 = .ok (.iadd, 1) := by decide +kernel
theorem dX1_has_18 : decode cX1_has 18 = .ok (.iaload, 1) := by decide +kernel
theorem dX1_has_19 : decode cX1_has 19 = .ok (.iload_n 3, 1) := by decide +kernel
theorem dX1_has_20 : decode cX1_has 20 = .ok (.if_icmp .ne 7, 3) := by decide +kernel
theorem dX1_has_23 : decode cX1_has 23 = .ok (.iconst 1, 1) := by decide +kernel
theorem dX1_has_24 : decode cX1_has 24 = .ok (.goto 4, 3) := by decide +kernel
theorem dX1_has_27 : decode cX1_has 27 = .ok (.iconst 0, 1) := by decide +kernel
theorem dX1_has_28 : decode cX1_has 28 = .ok (.ireturn, 1) := by decide +kernel
set_option maxRecDepth 20000 in
theorem dX1_told_0 : decode cX1_told 0 = .ok (.lconst 0, 1) := by decide +kernel
theorem dX1_told_1 : decode cX1_told 1 = .ok (.lstore_n 3, 1) := by decide +kernel
theorem dX1_told_2 : decode cX1_told 2 = .ok (.iconst 0, 1) := by decide +kernel
theorem dX1_told_3 : decode cX1_told 3 = .ok (.istore 5, 2) := by decide +kernel
theorem dX1_told_5 : decode cX1_told 5 = .ok (.iload 5, 2) := by decide +kernel
theorem dX1_told_7 : decode cX1_told 7 = .ok (.aload_n 0, 1) := by decide +kernel
theorem dX1_told_8 : decode cX1_told 8 = .ok (.getfield 63, 3) := by decide +kernel
theorem dX1_told_11 : decode cX1_told 11 = .ok (.if_icmp .ge 35, 3) := by decide +kernel
theorem dX1_told_14 : decode cX1_told 14 = .ok (.lload_n 3, 1) := by decide +kernel
theorem dX1_told_15 : decode cX1_told 15 = .ok (.aload_n 0, 1) := by decide +kernel
theorem dX1_told_16 : decode cX1_told 16 = .ok (.iload 5, 2) := by decide +kernel
theorem dX1_told_18 : decode cX1_told 18 = .ok (.iload_n 1, 1) := by decide +kernel
theorem dX1_told_19 : decode cX1_told 19 = .ok (.iload_n 2, 1) := by decide +kernel
theorem dX1_told_20 : decode cX1_told 20 = .ok (.invokevirtual 87, 3) := by decide +kernel
theorem dX1_told_23 : decode cX1_told 23 = .ok (.ifCond .eq 14, 3) := by decide +kernel
theorem dX1_told_26 : decode cX1_told 26 = .ok (.aload_n 0, 1) := by decide +kernel
theorem dX1_told_27 : decode cX1_told 27 = .ok (.getfield 19, 3) := by decide +kernel
theorem dX1_told_30 : decode cX1_told 30 = .ok (.iload 5, 2) := by decide +kernel
theorem dX1_told_32 : decode cX1_told 32 = .ok (.iaload, 1) := by decide +kernel
theorem dX1_told_33 : decode cX1_told 33 = .ok (.i2l, 1) := by decide +kernel
theorem dX1_told_34 : decode cX1_told 34 = .ok (.goto 4, 3) := by decide +kernel
theorem dX1_told_37 : decode cX1_told 37 = .ok (.lconst 0, 1) := by decide +kernel
theorem dX1_told_38 : decode cX1_told 38 = .ok (.ladd, 1) := by decide +kernel
theorem dX1_told_39 : decode cX1_told 39 = .ok (.lstore_n 3, 1) := by decide +kernel
theorem dX1_told_40 : decode cX1_told 40 = .ok (.iinc 5 1, 3) := by decide +kernel
theorem dX1_told_43 : decode cX1_told 43 = .ok (.goto (-38), 3) := by decide +kernel
theorem dX1_told_46 : decode cX1_told 46 = .ok (.lload_n 3, 1) := by decide +kernel
theorem dX1_told_47 : decode cX1_told 47 = .ok (.lreturn, 1) := by decide +kernel
set_option maxRecDepth 20000 in
theorem dX1_fittedOf_0 : decode cX1_fittedOf 0 = .ok (.aload_n 0, 1) := by decide +kernel
theorem dX1_fittedOf_1 : decode cX1_fittedOf 1 = .ok (.invokevirtual 90, 3) := by decide +kernel
theorem dX1_fittedOf_4 : decode cX1_fittedOf 4 = .ok (.lstore_n 3, 1) := by decide +kernel
theorem dX1_fittedOf_5 : decode cX1_fittedOf 5 = .ok (.lconst 0, 1) := by decide +kernel
theorem dX1_fittedOf_6 : decode cX1_fittedOf 6 = .ok (.lstore 5, 2) := by decide +kernel
theorem dX1_fittedOf_8 : decode cX1_fittedOf 8 = .ok (.iconst 0, 1) := by decide +kernel
theorem dX1_fittedOf_9 : decode cX1_fittedOf 9 = .ok (.istore 7, 2) := by decide +kernel
theorem dX1_fittedOf_11 : decode cX1_fittedOf 11 = .ok (.iload 7, 2) := by decide +kernel
theorem dX1_fittedOf_13 : decode cX1_fittedOf 13 = .ok (.aload_n 0, 1) := by decide +kernel
theorem dX1_fittedOf_14 : decode cX1_fittedOf 14 = .ok (.getfield 63, 3) := by decide +kernel
theorem dX1_fittedOf_17 : decode cX1_fittedOf 17 = .ok (.if_icmp .ge 36, 3) := by decide +kernel
theorem dX1_fittedOf_20 : decode cX1_fittedOf 20 = .ok (.lload 5, 2) := by decide +kernel
theorem dX1_fittedOf_22 : decode cX1_fittedOf 22 = .ok (.aload_n 0, 1) := by decide +kernel
theorem dX1_fittedOf_23 : decode cX1_fittedOf 23 = .ok (.iload 7, 2) := by decide +kernel
theorem dX1_fittedOf_25 : decode cX1_fittedOf 25 = .ok (.iload_n 1, 1) := by decide +kernel
theorem dX1_fittedOf_26 : decode cX1_fittedOf 26 = .ok (.iload_n 2, 1) := by decide +kernel
theorem dX1_fittedOf_27 : decode cX1_fittedOf 27 = .ok (.invokevirtual 87, 3) := by decide +kernel
theorem dX1_fittedOf_30 : decode cX1_fittedOf 30 = .ok (.ifCond .eq 13, 3) := by decide +kernel
theorem dX1_fittedOf_33 : decode cX1_fittedOf 33 = .ok (.aload_n 0, 1) := by decide +kernel
theorem dX1_fittedOf_34 : decode cX1_fittedOf 34 = .ok (.iload 7, 2) := by decide +kernel
theorem dX1_fittedOf_36 : decode cX1_fittedOf 36 = .ok (.lload_n 3, 1) := by decide +kernel
theorem dX1_fittedOf_37 : decode cX1_fittedOf 37 = .ok (.invokevirtual 94, 3) := by decide +kernel
theorem dX1_fittedOf_40 : decode cX1_fittedOf 40 = .ok (.goto 4, 3) := by decide +kernel
theorem dX1_fittedOf_43 : decode cX1_fittedOf 43 = .ok (.lconst 0, 1) := by decide +kernel
theorem dX1_fittedOf_44 : decode cX1_fittedOf 44 = .ok (.ladd, 1) := by decide +kernel
theorem dX1_fittedOf_45 : decode cX1_fittedOf 45 = .ok (.lstore 5, 2) := by decide +kernel
theorem dX1_fittedOf_47 : decode cX1_fittedOf 47 = .ok (.iinc 7 1, 3) := by decide +kernel
theorem dX1_fittedOf_50 : decode cX1_fittedOf 50 = .ok (.goto (-39), 3) := by decide +kernel
theorem dX1_fittedOf_53 : decode cX1_fittedOf 53 = .ok (.lload 5, 2) := by decide +kernel
theorem dX1_fittedOf_55 : decode cX1_fittedOf 55 = .ok (.lreturn, 1) := by decide +kernel
set_option maxRecDepth 20000 in
theorem dX1_claimed_0 : decode cX1_claimed 0 = .ok (.lconst 0, 1) := by decide +kernel
theorem dX1_claimed_1 : decode cX1_claimed 1 = .ok (.lstore_n 3, 1) := by decide +kernel
theorem dX1_claimed_2 : decode cX1_claimed 2 = .ok (.iconst 0, 1) := by decide +kernel
theorem dX1_claimed_3 : decode cX1_claimed 3 = .ok (.istore 5, 2) := by decide +kernel
theorem dX1_claimed_5 : decode cX1_claimed 5 = .ok (.iload 5, 2) := by decide +kernel
theorem dX1_claimed_7 : decode cX1_claimed 7 = .ok (.aload_n 0, 1) := by decide +kernel
theorem dX1_claimed_8 : decode cX1_claimed 8 = .ok (.getfield 63, 3) := by decide +kernel
theorem dX1_claimed_11 : decode cX1_claimed 11 = .ok (.if_icmp .ge 35, 3) := by decide +kernel
theorem dX1_claimed_14 : decode cX1_claimed 14 = .ok (.lload_n 3, 1) := by decide +kernel
theorem dX1_claimed_15 : decode cX1_claimed 15 = .ok (.aload_n 0, 1) := by decide +kernel
theorem dX1_claimed_16 : decode cX1_claimed 16 = .ok (.iload 5, 2) := by decide +kernel
theorem dX1_claimed_18 : decode cX1_claimed 18 = .ok (.iload_n 1, 1) := by decide +kernel
theorem dX1_claimed_19 : decode cX1_claimed 19 = .ok (.iload_n 2, 1) := by decide +kernel
theorem dX1_claimed_20 : decode cX1_claimed 20 = .ok (.invokevirtual 87, 3) := by decide +kernel
theorem dX1_claimed_23 : decode cX1_claimed 23 = .ok (.ifCond .eq 14, 3) := by decide +kernel
theorem dX1_claimed_26 : decode cX1_claimed 26 = .ok (.aload_n 0, 1) := by decide +kernel
theorem dX1_claimed_27 : decode cX1_claimed 27 = .ok (.getfield 16, 3) := by decide +kernel
theorem dX1_claimed_30 : decode cX1_claimed 30 = .ok (.iload 5, 2) := by decide +kernel
theorem dX1_claimed_32 : decode cX1_claimed 32 = .ok (.iaload, 1) := by decide +kernel
theorem dX1_claimed_33 : decode cX1_claimed 33 = .ok (.i2l, 1) := by decide +kernel
theorem dX1_claimed_34 : decode cX1_claimed 34 = .ok (.goto 4, 3) := by decide +kernel
theorem dX1_claimed_37 : decode cX1_claimed 37 = .ok (.lconst 0, 1) := by decide +kernel
theorem dX1_claimed_38 : decode cX1_claimed 38 = .ok (.ladd, 1) := by decide +kernel
theorem dX1_claimed_39 : decode cX1_claimed 39 = .ok (.lstore_n 3, 1) := by decide +kernel
theorem dX1_claimed_40 : decode cX1_claimed 40 = .ok (.iinc 5 1, 3) := by decide +kernel
theorem dX1_claimed_43 : decode cX1_claimed 43 = .ok (.goto (-38), 3) := by decide +kernel
theorem dX1_claimed_46 : decode cX1_claimed 46 = .ok (.lload_n 3, 1) := by decide +kernel
theorem dX1_claimed_47 : decode cX1_claimed 47 = .ok (.lreturn, 1) := by decide +kernel
set_option maxRecDepth 20000 in
theorem dX1_exposed_0 : decode cX1_exposed 0 = .ok (.lconst 0, 1) := by decide +kernel
theorem dX1_exposed_1 : decode cX1_exposed 1 = .ok (.lstore_n 3, 1) := by decide +kernel
theorem dX1_exposed_2 : decode cX1_exposed 2 = .ok (.iconst 0, 1) := by decide +kernel
theorem dX1_exposed_3 : decode cX1_exposed 3 = .ok (.istore 5, 2) := by decide +kernel
theorem dX1_exposed_5 : decode cX1_exposed 5 = .ok (.iload 5, 2) := by decide +kernel
theorem dX1_exposed_7 : decode cX1_exposed 7 = .ok (.aload_n 0, 1) := by decide +kernel
theorem dX1_exposed_8 : decode cX1_exposed 8 = .ok (.getfield 63, 3) := by decide +kernel
theorem dX1_exposed_11 : decode cX1_exposed 11 = .ok (.if_icmp .ge 35, 3) := by decide +kernel
theorem dX1_exposed_14 : decode cX1_exposed 14 = .ok (.lload_n 3, 1) := by decide +kernel
theorem dX1_exposed_15 : decode cX1_exposed 15 = .ok (.aload_n 0, 1) := by decide +kernel
theorem dX1_exposed_16 : decode cX1_exposed 16 = .ok (.iload 5, 2) := by decide +kernel
theorem dX1_exposed_18 : decode cX1_exposed 18 = .ok (.iload_n 1, 1) := by decide +kernel
theorem dX1_exposed_19 : decode cX1_exposed 19 = .ok (.iload_n 2, 1) := by decide +kernel
theorem dX1_exposed_20 : decode cX1_exposed 20 = .ok (.invokevirtual 87, 3) := by decide +kernel
theorem dX1_exposed_23 : decode cX1_exposed 23 = .ok (.ifCond .eq 14, 3) := by decide +kernel
theorem dX1_exposed_26 : decode cX1_exposed 26 = .ok (.aload_n 0, 1) := by decide +kernel
theorem dX1_exposed_27 : decode cX1_exposed 27 = .ok (.getfield 13, 3) := by decide +kernel
theorem dX1_exposed_30 : decode cX1_exposed 30 = .ok (.iload 5, 2) := by decide +kernel
theorem dX1_exposed_32 : decode cX1_exposed 32 = .ok (.iaload, 1) := by decide +kernel
theorem dX1_exposed_33 : decode cX1_exposed 33 = .ok (.i2l, 1) := by decide +kernel
theorem dX1_exposed_34 : decode cX1_exposed 34 = .ok (.goto 4, 3) := by decide +kernel
theorem dX1_exposed_37 : decode cX1_exposed 37 = .ok (.lconst 0, 1) := by decide +kernel
theorem dX1_exposed_38 : decode cX1_exposed 38 = .ok (.ladd, 1) := by decide +kernel
theorem dX1_exposed_39 : decode cX1_exposed 39 = .ok (.lstore_n 3, 1) := by decide +kernel
theorem dX1_exposed_40 : decode cX1_exposed 40 = .ok (.iinc 5 1, 3) := by decide +kernel
theorem dX1_exposed_43 : decode cX1_exposed 43 = .ok (.goto (-38), 3) := by decide +kernel
theorem dX1_exposed_46 : decode cX1_exposed 46 = .ok (.lload_n 3, 1) := by decide +kernel
theorem dX1_exposed_47 : decode cX1_exposed 47 = .ok (.lreturn, 1) := by decide +kernel
theorem dX1_bounded_0 : decode cX1_bounded 0 = .ok (.lload_n 1, 1) := by decide +kernel
theorem dX1_bounded_1 : decode cX1_bounded 1 = .ok (.ldc2_w 98, 3) := by decide +kernel
theorem dX1_bounded_4 : decode cX1_bounded 4 = .ok (.lcmp, 1) := by decide +kernel
theorem dX1_bounded_5 : decode cX1_bounded 5 = .ok (.ifCond .ge 8, 3) := by decide +kernel
theorem dX1_bounded_8 : decode cX1_bounded 8 = .ok (.bipush 100, 2) := by decide +kernel
theorem dX1_bounded_10 : decode cX1_bounded 10 = .ok (.goto 18, 3) := by decide +kernel
theorem dX1_bounded_13 : decode cX1_bounded 13 = .ok (.lload_n 1, 1) := by decide +kernel
theorem dX1_bounded_14 : decode cX1_bounded 14 = .ok (.ldc2_w 100, 3) := by decide +kernel
theorem dX1_bounded_17 : decode cX1_bounded 17 = .ok (.lcmp, 1) := by decide +kernel
theorem dX1_bounded_18 : decode cX1_bounded 18 = .ok (.ifCond .le 8, 3) := by decide +kernel
theorem dX1_bounded_21 : decode cX1_bounded 21 = .ok (.ldc 86, 2) := by decide +kernel
theorem dX1_bounded_23 : decode cX1_bounded 23 = .ok (.goto 5, 3) := by decide +kernel
theorem dX1_bounded_26 : decode cX1_bounded 26 = .ok (.lload_n 1, 1) := by decide +kernel
theorem dX1_bounded_27 : decode cX1_bounded 27 = .ok (.l2i, 1) := by decide +kernel
theorem dX1_bounded_28 : decode cX1_bounded 28 = .ok (.ireturn, 1) := by decide +kernel
set_option maxRecDepth 20000 in
theorem dX1_passes_0 : decode cX1_passes 0 = .ok (.iconst 0, 1) := by decide +kernel
theorem dX1_passes_1 : decode cX1_passes 1 = .ok (.istore_n 2, 1) := by decide +kernel
theorem dX1_passes_2 : decode cX1_passes 2 = .ok (.iconst 0, 1) := by decide +kernel
theorem dX1_passes_3 : decode cX1_passes 3 = .ok (.istore_n 3, 1) := by decide +kernel
theorem dX1_passes_4 : decode cX1_passes 4 = .ok (.iload_n 3, 1) := by decide +kernel
theorem dX1_passes_5 : decode cX1_passes 5 = .ok (.iload_n 1, 1) := by decide +kernel
theorem dX1_passes_6 : decode cX1_passes 6 = .ok (.invokestatic 59, 3) := by decide +kernel
theorem dX1_passes_9 : decode cX1_passes 9 = .ok (.if_icmp .ge 105, 3) := by decide +kernel
theorem dX1_passes_12 : decode cX1_passes 12 = .ok (.aload_n 0, 1) := by decide +kernel
theorem dX1_passes_13 : decode cX1_passes 13 = .ok (.iload_n 1, 1) := by decide +kernel
theorem dX1_passes_14 : decode cX1_passes 14 = .ok (.iload_n 3, 1) := by decide +kernel
theorem dX1_passes_15 : decode cX1_passes 15 = .ok (.invokevirtual 102, 3) := by decide +kernel
theorem dX1_passes_18 : decode cX1_passes 18 = .ok (.lstore 4, 2) := by decide +kernel
theorem dX1_passes_20 : decode cX1_passes 20 = .ok (.aload_n 0, 1) := by decide +kernel
theorem dX1_passes_21 : decode cX1_passes 21 = .ok (.iload_n 1, 1) := by decide +kernel
theorem dX1_passes_22 : decode cX1_passes 22 = .ok (.iload_n 3, 1) := by decide +kernel
theorem dX1_passes_23 : decode cX1_passes 23 = .ok (.invokevirtual 106, 3) := by decide +kernel
theorem dX1_passes_26 : decode cX1_passes 26 = .ok (.lstore 6, 2) := by decide +kernel
theorem dX1_passes_28 : decode cX1_passes 28 = .ok (.aload_n 0, 1) := by decide +kernel
theorem dX1_passes_29 : decode cX1_passes 29 = .ok (.getfield 39, 3) := by decide +kernel
theorem dX1_passes_32 : decode cX1_passes 32 = .ok (.iconst 4, 1) := by decide +kernel
theorem dX1_passes_33 : decode cX1_passes 33 = .ok (.iload_n 1, 1) := by decide +kernel
theorem dX1_passes_34 : decode cX1_passes 34 = .ok (.imul, 1) := by decide +kernel
theorem dX1_passes_35 : decode cX1_passes 35 = .ok (.iload_n 3, 1) := by decide +kernel
theorem dX1_passes_36 : decode cX1_passes 36 = .ok (.iadd, 1) := by decide +kernel
theorem dX1_passes_37 : decode cX1_passes 37 = .ok (.iaload, 1) := by decide +kernel
theorem dX1_passes_38 : decode cX1_passes 38 = .ok (.i2l, 1) := by decide +kernel
theorem dX1_passes_39 : decode cX1_passes 39 = .ok (.lstore 8, 2) := by decide +kernel
theorem dX1_passes_41 : decode cX1_passes 41 = .ok (.aload_n 0, 1) := by decide +kernel
theorem dX1_passes_42 : decode cX1_passes 42 = .ok (.getfield 42, 3) := by decide +kernel
theorem dX1_passes_45 : decode cX1_passes 45 = .ok (.iload_n 3, 1) := by decide +kernel
theorem dX1_passes_46 : decode cX1_passes 46 = .ok (.lload 8, 2) := by decide +kernel
theorem dX1_passes_48 : decode cX1_passes 48 = .ok (.l2i, 1) := by decide +kernel
theorem dX1_passes_49 : decode cX1_passes 49 = .ok (.iastore, 1) := by decide +kernel
theorem dX1_passes_50 : decode cX1_passes 50 = .ok (.lload 4, 2) := by decide +kernel
theorem dX1_passes_52 : decode cX1_passes 52 = .ok (.lconst 0, 1) := by decide +kernel
theorem dX1_passes_53 : decode cX1_passes 53 = .ok (.lcmp, 1) := by decide +kernel
theorem dX1_passes_54 : decode cX1_passes 54 = .ok (.ifCond .le 54, 3) := by decide +kernel
theorem dX1_passes_57 : decode cX1_passes 57 = .ok (.lload 6, 2) := by decide +kernel
theorem dX1_passes_59 : decode cX1_passes 59 = .ok (.lconst 0, 1) := by decide +kernel
theorem dX1_passes_60 : decode cX1_passes 60 = .ok (.lcmp, 1) := by decide +kernel
theorem dX1_passes_61 : decode cX1_passes 61 = .ok (.ifCond .le 47, 3) := by decide +kernel
theorem dX1_passes_64 : decode cX1_passes 64 = .ok (.lload 8, 2) := by decide +kernel
theorem dX1_passes_66 : decode cX1_passes 66 = .ok (.aload_n 0, 1) := by decide +kernel
theorem dX1_passes_67 : decode cX1_passes 67 = .ok (.iload_n 1, 1) := by decide +kernel
theorem dX1_passes_68 : decode cX1_passes 68 = .ok (.iload_n 3, 1) := by decide +kernel
theorem dX1_passes_69 : decode cX1_passes 69 = .ok (.invokevirtual 109, 3) := by decide +kernel
theorem dX1_passes_72 : decode cX1_passes 72 = .ok (.lmul, 1) := by decide +kernel
theorem dX1_passes_73 : decode cX1_passes 73 = .ok (.lload 4, 2) := by decide +kernel
theorem dX1_passes_75 : decode cX1_passes 75 = .ok (.ldiv, 1) := by decide +kernel
theorem dX1_passes_76 : decode cX1_passes 76 = .ok (.lstore 10, 2) := by decide +kernel
theorem dX1_passes_78 : decode cX1_passes 78 = .ok (.aload_n 0, 1) := by decide +kernel
theorem dX1_passes_79 : decode cX1_passes 79 = .ok (.getfield 42, 3) := by decide +kernel
theorem dX1_passes_82 : decode cX1_passes 82 = .ok (.iload_n 3, 1) := by decide +kernel
theorem dX1_passes_83 : decode cX1_passes 83 = .ok (.aload_n 0, 1) := by decide +kernel
theorem dX1_passes_84 : decode cX1_passes 84 = .ok (.lload 8, 2) := by decide +kernel
theorem dX1_passes_86 : decode cX1_passes 86 = .ok (.lload 10, 2) := by decide +kernel
theorem dX1_passes_88 : decode cX1_passes 88 = .ok (.lload 8, 2) := by decide +kernel
theorem dX1_passes_90 : decode cX1_passes 90 = .ok (.lsub, 1) := by decide +kernel
theorem dX1_passes_91 : decode cX1_passes 91 = .ok (.lload 6, 2) := by decide +kernel
theorem dX1_passes_93 : decode cX1_passes 93 = .ok (.lmul, 1) := by decide +kernel
theorem dX1_passes_94 : decode cX1_passes 94 = .ok (.lload 6, 2) := by decide +kernel
theorem dX1_passes_96 : decode cX1_passes 96 = .ok (.aload_n 0, 1) := by decide +kernel
theorem dX1_passes_97 : decode cX1_passes 97 = .ok (.getfield 83, 3) := by decide +kernel
theorem dX1_passes_100 : decode cX1_passes 100 = .ok (.i2l, 1) := by decide +kernel
theorem dX1_passes_101 : decode cX1_passes 101 = .ok (.ladd, 1) := by decide +kernel
theorem dX1_passes_102 : decode cX1_passes 102 = .ok (.ldiv, 1) := by decide +kernel
theorem dX1_passes_103 : decode cX1_passes 103 = .ok (.ladd, 1) := by decide +kernel
theorem dX1_passes_104 : decode cX1_passes 104 = .ok (.invokevirtual 112, 3) := by decide +kernel
theorem dX1_passes_107 : decode cX1_passes 107 = .ok (.iastore, 1) := by decide +kernel
theorem dX1_passes_108 : decode cX1_passes 108 = .ok (.iinc 3 1, 3) := by decide +kernel
theorem dX1_passes_111 : decode cX1_passes 111 = .ok (.goto (-107), 3) := by decide +kernel
theorem dX1_passes_114 : decode cX1_passes 114 = .ok (.iconst 0, 1) := by decide +kernel
theorem dX1_passes_115 : decode cX1_passes 115 = .ok (.istore_n 3, 1) := by decide +kernel
theorem dX1_passes_116 : decode cX1_passes 116 = .ok (.iload_n 3, 1) := by decide +kernel
theorem dX1_passes_117 : decode cX1_passes 117 = .ok (.iload_n 1, 1) := by decide +kernel
theorem dX1_passes_118 : decode cX1_passes 118 = .ok (.invokestatic 59, 3) := by decide +kernel
theorem dX1_passes_121 : decode cX1_passes 121 = .ok (.if_icmp .ge 52, 3) := by decide +kernel
theorem dX1_passes_124 : decode cX1_passes 124 = .ok (.iload_n 2, 1) := by decide +kernel
theorem dX1_passes_125 : decode cX1_passes 125 = .ok (.aload_n 0, 1) := by decide +kernel
theorem dX1_passes_126 : decode cX1_passes 126 = .ok (.getfield 39, 3) := by decide +kernel
theorem dX1_passes_129 : decode cX1_passes 129 = .ok (.iconst 4, 1) := by decide +kernel
theorem dX1_passes_130 : decode cX1_passes 130 = .ok (.iload_n 1, 1) := by decide +kernel
theorem dX1_passes_131 : decode cX1_passes 131 = .ok (.imul, 1) := by decide +kernel

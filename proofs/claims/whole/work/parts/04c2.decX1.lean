theorem dX1_ranked_4 : decode cX1_ranked 4 = .ok (.lstore_n 2, 1) := by decide +kernel
theorem dX1_ranked_5 : decode cX1_ranked 5 = .ok (.iconst 0, 1) := by decide +kernel
theorem dX1_ranked_6 : decode cX1_ranked 6 = .ok (.istore 4, 2) := by decide +kernel
theorem dX1_ranked_8 : decode cX1_ranked 8 = .ok (.iload 4, 2) := by decide +kernel
theorem dX1_ranked_10 : decode cX1_ranked 10 = .ok (.aload_n 0, 1) := by decide +kernel
theorem dX1_ranked_11 : decode cX1_ranked 11 = .ok (.getfield 63, 3) := by decide +kernel
theorem dX1_ranked_14 : decode cX1_ranked 14 = .ok (.if_icmp .ge 98, 3) := by decide +kernel
theorem dX1_ranked_17 : decode cX1_ranked 17 = .ok (.iconst 0, 1) := by decide +kernel
theorem dX1_ranked_18 : decode cX1_ranked 18 = .ok (.istore 5, 2) := by decide +kernel
theorem dX1_ranked_20 : decode cX1_ranked 20 = .ok (.iconst 0, 1) := by decide +kernel
theorem dX1_ranked_21 : decode cX1_ranked 21 = .ok (.istore 6, 2) := by decide +kernel
theorem dX1_ranked_23 : decode cX1_ranked 23 = .ok (.iload 6, 2) := by decide +kernel
theorem dX1_ranked_25 : decode cX1_ranked 25 = .ok (.aload_n 0, 1) := by decide +kernel
theorem dX1_ranked_26 : decode cX1_ranked 26 = .ok (.getfield 63, 3) := by decide +kernel
theorem dX1_ranked_29 : decode cX1_ranked 29 = .ok (.if_icmp .ge 58, 3) := by decide +kernel
theorem dX1_ranked_32 : decode cX1_ranked 32 = .ok (.aload_n 0, 1) := by decide +kernel
theorem dX1_ranked_33 : decode cX1_ranked 33 = .ok (.getfield 25, 3) := by decide +kernel
theorem dX1_ranked_36 : decode cX1_ranked 36 = .ok (.iload 4, 2) := by decide +kernel
theorem dX1_ranked_38 : decode cX1_ranked 38 = .ok (.baload, 1) := by decide +kernel
theorem dX1_ranked_39 : decode cX1_ranked 39 = .ok (.ifCond .ne 48, 3) := by decide +kernel
theorem dX1_ranked_42 : decode cX1_ranked 42 = .ok (.iload 5, 2) := by decide +kernel
theorem dX1_ranked_44 : decode cX1_ranked 44 = .ok (.aload_n 0, 1) := by decide +kernel
theorem dX1_ranked_45 : decode cX1_ranked 45 = .ok (.getfield 25, 3) := by decide +kernel
theorem dX1_ranked_48 : decode cX1_ranked 48 = .ok (.iload 6, 2) := by decide +kernel
theorem dX1_ranked_50 : decode cX1_ranked 50 = .ok (.baload, 1) := by decide +kernel
theorem dX1_ranked_51 : decode cX1_ranked 51 = .ok (.ifCond .ne 26, 3) := by decide +kernel
theorem dX1_ranked_54 : decode cX1_ranked 54 = .ok (.iload 6, 2) := by decide +kernel
theorem dX1_ranked_56 : decode cX1_ranked 56 = .ok (.iload 4, 2) := by decide +kernel
theorem dX1_ranked_58 : decode cX1_ranked 58 = .ok (.if_icmp .eq 19, 3) := by decide +kernel
theorem dX1_ranked_61 : decode cX1_ranked 61 = .ok (.aload_n 0, 1) := by decide +kernel
theorem dX1_ranked_62 : decode cX1_ranked 62 = .ok (.iload 6, 2) := by decide +kernel
theorem dX1_ranked_64 : decode cX1_ranked 64 = .ok (.iload 4, 2) := by decide +kernel
theorem dX1_ranked_66 : decode cX1_ranked 66 = .ok (.lload_n 2, 1) := by decide +kernel
theorem dX1_ranked_67 : decode cX1_ranked 67 = .ok (.invokevirtual 144, 3) := by decide +kernel
theorem dX1_ranked_70 : decode cX1_ranked 70 = .ok (.ifCond .eq 7, 3) := by decide +kernel
theorem dX1_ranked_73 : decode cX1_ranked 73 = .ok (.iconst 1, 1) := by decide +kernel
theorem dX1_ranked_74 : decode cX1_ranked 74 = .ok (.goto 4, 3) := by decide +kernel
theorem dX1_ranked_77 : decode cX1_ranked 77 = .ok (.iconst 0, 1) := by decide +kernel
theorem dX1_ranked_78 : decode cX1_ranked 78 = .ok (.iadd, 1) := by decide +kernel
theorem dX1_ranked_79 : decode cX1_ranked 79 = .ok (.istore 5, 2) := by decide +kernel
theorem dX1_ranked_81 : decode cX1_ranked 81 = .ok (.iinc 6 1, 3) := by decide +kernel
theorem dX1_ranked_84 : decode cX1_ranked 84 = .ok (.goto (-61), 3) := by decide +kernel
theorem dX1_ranked_87 : decode cX1_ranked 87 = .ok (.aload_n 0, 1) := by decide +kernel
theorem dX1_ranked_88 : decode cX1_ranked 88 = .ok (.getfield 25, 3) := by decide +kernel
theorem dX1_ranked_91 : decode cX1_ranked 91 = .ok (.iload 4, 2) := by decide +kernel
theorem dX1_ranked_93 : decode cX1_ranked 93 = .ok (.baload, 1) := by decide +kernel
theorem dX1_ranked_94 : decode cX1_ranked 94 = .ok (.ifCond .ne 12, 3) := by decide +kernel
theorem dX1_ranked_97 : decode cX1_ranked 97 = .ok (.iload 5, 2) := by decide +kernel
theorem dX1_ranked_99 : decode cX1_ranked 99 = .ok (.iload_n 1, 1) := by decide +kernel
theorem dX1_ranked_100 : decode cX1_ranked 100 = .ok (.if_icmp .ne 6, 3) := by decide +kernel
theorem dX1_ranked_103 : decode cX1_ranked 103 = .ok (.iload 4, 2) := by decide +kernel
theorem dX1_ranked_105 : decode cX1_ranked 105 = .ok (.ireturn, 1) := by decide +kernel
theorem dX1_ranked_106 : decode cX1_ranked 106 = .ok (.iinc 4 1, 3) := by decide +kernel
theorem dX1_ranked_109 : decode cX1_ranked 109 = .ok (.goto (-101), 3) := by decide +kernel
theorem dX1_ranked_112 : decode cX1_ranked 112 = .ok (.iconst (-1), 1) := by decide +kernel
theorem dX1_ranked_113 : decode cX1_ranked 113 = .ok (.ireturn, 1) := by decide +kernel
set_option maxRecDepth 20000 in
theorem dX1_rankedAt_0 : decode cX1_rankedAt 0 = .ok (.iload_n 1, 1) := by decide +kernel
theorem dX1_rankedAt_1 : decode cX1_rankedAt 1 = .ok (.ifCond .ge 7, 3) := by decide +kernel
theorem dX1_rankedAt_4 : decode cX1_rankedAt 4 = .ok (.iconst (-1), 1) := by decide +kernel
theorem dX1_rankedAt_5 : decode cX1_rankedAt 5 = .ok (.goto 8, 3) := by decide +kernel
theorem dX1_rankedAt_8 : decode cX1_rankedAt 8 = .ok (.aload_n 0, 1) := by decide +kernel
theorem dX1_rankedAt_9 : decode cX1_rankedAt 9 = .ok (.iload_n 1, 1) := by decide +kernel
theorem dX1_rankedAt_10 : decode cX1_rankedAt 10 = .ok (.invokevirtual 148, 3) := by decide +kernel
theorem dX1_rankedAt_13 : decode cX1_rankedAt 13 = .ok (.istore_n 2, 1) := by decide +kernel
theorem dX1_rankedAt_14 : decode cX1_rankedAt 14 = .ok (.aload_n 0, 1) := by decide +kernel
theorem dX1_rankedAt_15 : decode cX1_rankedAt 15 = .ok (.iload_n 2, 1) := by decide +kernel
theorem dX1_rankedAt_16 : decode cX1_rankedAt 16 = .ok (.iconst (-1), 1) := by decide +kernel
theorem dX1_rankedAt_17 : decode cX1_rankedAt 17 = .ok (.if_icmp .eq 7, 3) := by decide +kernel
theorem dX1_rankedAt_20 : decode cX1_rankedAt 20 = .ok (.iconst 1, 1) := by decide +kernel
theorem dX1_rankedAt_21 : decode cX1_rankedAt 21 = .ok (.goto 4, 3) := by decide +kernel
theorem dX1_rankedAt_24 : decode cX1_rankedAt 24 = .ok (.iconst 0, 1) := by decide +kernel
theorem dX1_rankedAt_25 : decode cX1_rankedAt 25 = .ok (.iconst 1, 1) := by decide +kernel
theorem dX1_rankedAt_26 : decode cX1_rankedAt 26 = .ok (.iconst 1, 1) := by decide +kernel
theorem dX1_rankedAt_27 : decode cX1_rankedAt 27 = .ok (.invokevirtual 71, 3) := by decide +kernel
theorem dX1_rankedAt_30 : decode cX1_rankedAt 30 = .ok (.ifCond .eq 7, 3) := by decide +kernel
theorem dX1_rankedAt_33 : decode cX1_rankedAt 33 = .ok (.iload_n 2, 1) := by decide +kernel
theorem dX1_rankedAt_34 : decode cX1_rankedAt 34 = .ok (.goto 4, 3) := by decide +kernel
theorem dX1_rankedAt_37 : decode cX1_rankedAt 37 = .ok (.iconst 0, 1) := by decide +kernel
theorem dX1_rankedAt_38 : decode cX1_rankedAt 38 = .ok (.ireturn, 1) := by decide +kernel

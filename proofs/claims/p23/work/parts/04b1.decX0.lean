theorem dX0_levelTotal_41 : decode cX0_levelTotal 41 = .ok (.iload 6, 2) := by decide +kernel
theorem dX0_levelTotal_43 : decode cX0_levelTotal 43 = .ok (.laload, 1) := by decide +kernel
theorem dX0_levelTotal_44 : decode cX0_levelTotal 44 = .ok (.ladd, 1) := by decide +kernel
theorem dX0_levelTotal_45 : decode cX0_levelTotal 45 = .ok (.lstore 4, 2) := by decide +kernel
theorem dX0_levelTotal_47 : decode cX0_levelTotal 47 = .ok (.iinc 6 1, 3) := by decide +kernel
theorem dX0_levelTotal_50 : decode cX0_levelTotal 50 = .ok (.goto (-44), 3) := by decide +kernel
theorem dX0_levelTotal_53 : decode cX0_levelTotal 53 = .ok (.lload 4, 2) := by decide +kernel
theorem dX0_levelTotal_55 : decode cX0_levelTotal 55 = .ok (.lreturn, 1) := by decide +kernel
theorem dX0_cappedTotal_0 : decode cX0_cappedTotal 0 = .ok (.lconst 0, 1) := by decide +kernel
theorem dX0_cappedTotal_1 : decode cX0_cappedTotal 1 = .ok (.lstore_n 1, 1) := by decide +kernel
theorem dX0_cappedTotal_2 : decode cX0_cappedTotal 2 = .ok (.iconst 0, 1) := by decide +kernel
theorem dX0_cappedTotal_3 : decode cX0_cappedTotal 3 = .ok (.istore_n 3, 1) := by decide +kernel
theorem dX0_cappedTotal_4 : decode cX0_cappedTotal 4 = .ok (.iload_n 3, 1) := by decide +kernel
theorem dX0_cappedTotal_5 : decode cX0_cappedTotal 5 = .ok (.aload_n 0, 1) := by decide +kernel
theorem dX0_cappedTotal_6 : decode cX0_cappedTotal 6 = .ok (.getfield 35, 3) := by decide +kernel
theorem dX0_cappedTotal_9 : decode cX0_cappedTotal 9 = .ok (.if_icmp .ge 26, 3) := by decide +kernel
theorem dX0_cappedTotal_12 : decode cX0_cappedTotal 12 = .ok (.aload_n 0, 1) := by decide +kernel
theorem dX0_cappedTotal_13 : decode cX0_cappedTotal 13 = .ok (.getfield 31, 3) := by decide +kernel
theorem dX0_cappedTotal_16 : decode cX0_cappedTotal 16 = .ok (.iload_n 3, 1) := by decide +kernel
theorem dX0_cappedTotal_17 : decode cX0_cappedTotal 17 = .ok (.baload, 1) := by decide +kernel
theorem dX0_cappedTotal_18 : decode cX0_cappedTotal 18 = .ok (.ifCond .eq 11, 3) := by decide +kernel
theorem dX0_cappedTotal_21 : decode cX0_cappedTotal 21 = .ok (.lload_n 1, 1) := by decide +kernel
theorem dX0_cappedTotal_22 : decode cX0_cappedTotal 22 = .ok (.aload_n 0, 1) := by decide +kernel
theorem dX0_cappedTotal_23 : decode cX0_cappedTotal 23 = .ok (.iload_n 3, 1) := by decide +kernel
theorem dX0_cappedTotal_24 : decode cX0_cappedTotal 24 = .ok (.invokevirtual 180, 3) := by decide +kernel
theorem dX0_cappedTotal_27 : decode cX0_cappedTotal 27 = .ok (.ladd, 1) := by decide +kernel
theorem dX0_cappedTotal_28 : decode cX0_cappedTotal 28 = .ok (.lstore_n 1, 1) := by decide +kernel
theorem dX0_cappedTotal_29 : decode cX0_cappedTotal 29 = .ok (.iinc 3 1, 3) := by decide +kernel
theorem dX0_cappedTotal_32 : decode cX0_cappedTotal 32 = .ok (.goto (-28), 3) := by decide +kernel
theorem dX0_cappedTotal_35 : decode cX0_cappedTotal 35 = .ok (.lload_n 1, 1) := by decide +kernel
theorem dX0_cappedTotal_36 : decode cX0_cappedTotal 36 = .ok (.lreturn, 1) := by decide +kernel
theorem dX0_refit_0 : decode cX0_refit 0 = .ok (.aload_n 0, 1) := by decide +kernel
theorem dX0_refit_1 : decode cX0_refit 1 = .ok (.aload_n 0, 1) := by decide +kernel
theorem dX0_refit_2 : decode cX0_refit 2 = .ok (.getfield 17, 3) := by decide +kernel
theorem dX0_refit_5 : decode cX0_refit 5 = .ok (.invokevirtual 149, 3) := by decide +kernel
theorem dX0_refit_8 : decode cX0_refit 8 = .ok (.lstore_n 1, 1) := by decide +kernel
theorem dX0_refit_9 : decode cX0_refit 9 = .ok (.aload_n 0, 1) := by decide +kernel
theorem dX0_refit_10 : decode cX0_refit 10 = .ok (.lload_n 1, 1) := by decide +kernel
theorem dX0_refit_11 : decode cX0_refit 11 = .ok (.lconst 0, 1) := by decide +kernel
theorem dX0_refit_12 : decode cX0_refit 12 = .ok (.lcmp, 1) := by decide +kernel
theorem dX0_refit_13 : decode cX0_refit 13 = .ok (.ifCond .le 20, 3) := by decide +kernel
theorem dX0_refit_16 : decode cX0_refit 16 = .ok (.ldc2_w 147, 3) := by decide +kernel
theorem dX0_refit_19 : decode cX0_refit 19 = .ok (.aload_n 0, 1) := by decide +kernel
theorem dX0_refit_20 : decode cX0_refit 20 = .ok (.aload_n 0, 1) := by decide +kernel
theorem dX0_refit_21 : decode cX0_refit 21 = .ok (.getfield 24, 3) := by decide +kernel
theorem dX0_refit_24 : decode cX0_refit 24 = .ok (.invokevirtual 149, 3) := by decide +kernel
theorem dX0_refit_27 : decode cX0_refit 27 = .ok (.lmul, 1) := by decide +kernel
theorem dX0_refit_28 : decode cX0_refit 28 = .ok (.lload_n 1, 1) := by decide +kernel
theorem dX0_refit_29 : decode cX0_refit 29 = .ok (.ldiv, 1) := by decide +kernel
theorem dX0_refit_30 : decode cX0_refit 30 = .ok (.goto 4, 3) := by decide +kernel
theorem dX0_refit_33 : decode cX0_refit 33 = .ok (.lconst 0, 1) := by decide +kernel
theorem dX0_refit_34 : decode cX0_refit 34 = .ok (.putfield 51, 3) := by decide +kernel
theorem dX0_refit_37 : decode cX0_refit 37 = .ok (.iconst 0, 1) := by decide +kernel
theorem dX0_refit_38 : decode cX0_refit 38 = .ok (.istore_n 3, 1) := by decide +kernel
theorem dX0_refit_39 : decode cX0_refit 39 = .ok (.iload_n 3, 1) := by decide +kernel
theorem dX0_refit_40 : decode cX0_refit 40 = .ok (.aload_n 0, 1) := by decide +kernel
theorem dX0_refit_41 : decode cX0_refit 41 = .ok (.getfield 35, 3) := by decide +kernel
theorem dX0_refit_44 : decode cX0_refit 44 = .ok (.if_icmp .ge 20, 3) := by decide +kernel
theorem dX0_refit_47 : decode cX0_refit 47 = .ok (.aload_n 0, 1) := by decide +kernel
theorem dX0_refit_48 : decode cX0_refit 48 = .ok (.getfield 55, 3) := by decide +kernel
theorem dX0_refit_51 : decode cX0_refit 51 = .ok (.iload_n 3, 1) := by decide +kernel
theorem dX0_refit_52 : decode cX0_refit 52 = .ok (.aload_n 0, 1) := by decide +kernel
theorem dX0_refit_53 : decode cX0_refit 53 = .ok (.iload_n 3, 1) := by decide +kernel
theorem dX0_refit_54 : decode cX0_refit 54 = .ok (.invokevirtual 188, 3) := by decide +kernel
theorem dX0_refit_57 : decode cX0_refit 57 = .ok (.lastore, 1) := by decide +kernel
theorem dX0_refit_58 : decode cX0_refit 58 = .ok (.iinc 3 1, 3) := by decide +kernel
theorem dX0_refit_61 : decode cX0_refit 61 = .ok (.goto (-22), 3) := by decide +kernel
theorem dX0_refit_64 : decode cX0_refit 64 = .ok (.return_, 1) := by decide +kernel
theorem dX0_fittedLoss_0 : decode cX0_fittedLoss 0 = .ok (.aload_n 0, 1) := by decide +kernel
theorem dX0_fittedLoss_1 : decode cX0_fittedLoss 1 = .ok (.getfield 17, 3) := by decide +kernel
theorem dX0_fittedLoss_4 : decode cX0_fittedLoss 4 = .ok (.iload_n 1, 1) := by decide +kernel
theorem dX0_fittedLoss_5 : decode cX0_fittedLoss 5 = .ok (.laload, 1) := by decide +kernel
theorem dX0_fittedLoss_6 : decode cX0_fittedLoss 6 = .ok (.aload_n 0, 1) := by decide +kernel
theorem dX0_fittedLoss_7 : decode cX0_fittedLoss 7 = .ok (.getfield 51, 3) := by decide +kernel
theorem dX0_fittedLoss_10 : decode cX0_fittedLoss 10 = .ok (.lmul, 1) := by decide +kernel
theorem dX0_fittedLoss_11 : decode cX0_fittedLoss 11 = .ok (.ldc2_w 147, 3) := by decide +kernel
theorem dX0_fittedLoss_14 : decode cX0_fittedLoss 14 = .ok (.ldiv, 1) := by decide +kernel
theorem dX0_fittedLoss_15 : decode cX0_fittedLoss 15 = .ok (.lstore_n 2, 1) := by decide +kernel
theorem dX0_fittedLoss_16 : decode cX0_fittedLoss 16 = .ok (.iconst 0, 1) := by decide +kernel
theorem dX0_fittedLoss_17 : decode cX0_fittedLoss 17 = .ok (.istore 4, 2) := by decide +kernel
theorem dX0_fittedLoss_19 : decode cX0_fittedLoss 19 = .ok (.iload 4, 2) := by decide +kernel
theorem dX0_fittedLoss_21 : decode cX0_fittedLoss 21 = .ok (.iconst 3, 1) := by decide +kernel
theorem dX0_fittedLoss_22 : decode cX0_fittedLoss 22 = .ok (.if_icmp .ge 34, 3) := by decide +kernel
theorem dX0_fittedLoss_25 : decode cX0_fittedLoss 25 = .ok (.lload_n 2, 1) := by decide +kernel
theorem dX0_fittedLoss_26 : decode cX0_fittedLoss 26 = .ok (.aload_n 0, 1) := by decide +kernel
theorem dX0_fittedLoss_27 : decode cX0_fittedLoss 27 = .ok (.getfield 11, 3) := by decide +kernel
theorem dX0_fittedLoss_30 : decode cX0_fittedLoss 30 = .ok (.iload 4, 2) := by decide +kernel
theorem dX0_fittedLoss_32 : decode cX0_fittedLoss 32 = .ok (.aaload, 1) := by decide +kernel
theorem dX0_fittedLoss_33 : decode cX0_fittedLoss 33 = .ok (.aload_n 0, 1) := by decide +kernel
theorem dX0_fittedLoss_34 : decode cX0_fittedLoss 34 = .ok (.getfield 14, 3) := by decide +kernel
theorem dX0_fittedLoss_37 : decode cX0_fittedLoss 37 = .ok (.iload 4, 2) := by decide +kernel
theorem dX0_fittedLoss_39 : decode cX0_fittedLoss 39 = .ok (.aaload, 1) := by decide +kernel
theorem dX0_fittedLoss_40 : decode cX0_fittedLoss 40 = .ok (.iload_n 1, 1) := by decide +kernel
theorem dX0_fittedLoss_41 : decode cX0_fittedLoss 41 = .ok (.iaload, 1) := by decide +kernel
theorem dX0_fittedLoss_42 : decode cX0_fittedLoss 42 = .ok (.iaload, 1) := by decide +kernel
theorem dX0_fittedLoss_43 : decode cX0_fittedLoss 43 = .ok (.i2l, 1) := by decide +kernel
theorem dX0_fittedLoss_44 : decode cX0_fittedLoss 44 = .ok (.lmul, 1) := by decide +kernel
theorem dX0_fittedLoss_45 : decode cX0_fittedLoss 45 = .ok (.ldc2_w 147, 3) := by decide +kernel
theorem dX0_fittedLoss_48 : decode cX0_fittedLoss 48 = .ok (.ldiv, 1) := by decide +kernel
theorem dX0_fittedLoss_49 : decode cX0_fittedLoss 49 = .ok (.lstore_n 2, 1) := by decide +kernel
theorem dX0_fittedLoss_50 : decode cX0_fittedLoss 50 = .ok (.iinc 4 1, 3) := by decide +kernel
theorem dX0_fittedLoss_53 : decode cX0_fittedLoss 53 = .ok (.goto (-34), 3) := by decide +kernel
theorem dX0_fittedLoss_56 : decode cX0_fittedLoss 56 = .ok (.lload_n 2, 1) := by decide +kernel
theorem dX0_fittedLoss_57 : decode cX0_fittedLoss 57 = .ok (.lreturn, 1) := by decide +kernel
theorem dX0_changedByRound_0 : decode cX0_changedByRound 0 = .ok (.iconst 0, 1) := by decide +kernel
theorem dX0_changedByRound_1 : decode cX0_changedByRound 1 = .ok (.istore_n 1, 1) := by decide +kernel
theorem dX0_changedByRound_2 : decode cX0_changedByRound 2 = .ok (.iconst 0, 1) := by decide +kernel
theorem dX0_changedByRound_3 : decode cX0_changedByRound 3 = .ok (.istore_n 2, 1) := by decide +kernel
theorem dX0_changedByRound_4 : decode cX0_changedByRound 4 = .ok (.iload_n 2, 1) := by decide +kernel
theorem dX0_changedByRound_5 : decode cX0_changedByRound 5 = .ok (.iconst 3, 1) := by decide +kernel
theorem dX0_changedByRound_6 : decode cX0_changedByRound 6 = .ok (.if_icmp .ge 17, 3) := by decide +kernel
theorem dX0_changedByRound_9 : decode cX0_changedByRound 9 = .ok (.iload_n 1, 1) := by decide +kernel
theorem dX0_changedByRound_10 : decode cX0_changedByRound 10 = .ok (.aload_n 0, 1) := by decide +kernel
theorem dX0_changedByRound_11 : decode cX0_changedByRound 11 = .ok (.iload_n 2, 1) := by decide +kernel
theorem dX0_changedByRound_12 : decode cX0_changedByRound 12 = .ok (.invokevirtual 122, 3) := by decide +kernel
theorem dX0_changedByRound_15 : decode cX0_changedByRound 15 = .ok (.iadd, 1) := by decide +kernel
theorem dX0_changedByRound_16 : decode cX0_changedByRound 16 = .ok (.istore_n 1, 1) := by decide +kernel
theorem dX0_changedByRound_17 : decode cX0_changedByRound 17 = .ok (.iinc 2 1, 3) := by decide +kernel
theorem dX0_changedByRound_20 : decode cX0_changedByRound 20 = .ok (.goto (-16), 3) := by decide +kernel
theorem dX0_changedByRound_23 : decode cX0_changedByRound 23 = .ok (.iload_n 1, 1) := by decide +kernel
theorem dX0_changedByRound_24 : decode cX0_changedByRound 24 = .ok (.ireturn, 1) := by decide +kernel
theorem dX0_passOver_0 : decode cX0_passOver 0 = .ok (.iconst 0, 1) := by decide +kernel
theorem dX0_passOver_1 : decode cX0_passOver 1 = .ok (.istore_n 2, 1) := by decide +kernel
theorem dX0_passOver_2 : decode cX0_passOver 2 = .ok (.iconst 0, 1) := by decide +kernel
theorem dX0_passOver_3 : decode cX0_passOver 3 = .ok (.istore_n 3, 1) := by decide +kernel
theorem dX0_passOver_4 : decode cX0_passOver 4 = .ok (.iload_n 3, 1) := by decide +kernel
theorem dX0_passOver_5 : decode cX0_passOver 5 = .ok (.getstatic 130, 3) := by decide +kernel
theorem dX0_passOver_8 : decode cX0_passOver 8 = .ok (.iload_n 1, 1) := by decide +kernel
theorem dX0_passOver_9 : decode cX0_passOver 9 = .ok (.iaload, 1) := by decide +kernel
theorem dX0_passOver_10 : decode cX0_passOver 10 = .ok (.if_icmp .ge 43, 3) := by decide +kernel
theorem dX0_passOver_13 : decode cX0_passOver 13 = .ok (.aload_n 0, 1) := by decide +kernel
theorem dX0_passOver_14 : decode cX0_passOver 14 = .ok (.iload_n 1, 1) := by decide +kernel
theorem dX0_passOver_15 : decode cX0_passOver 15 = .ok (.iload_n 3, 1) := by decide +kernel
theorem dX0_passOver_16 : decode cX0_passOver 16 = .ok (.invokevirtual 191, 3) := by decide +kernel
theorem dX0_passOver_19 : decode cX0_passOver 19 = .ok (.istore 4, 2) := by decide +kernel
theorem dX0_passOver_21 : decode cX0_passOver 21 = .ok (.iload 4, 2) := by decide +kernel
theorem dX0_passOver_23 : decode cX0_passOver 23 = .ok (.aload_n 0, 1) := by decide +kernel
theorem dX0_passOver_24 : decode cX0_passOver 24 = .ok (.getfield 11, 3) := by decide +kernel
theorem dX0_passOver_27 : decode cX0_passOver 27 = .ok (.iload_n 1, 1) := by decide +kernel
theorem dX0_passOver_28 : decode cX0_passOver 28 = .ok (.aaload, 1) := by decide +kernel
theorem dX0_passOver_29 : decode cX0_passOver 29 = .ok (.iload_n 3, 1) := by decide +kernel
theorem dX0_passOver_30 : decode cX0_passOver 30 = .ok (.iaload, 1) := by decide +kernel
theorem dX0_passOver_31 : decode cX0_passOver 31 = .ok (.if_icmp .eq 16, 3) := by decide +kernel
theorem dX0_passOver_34 : decode cX0_passOver 34 = .ok (.aload_n 0, 1) := by decide +kernel
theorem dX0_passOver_35 : decode cX0_passOver 35 = .ok (.getfield 11, 3) := by decide +kernel
theorem dX0_passOver_38 : decode cX0_passOver 38 = .ok (.iload_n 1, 1) := by decide +kernel
theorem dX0_passOver_39 : decode cX0_passOver 39 = .ok (.aaload, 1) := by decide +kernel
theorem dX0_passOver_40 : decode cX0_passOver 40 = .ok (.iload_n 3, 1) := by decide +kernel
theorem dX0_passOver_41 : decode cX0_passOver 41 = .ok (.iload 4, 2) := by decide +kernel
theorem dX0_passOver_43 : decode cX0_passOver 43 = .ok (.iastore, 1) := by decide +kernel
theorem dX0_passOver_44 : decode cX0_passOver 44 = .ok (.iinc 2 1, 3) := by decide +kernel
theorem dX0_passOver_47 : decode cX0_passOver 47 = .ok (.iinc 3 1, 3) := by decide +kernel
theorem dX0_passOver_50 : decode cX0_passOver 50 = .ok (.goto (-46), 3) := by decide +kernel
theorem dX0_passOver_53 : decode cX0_passOver 53 = .ok (.aload_n 0, 1) := by decide +kernel
theorem dX0_passOver_54 : decode cX0_passOver 54 = .ok (.invokevirtual 93, 3) := by decide +kernel
theorem dX0_passOver_57 : decode cX0_passOver 57 = .ok (.iload_n 2, 1) := by decide +kernel
theorem dX0_passOver_58 : decode cX0_passOver 58 = .ok (.ireturn, 1) := by decide +kernel
theorem dX0_foundFactor_0 : decode cX0_foundFactor 0 = .ok (.aload_n 0, 1) := by decide +kernel
theorem dX0_foundFactor_1 : decode cX0_foundFactor 1 = .ok (.getfield 11, 3) := by decide +kernel
theorem dX0_foundFactor_4 : decode cX0_foundFactor 4 = .ok (.iload_n 1, 1) := by decide +kernel
theorem dX0_foundFactor_5 : decode cX0_foundFactor 5 = .ok (.aaload, 1) := by decide +kernel
theorem dX0_foundFactor_6 : decode cX0_foundFactor 6 = .ok (.iload_n 2, 1) := by decide +kernel
theorem dX0_foundFactor_7 : decode cX0_foundFactor 7 = .ok (.iaload, 1) := by decide +kernel
theorem dX0_foundFactor_8 : decode cX0_foundFactor 8 = .ok (.istore_n 3, 1) := by decide +kernel
theorem dX0_foundFactor_9 : decode cX0_foundFactor 9 = .ok (.aload_n 0, 1) := by decide +kernel
theorem dX0_foundFactor_10 : decode cX0_foundFactor 10 = .ok (.aload_n 0, 1) := by decide +kernel
theorem dX0_foundFactor_11 : decode cX0_foundFactor 11 = .ok (.getfield 55, 3) := by decide +kernel
theorem dX0_foundFactor_14 : decode cX0_foundFactor 14 = .ok (.iload_n 1, 1) := by decide +kernel
theorem dX0_foundFactor_15 : decode cX0_foundFactor 15 = .ok (.iload_n 2, 1) := by decide +kernel
theorem dX0_foundFactor_16 : decode cX0_foundFactor 16 = .ok (.invokevirtual 165, 3) := by decide +kernel
theorem dX0_foundFactor_19 : decode cX0_foundFactor 19 = .ok (.lstore 4, 2) := by decide +kernel
theorem dX0_foundFactor_21 : decode cX0_foundFactor 21 = .ok (.aload_n 0, 1) := by decide +kernel
theorem dX0_foundFactor_22 : decode cX0_foundFactor 22 = .ok (.aload_n 0, 1) := by decide +kernel
theorem dX0_foundFactor_23 : decode cX0_foundFactor 23 = .ok (.getfield 21, 3) := by decide +kernel
theorem dX0_foundFactor_26 : decode cX0_foundFactor 26 = .ok (.iload_n 1, 1) := by decide +kernel
theorem dX0_foundFactor_27 : decode cX0_foundFactor 27 = .ok (.iload_n 2, 1) := by decide +kernel
theorem dX0_foundFactor_28 : decode cX0_foundFactor 28 = .ok (.invokevirtual 165, 3) := by decide +kernel
theorem dX0_foundFactor_31 : decode cX0_foundFactor 31 = .ok (.lstore 6, 2) := by decide +kernel
theorem dX0_foundFactor_33 : decode cX0_foundFactor 33 = .ok (.lload 4, 2) := by decide +kernel
theorem dX0_foundFactor_35 : decode cX0_foundFactor 35 = .ok (.lconst 0, 1) := by decide +kernel
theorem dX0_foundFactor_36 : decode cX0_foundFactor 36 = .ok (.lcmp, 1) := by decide +kernel
theorem dX0_foundFactor_37 : decode cX0_foundFactor 37 = .ok (.ifCond .le 10, 3) := by decide +kernel
theorem dX0_foundFactor_40 : decode cX0_foundFactor 40 = .ok (.lload 6, 2) := by decide +kernel
theorem dX0_foundFactor_42 : decode cX0_foundFactor 42 = .ok (.lconst 0, 1) := by decide +kernel
theorem dX0_foundFactor_43 : decode cX0_foundFactor 43 = .ok (.lcmp, 1) := by decide +kernel
theorem dX0_foundFactor_44 : decode cX0_foundFactor 44 = .ok (.ifCond .gt 5, 3) := by decide +kernel
theorem dX0_foundFactor_47 : decode cX0_foundFactor 47 = .ok (.iload_n 3, 1) := by decide +kernel
theorem dX0_foundFactor_48 : decode cX0_foundFactor 48 = .ok (.ireturn, 1) := by decide +kernel
theorem dX0_foundFactor_49 : decode cX0_foundFactor 49 = .ok (.iload_n 3, 1) := by decide +kernel
theorem dX0_foundFactor_50 : decode cX0_foundFactor 50 = .ok (.i2l, 1) := by decide +kernel
theorem dX0_foundFactor_51 : decode cX0_foundFactor 51 = .ok (.aload_n 0, 1) := by decide +kernel
theorem dX0_foundFactor_52 : decode cX0_foundFactor 52 = .ok (.aload_n 0, 1) := by decide +kernel
theorem dX0_foundFactor_53 : decode cX0_foundFactor 53 = .ok (.getfield 24, 3) := by decide +kernel
theorem dX0_foundFactor_56 : decode cX0_foundFactor 56 = .ok (.iload_n 1, 1) := by decide +kernel
theorem dX0_foundFactor_57 : decode cX0_foundFactor 57 = .ok (.iload_n 2, 1) := by decide +kernel
theorem dX0_foundFactor_58 : decode cX0_foundFactor 58 = .ok (.invokevirtual 165, 3) := by decide +kernel
theorem dX0_foundFactor_61 : decode cX0_foundFactor 61 = .ok (.lmul, 1) := by decide +kernel
theorem dX0_foundFactor_62 : decode cX0_foundFactor 62 = .ok (.lload 4, 2) := by decide +kernel
theorem dX0_foundFactor_64 : decode cX0_foundFactor 64 = .ok (.ldiv, 1) := by decide +kernel
theorem dX0_foundFactor_65 : decode cX0_foundFactor 65 = .ok (.lstore 8, 2) := by decide +kernel
theorem dX0_foundFactor_67 : decode cX0_foundFactor 67 = .ok (.lload 8, 2) := by decide +kernel
theorem dX0_foundFactor_69 : decode cX0_foundFactor 69 = .ok (.iload_n 3, 1) := by decide +kernel
theorem dX0_foundFactor_70 : decode cX0_foundFactor 70 = .ok (.i2l, 1) := by decide +kernel
theorem dX0_foundFactor_71 : decode cX0_foundFactor 71 = .ok (.lsub, 1) := by decide +kernel
theorem dX0_foundFactor_72 : decode cX0_foundFactor 72 = .ok (.lload 6, 2) := by decide +kernel
theorem dX0_foundFactor_74 : decode cX0_foundFactor 74 = .ok (.lmul, 1) := by decide +kernel
theorem dX0_foundFactor_75 : decode cX0_foundFactor 75 = .ok (.lload 6, 2) := by decide +kernel
theorem dX0_foundFactor_77 : decode cX0_foundFactor 77 = .ok (.aload_n 0, 1) := by decide +kernel
theorem dX0_foundFactor_78 : decode cX0_foundFactor 78 = .ok (.getfield 42, 3) := by decide +kernel
theorem dX0_foundFactor_81 : decode cX0_foundFactor 81 = .ok (.i2l, 1) := by decide +kernel
theorem dX0_foundFactor_82 : decode cX0_foundFactor 82 = .ok (.ladd, 1) := by decide +kernel
theorem dX0_foundFactor_83 : decode cX0_foundFactor 83 = .ok (.ldiv, 1) := by decide +kernel
theorem dX0_foundFactor_84 : decode cX0_foundFactor 84 = .ok (.lstore 10, 2) := by decide +kernel
theorem dX0_foundFactor_86 : decode cX0_foundFactor 86 = .ok (.iload_n 3, 1) := by decide +kernel
theorem dX0_foundFactor_87 : decode cX0_foundFactor 87 = .ok (.i2l, 1) := by decide +kernel
theorem dX0_foundFactor_88 : decode cX0_foundFactor 88 = .ok (.lload 10, 2) := by decide +kernel
theorem dX0_foundFactor_90 : decode cX0_foundFactor 90 = .ok (.ladd, 1) := by decide +kernel
theorem dX0_foundFactor_91 : decode cX0_foundFactor 91 = .ok (.ldc2_w 195, 3) := by decide +kernel
theorem dX0_foundFactor_94 : decode cX0_foundFactor 94 = .ok (.ldc2_w 197, 3) := by decide +kernel
theorem dX0_foundFactor_97 : decode cX0_foundFactor 97 = .ok (.invokestatic 161, 3) := by decide +kernel
theorem dX0_foundFactor_100 : decode cX0_foundFactor 100 = .ok (.l2i, 1) := by decide +kernel
theorem dX0_foundFactor_101 : decode cX0_foundFactor 101 = .ok (.ireturn, 1) := by decide +kernel
theorem dX0_bounded_0 : decode cX0_bounded 0 = .ok (.lload_n 0, 1) := by decide +kernel
theorem dX0_bounded_1 : decode cX0_bounded 1 = .ok (.lload_n 2, 1) := by decide +kernel
theorem dX0_bounded_2 : decode cX0_bounded 2 = .ok (.invokestatic 173, 3) := by decide +kernel
theorem dX0_bounded_5 : decode cX0_bounded 5 = .ok (.lload 4, 2) := by decide +kernel
theorem dX0_bounded_7 : decode cX0_bounded 7 = .ok (.invokestatic 155, 3) := by decide +kernel
theorem dX0_bounded_10 : decode cX0_bounded 10 = .ok (.lreturn, 1) := by decide +kernel
theorem dX0_lowestFallingLevel_0 : decode cX0_lowestFallingLevel 0 = .ok (.iconst 1, 1) := by decide +kernel
theorem dX0_lowestFallingLevel_1 : decode cX0_lowestFallingLevel 1 = .ok (.istore_n 2, 1) := by decide +kernel
theorem dX0_lowestFallingLevel_2 : decode cX0_lowestFallingLevel 2 = .ok (.iload_n 2, 1) := by decide +kernel
theorem dX0_lowestFallingLevel_3 : decode cX0_lowestFallingLevel 3 = .ok (.getstatic 130, 3) := by decide +kernel
theorem dX0_lowestFallingLevel_6 : decode cX0_lowestFallingLevel 6 = .ok (.iload_n 1, 1) := by decide +kernel
theorem dX0_lowestFallingLevel_7 : decode cX0_lowestFallingLevel 7 = .ok (.iaload, 1) := by decide +kernel
theorem dX0_lowestFallingLevel_8 : decode cX0_lowestFallingLevel 8 = .ok (.if_icmp .ge 32, 3) := by decide +kernel
theorem dX0_lowestFallingLevel_11 : decode cX0_lowestFallingLevel 11 = .ok (.aload_n 0, 1) := by decide +kernel
theorem dX0_lowestFallingLevel_12 : decode cX0_lowestFallingLevel 12 = .ok (.getfield 11, 3) := by decide +kernel
theorem dX0_lowestFallingLevel_15 : decode cX0_lowestFallingLevel 15 = .ok (.iload_n 1, 1) := by decide +kernel
theorem dX0_lowestFallingLevel_16 : decode cX0_lowestFallingLevel 16 = .ok (.aaload, 1) := by decide +kernel
theorem dX0_lowestFallingLevel_17 : decode cX0_lowestFallingLevel 17 = .ok (.iload_n 2, 1) := by decide +kernel
theorem dX0_lowestFallingLevel_18 : decode cX0_lowestFallingLevel 18 = .ok (.iaload, 1) := by decide +kernel
theorem dX0_lowestFallingLevel_19 : decode cX0_lowestFallingLevel 19 = .ok (.aload_n 0, 1) := by decide +kernel
theorem dX0_lowestFallingLevel_20 : decode cX0_lowestFallingLevel 20 = .ok (.getfield 11, 3) := by decide +kernel
theorem dX0_lowestFallingLevel_23 : decode cX0_lowestFallingLevel 23 = .ok (.iload_n 1, 1) := by decide +kernel
theorem dX0_lowestFallingLevel_24 : decode cX0_lowestFallingLevel 24 = .ok (.aaload, 1) := by decide +kernel
theorem dX0_lowestFallingLevel_25 : decode cX0_lowestFallingLevel 25 = .ok (.iload_n 2, 1) := by decide +kernel
theorem dX0_lowestFallingLevel_26 : decode cX0_lowestFallingLevel 26 = .ok (.iconst 1, 1) := by decide +kernel
theorem dX0_lowestFallingLevel_27 : decode cX0_lowestFallingLevel 27 = .ok (.isub, 1) := by decide +kernel
theorem dX0_lowestFallingLevel_28 : decode cX0_lowestFallingLevel 28 = .ok (.iaload, 1) := by decide +kernel
theorem dX0_lowestFallingLevel_29 : decode cX0_lowestFallingLevel 29 = .ok (.if_icmp .ge 5, 3) := by decide +kernel
theorem dX0_lowestFallingLevel_32 : decode cX0_lowestFallingLevel 32 = .ok (.iload_n 2, 1) := by decide +kernel
theorem dX0_lowestFallingLevel_33 : decode cX0_lowestFallingLevel 33 = .ok (.ireturn, 1) := by decide +kernel
theorem dX0_lowestFallingLevel_34 : decode cX0_lowestFallingLevel 34 = .ok (.iinc 2 1, 3) := by decide +kernel
theorem dX0_lowestFallingLevel_37 : decode cX0_lowestFallingLevel 37 = .ok (.goto (-35), 3) := by decide +kernel
theorem dX0_lowestFallingLevel_40 : decode cX0_lowestFallingLevel 40 = .ok (.iconst (-1), 1) := by decide +kernel
theorem dX0_lowestFallingLevel_41 : decode cX0_lowestFallingLevel 41 = .ok (.ireturn, 1) := by decide +kernel
theorem dX0_joinToLevelAhead_0 : decode cX0_joinToLevelAhead 0 = .ok (.aload_n 0, 1) := by decide +kernel
theorem dX0_joinToLevelAhead_1 : decode cX0_joinToLevelAhead 1 = .ok (.getfield 58, 3) := by decide +kernel
theorem dX0_joinToLevelAhead_4 : decode cX0_joinToLevelAhead 4 = .ok (.iload_n 2, 1) := by decide +kernel
theorem dX0_joinToLevelAhead_5 : decode cX0_joinToLevelAhead 5 = .ok (.iconst 1, 1) := by decide +kernel
theorem dX0_joinToLevelAhead_6 : decode cX0_joinToLevelAhead 6 = .ok (.isub, 1) := by decide +kernel
theorem dX0_joinToLevelAhead_7 : decode cX0_joinToLevelAhead 7 = .ok (.iaload, 1) := by decide +kernel
theorem dX0_joinToLevelAhead_8 : decode cX0_joinToLevelAhead 8 = .ok (.istore_n 3, 1) := by decide +kernel
theorem dX0_joinToLevelAhead_9 : decode cX0_joinToLevelAhead 9 = .ok (.iload_n 2, 1) := by decide +kernel
theorem dX0_joinToLevelAhead_10 : decode cX0_joinToLevelAhead 10 = .ok (.istore 4, 2) := by decide +kernel
theorem dX0_joinToLevelAhead_12 : decode cX0_joinToLevelAhead 12 = .ok (.iload 4, 2) := by decide +kernel
theorem dX0_joinToLevelAhead_14 : decode cX0_joinToLevelAhead 14 = .ok (.getstatic 130, 3) := by decide +kernel
theorem dX0_joinToLevelAhead_17 : decode cX0_joinToLevelAhead 17 = .ok (.iload_n 1, 1) := by decide +kernel
theorem dX0_joinToLevelAhead_18 : decode cX0_joinToLevelAhead 18 = .ok (.iaload, 1) := by decide +kernel
theorem dX0_joinToLevelAhead_19 : decode cX0_joinToLevelAhead 19 = .ok (.if_icmp .ge 28, 3) := by decide +kernel
theorem dX0_joinToLevelAhead_22 : decode cX0_joinToLevelAhead 22 = .ok (.aload_n 0, 1) := by decide +kernel
theorem dX0_joinToLevelAhead_23 : decode cX0_joinToLevelAhead 23 = .ok (.getfield 58, 3) := by decide +kernel
theorem dX0_joinToLevelAhead_26 : decode cX0_joinToLevelAhead 26 = .ok (.iload 4, 2) := by decide +kernel
theorem dX0_joinToLevelAhead_28 : decode cX0_joinToLevelAhead 28 = .ok (.iaload, 1) := by decide +kernel
theorem dX0_joinToLevelAhead_29 : decode cX0_joinToLevelAhead 29 = .ok (.iload_n 2, 1) := by decide +kernel
theorem dX0_joinToLevelAhead_30 : decode cX0_joinToLevelAhead 30 = .ok (.if_icmp .ne 11, 3) := by decide +kernel
theorem dX0_joinToLevelAhead_33 : decode cX0_joinToLevelAhead 33 = .ok (.aload_n 0, 1) := by decide +kernel
theorem dX0_joinToLevelAhead_34 : decode cX0_joinToLevelAhead 34 = .ok (.getfield 58, 3) := by decide +kernel
theorem dX0_joinToLevelAhead_37 : decode cX0_joinToLevelAhead 37 = .ok (.iload 4, 2) := by decide +kernel
theorem dX0_joinToLevelAhead_39 : decode cX0_joinToLevelAhead 39 = .ok (.iload_n 3, 1) := by decide +kernel
theorem dX0_joinToLevelAhead_40 : decode cX0_joinToLevelAhead 40 = .ok (.iastore, 1) := by decide +kernel
theorem dX0_joinToLevelAhead_41 : decode cX0_joinToLevelAhead 41 = .ok (.iinc 4 1, 3) := by decide +kernel
theorem dX0_joinToLevelAhead_44 : decode cX0_joinToLevelAhead 44 = .ok (.goto (-32), 3) := by decide +kernel
theorem dX0_joinToLevelAhead_47 : decode cX0_joinToLevelAhead 47 = .ok (.aload_n 0, 1) := by decide +kernel
theorem dX0_joinToLevelAhead_48 : decode cX0_joinToLevelAhead 48 = .ok (.iload_n 1, 1) := by decide +kernel
theorem dX0_joinToLevelAhead_49 : decode cX0_joinToLevelAhead 49 = .ok (.iload_n 3, 1) := by decide +kernel
theorem dX0_joinToLevelAhead_50 : decode cX0_joinToLevelAhead 50 = .ok (.invokevirtual 199, 3) := by decide +kernel
theorem dX0_joinToLevelAhead_53 : decode cX0_joinToLevelAhead 53 = .ok (.istore 4, 2) := by decide +kernel
theorem dX0_joinToLevelAhead_55 : decode cX0_joinToLevelAhead 55 = .ok (.iload_n 3, 1) := by decide +kernel
theorem dX0_joinToLevelAhead_56 : decode cX0_joinToLevelAhead 56 = .ok (.istore 5, 2) := by decide +kernel
theorem dX0_joinToLevelAhead_58 : decode cX0_joinToLevelAhead 58 = .ok (.iload 5, 2) := by decide +kernel
theorem dX0_joinToLevelAhead_60 : decode cX0_joinToLevelAhead 60 = .ok (.getstatic 130, 3) := by decide +kernel
theorem dX0_joinToLevelAhead_63 : decode cX0_joinToLevelAhead 63 = .ok (.iload_n 1, 1) := by decide +kernel
theorem dX0_joinToLevelAhead_64 : decode cX0_joinToLevelAhead 64 = .ok (.iaload, 1) := by decide +kernel
theorem dX0_joinToLevelAhead_65 : decode cX0_joinToLevelAhead 65 = .ok (.if_icmp .ge 31, 3) := by decide +kernel
theorem dX0_joinToLevelAhead_68 : decode cX0_joinToLevelAhead 68 = .ok (.aload_n 0, 1) := by decide +kernel
theorem dX0_joinToLevelAhead_69 : decode cX0_joinToLevelAhead 69 = .ok (.getfield 58, 3) := by decide +kernel
theorem dX0_joinToLevelAhead_72 : decode cX0_joinToLevelAhead 72 = .ok (.iload 5, 2) := by decide +kernel
theorem dX0_joinToLevelAhead_74 : decode cX0_joinToLevelAhead 74 = .ok (.iaload, 1) := by decide +kernel
theorem dX0_joinToLevelAhead_75 : decode cX0_joinToLevelAhead 75 = .ok (.iload_n 3, 1) := by decide +kernel
theorem dX0_joinToLevelAhead_76 : decode cX0_joinToLevelAhead 76 = .ok (.if_icmp .ne 14, 3) := by decide +kernel
theorem dX0_joinToLevelAhead_79 : decode cX0_joinToLevelAhead 79 = .ok (.aload_n 0, 1) := by decide +kernel
theorem dX0_joinToLevelAhead_80 : decode cX0_joinToLevelAhead 80 = .ok (.getfield 11, 3) := by decide +kernel
theorem dX0_joinToLevelAhead_83 : decode cX0_joinToLevelAhead 83 = .ok (.iload_n 1, 1) := by decide +kernel
theorem dX0_joinToLevelAhead_84 : decode cX0_joinToLevelAhead 84 = .ok (.aaload, 1) := by decide +kernel
theorem dX0_joinToLevelAhead_85 : decode cX0_joinToLevelAhead 85 = .ok (.iload 5, 2) := by decide +kernel
theorem dX0_joinToLevelAhead_87 : decode cX0_joinToLevelAhead 87 = .ok (.iload 4, 2) := by decide +kernel
theorem dX0_joinToLevelAhead_89 : decode cX0_joinToLevelAhead 89 = .ok (.iastore, 1) := by decide +kernel
theorem dX0_joinToLevelAhead_90 : decode cX0_joinToLevelAhead 90 = .ok (.iinc 5 1, 3) := by decide +kernel
theorem dX0_joinToLevelAhead_93 : decode cX0_joinToLevelAhead 93 = .ok (.goto (-35), 3) := by decide +kernel
theorem dX0_joinToLevelAhead_96 : decode cX0_joinToLevelAhead 96 = .ok (.return_, 1) := by decide +kernel
theorem dX0_groupMean_0 : decode cX0_groupMean 0 = .ok (.lconst 0, 1) := by decide +kernel
theorem dX0_groupMean_1 : decode cX0_groupMean 1 = .ok (.lstore_n 3, 1) := by decide +kernel
theorem dX0_groupMean_2 : decode cX0_groupMean 2 = .ok (.iconst 0, 1) := by decide +kernel
theorem dX0_groupMean_3 : decode cX0_groupMean 3 = .ok (.istore 5, 2) := by decide +kernel
theorem dX0_groupMean_5 : decode cX0_groupMean 5 = .ok (.lconst 0, 1) := by decide +kernel
theorem dX0_groupMean_6 : decode cX0_groupMean 6 = .ok (.lstore 6, 2) := by decide +kernel
theorem dX0_groupMean_8 : decode cX0_groupMean 8 = .ok (.lconst 0, 1) := by decide +kernel
theorem dX0_groupMean_9 : decode cX0_groupMean 9 = .ok (.lstore 8, 2) := by decide +kernel
theorem dX0_groupMean_11 : decode cX0_groupMean 11 = .ok (.iload_n 2, 1) := by decide +kernel
theorem dX0_groupMean_12 : decode cX0_groupMean 12 = .ok (.istore 10, 2) := by decide +kernel
theorem dX0_groupMean_14 : decode cX0_groupMean 14 = .ok (.iload 10, 2) := by decide +kernel
theorem dX0_groupMean_16 : decode cX0_groupMean 16 = .ok (.getstatic 130, 3) := by decide +kernel
theorem dX0_groupMean_19 : decode cX0_groupMean 19 = .ok (.iload_n 1, 1) := by decide +kernel
theorem dX0_groupMean_20 : decode cX0_groupMean 20 = .ok (.iaload, 1) := by decide +kernel
theorem dX0_groupMean_21 : decode cX0_groupMean 21 = .ok (.if_icmp .ge 74, 3) := by decide +kernel
theorem dX0_groupMean_24 : decode cX0_groupMean 24 = .ok (.aload_n 0, 1) := by decide +kernel
theorem dX0_groupMean_25 : decode cX0_groupMean 25 = .ok (.getfield 58, 3) := by decide +kernel
theorem dX0_groupMean_28 : decode cX0_groupMean 28 = .ok (.iload 10, 2) := by decide +kernel
theorem dX0_groupMean_30 : decode cX0_groupMean 30 = .ok (.iaload, 1) := by decide +kernel
theorem dX0_groupMean_31 : decode cX0_groupMean 31 = .ok (.iload_n 2, 1) := by decide +kernel
theorem dX0_groupMean_32 : decode cX0_groupMean 32 = .ok (.if_icmp .ne 57, 3) := by decide +kernel
theorem dX0_groupMean_35 : decode cX0_groupMean 35 = .ok (.aload_n 0, 1) := by decide +kernel
theorem dX0_groupMean_36 : decode cX0_groupMean 36 = .ok (.aload_n 0, 1) := by decide +kernel
theorem dX0_groupMean_37 : decode cX0_groupMean 37 = .ok (.getfield 17, 3) := by decide +kernel
theorem dX0_groupMean_40 : decode cX0_groupMean 40 = .ok (.iload_n 1, 1) := by decide +kernel
theorem dX0_groupMean_41 : decode cX0_groupMean 41 = .ok (.iload 10, 2) := by decide +kernel
theorem dX0_groupMean_43 : decode cX0_groupMean 43 = .ok (.invokevirtual 165, 3) := by decide +kernel
theorem dX0_groupMean_46 : decode cX0_groupMean 46 = .ok (.lstore 11, 2) := by decide +kernel
theorem dX0_groupMean_48 : decode cX0_groupMean 48 = .ok (.lload_n 3, 1) := by decide +kernel
theorem dX0_groupMean_49 : decode cX0_groupMean 49 = .ok (.aload_n 0, 1) := by decide +kernel
theorem dX0_groupMean_50 : decode cX0_groupMean 50 = .ok (.getfield 11, 3) := by decide +kernel
theorem dX0_groupMean_53 : decode cX0_groupMean 53 = .ok (.iload_n 1, 1) := by decide +kernel
theorem dX0_groupMean_54 : decode cX0_groupMean 54 = .ok (.aaload, 1) := by decide +kernel
theorem dX0_groupMean_55 : decode cX0_groupMean 55 = .ok (.iload 10, 2) := by decide +kernel
theorem dX0_groupMean_57 : decode cX0_groupMean 57 = .ok (.iaload, 1) := by decide +kernel
theorem dX0_groupMean_58 : decode cX0_groupMean 58 = .ok (.i2l, 1) := by decide +kernel
theorem dX0_groupMean_59 : decode cX0_groupMean 59 = .ok (.ladd, 1) := by decide +kernel
theorem dX0_groupMean_60 : decode cX0_groupMean 60 = .ok (.lstore_n 3, 1) := by decide +kernel
theorem dX0_groupMean_61 : decode cX0_groupMean 61 = .ok (.iinc 5 1, 3) := by decide +kernel
theorem dX0_groupMean_64 : decode cX0_groupMean 64 = .ok (.lload 6, 2) := by decide +kernel
theorem dX0_groupMean_66 : decode cX0_groupMean 66 = .ok (.lload 11, 2) := by decide +kernel
theorem dX0_groupMean_68 : decode cX0_groupMean 68 = .ok (.aload_n 0, 1) := by decide +kernel
theorem dX0_groupMean_69 : decode cX0_groupMean 69 = .ok (.getfield 11, 3) := by decide +kernel
theorem dX0_groupMean_72 : decode cX0_groupMean 72 = .ok (.iload_n 1, 1) := by decide +kernel
theorem dX0_groupMean_73 : decode cX0_groupMean 73 = .ok (.aaload, 1) := by decide +kernel
theorem dX0_groupMean_74 : decode cX0_groupMean 74 = .ok (.iload 10, 2) := by decide +kernel
theorem dX0_groupMean_76 : decode cX0_groupMean 76 = .ok (.iaload, 1) := by decide +kernel
theorem dX0_groupMean_77 : decode cX0_groupMean 77 = .ok (.i2l, 1) := by decide +kernel
theorem dX0_groupMean_78 : decode cX0_groupMean 78 = .ok (.lmul, 1) := by decide +kernel
theorem dX0_groupMean_79 : decode cX0_groupMean 79 = .ok (.ladd, 1) := by decide +kernel
theorem dX0_groupMean_80 : decode cX0_groupMean 80 = .ok (.lstore 6, 2) := by decide +kernel
theorem dX0_groupMean_82 : decode cX0_groupMean 82 = .ok (.lload 8, 2) := by decide +kernel
theorem dX0_groupMean_84 : decode cX0_groupMean 84 = .ok (.lload 11, 2) := by decide +kernel
theorem dX0_groupMean_86 : decode cX0_groupMean 86 = .ok (.ladd, 1) := by decide +kernel
theorem dX0_groupMean_87 : decode cX0_groupMean 87 = .ok (.lstore 8, 2) := by decide +kernel
theorem dX0_groupMean_89 : decode cX0_groupMean 89 = .ok (.iinc 10 1, 3) := by decide +kernel
theorem dX0_groupMean_92 : decode cX0_groupMean 92 = .ok (.goto (-78), 3) := by decide +kernel
theorem dX0_groupMean_95 : decode cX0_groupMean 95 = .ok (.lload 8, 2) := by decide +kernel
theorem dX0_groupMean_97 : decode cX0_groupMean 97 = .ok (.lconst 0, 1) := by decide +kernel
theorem dX0_groupMean_98 : decode cX0_groupMean 98 = .ok (.lcmp, 1) := by decide +kernel
theorem dX0_groupMean_99 : decode cX0_groupMean 99 = .ok (.ifCond .le 11, 3) := by decide +kernel
theorem dX0_groupMean_102 : decode cX0_groupMean 102 = .ok (.lload 6, 2) := by decide +kernel
theorem dX0_groupMean_104 : decode cX0_groupMean 104 = .ok (.lload 8, 2) := by decide +kernel
theorem dX0_groupMean_106 : decode cX0_groupMean 106 = .ok (.ldiv, 1) := by decide +kernel
theorem dX0_groupMean_107 : decode cX0_groupMean 107 = .ok (.goto 12, 3) := by decide +kernel
theorem dX0_groupMean_110 : decode cX0_groupMean 110 = .ok (.lload_n 3, 1) := by decide +kernel
theorem dX0_groupMean_111 : decode cX0_groupMean 111 = .ok (.iload 5, 2) := by decide +kernel
theorem dX0_groupMean_113 : decode cX0_groupMean 113 = .ok (.iconst 1, 1) := by decide +kernel
theorem dX0_groupMean_114 : decode cX0_groupMean 114 = .ok (.invokestatic 202, 3) := by decide +kernel
theorem dX0_groupMean_117 : decode cX0_groupMean 117 = .ok (.i2l, 1) := by decide +kernel
theorem dX0_groupMean_118 : decode cX0_groupMean 118 = .ok (.ldiv, 1) := by decide +kernel
theorem dX0_groupMean_119 : decode cX0_groupMean 119 = .ok (.l2i, 1) := by decide +kernel
theorem dX0_groupMean_120 : decode cX0_groupMean 120 = .ok (.ireturn, 1) := by decide +kernel
theorem dX0_changedSinceBefore_0 : decode cX0_changedSinceBefore 0 = .ok (.iconst 0, 1) := by decide +kernel
theorem dX0_changedSinceBefore_1 : decode cX0_changedSinceBefore 1 = .ok (.istore_n 2, 1) := by decide +kernel
theorem dX0_changedSinceBefore_2 : decode cX0_changedSinceBefore 2 = .ok (.iconst 0, 1) := by decide +kernel
theorem dX0_changedSinceBefore_3 : decode cX0_changedSinceBefore 3 = .ok (.istore_n 3, 1) := by decide +kernel
theorem dX0_changedSinceBefore_4 : decode cX0_changedSinceBefore 4 = .ok (.iload_n 3, 1) := by decide +kernel
theorem dX0_changedSinceBefore_5 : decode cX0_changedSinceBefore 5 = .ok (.getstatic 130, 3) := by decide +kernel
theorem dX0_changedSinceBefore_8 : decode cX0_changedSinceBefore 8 = .ok (.iload_n 1, 1) := by decide +kernel
theorem dX0_changedSinceBefore_9 : decode cX0_changedSinceBefore 9 = .ok (.iaload, 1) := by decide +kernel
theorem dX0_changedSinceBefore_10 : decode cX0_changedSinceBefore 10 = .ok (.if_icmp .ge 29, 3) := by decide +kernel
theorem dX0_changedSinceBefore_13 : decode cX0_changedSinceBefore 13 = .ok (.aload_n 0, 1) := by decide +kernel
theorem dX0_changedSinceBefore_14 : decode cX0_changedSinceBefore 14 = .ok (.getfield 11, 3) := by decide +kernel
theorem dX0_changedSinceBefore_17 : decode cX0_changedSinceBefore 17 = .ok (.iload_n 1, 1) := by decide +kernel
theorem dX0_changedSinceBefore_18 : decode cX0_changedSinceBefore 18 = .ok (.aaload, 1) := by decide +kernel
theorem dX0_changedSinceBefore_19 : decode cX0_changedSinceBefore 19 = .ok (.iload_n 3, 1) := by decide +kernel
theorem dX0_changedSinceBefore_20 : decode cX0_changedSinceBefore 20 = .ok (.iaload, 1) := by decide +kernel
theorem dX0_changedSinceBefore_21 : decode cX0_changedSinceBefore 21 = .ok (.aload_n 0, 1) := by decide +kernel
theorem dX0_changedSinceBefore_22 : decode cX0_changedSinceBefore 22 = .ok (.getfield 61, 3) := by decide +kernel
theorem dX0_changedSinceBefore_25 : decode cX0_changedSinceBefore 25 = .ok (.iload_n 3, 1) := by decide +kernel
theorem dX0_changedSinceBefore_26 : decode cX0_changedSinceBefore 26 = .ok (.iaload, 1) := by decide +kernel
theorem dX0_changedSinceBefore_27 : decode cX0_changedSinceBefore 27 = .ok (.if_icmp .eq 6, 3) := by decide +kernel
theorem dX0_changedSinceBefore_30 : decode cX0_changedSinceBefore 30 = .ok (.iinc 2 1, 3) := by decide +kernel
theorem dX0_changedSinceBefore_33 : decode cX0_changedSinceBefore 33 = .ok (.iinc 3 1, 3) := by decide +kernel
theorem dX0_changedSinceBefore_36 : decode cX0_changedSinceBefore 36 = .ok (.goto (-32), 3) := by decide +kernel
theorem dX0_changedSinceBefore_39 : decode cX0_changedSinceBefore 39 = .ok (.iload_n 2, 1) := by decide +kernel
theorem dX0_changedSinceBefore_40 : decode cX0_changedSinceBefore 40 = .ok (.ireturn, 1) := by decide +kernel
theorem dX0_newPremium_0 : decode cX0_newPremium 0 = .ok (.aload_n 0, 1) := by decide +kernel
theorem dX0_newPremium_1 : decode cX0_newPremium 1 = .ok (.getfield 55, 3) := by decide +kernel
theorem dX0_newPremium_4 : decode cX0_newPremium 4 = .ok (.iload_n 1, 1) := by decide +kernel
theorem dX0_newPremium_5 : decode cX0_newPremium 5 = .ok (.laload, 1) := by decide +kernel
theorem dX0_newPremium_6 : decode cX0_newPremium 6 = .ok (.aload_n 0, 1) := by decide +kernel
theorem dX0_newPremium_7 : decode cX0_newPremium 7 = .ok (.getfield 48, 3) := by decide +kernel
theorem dX0_newPremium_10 : decode cX0_newPremium 10 = .ok (.i2l, 1) := by decide +kernel
theorem dX0_newPremium_11 : decode cX0_newPremium 11 = .ok (.lmul, 1) := by decide +kernel
theorem dX0_newPremium_12 : decode cX0_newPremium 12 = .ok (.ldc2_w 147, 3) := by decide +kernel
theorem dX0_newPremium_15 : decode cX0_newPremium 15 = .ok (.ldiv, 1) := by decide +kernel
theorem dX0_newPremium_16 : decode cX0_newPremium 16 = .ok (.lreturn, 1) := by decide +kernel
theorem dX0_cappedPremium_0 : decode cX0_cappedPremium 0 = .ok (.aload_n 0, 1) := by decide +kernel
theorem dX0_cappedPremium_1 : decode cX0_cappedPremium 1 = .ok (.getfield 45, 3) := by decide +kernel
theorem dX0_cappedPremium_4 : decode cX0_cappedPremium 4 = .ok (.iconst (-1), 1) := by decide +kernel
theorem dX0_cappedPremium_5 : decode cX0_cappedPremium 5 = .ok (.if_icmp .eq 13, 3) := by decide +kernel
theorem dX0_cappedPremium_8 : decode cX0_cappedPremium 8 = .ok (.aload_n 0, 1) := by decide +kernel
theorem dX0_cappedPremium_9 : decode cX0_cappedPremium 9 = .ok (.getfield 27, 3) := by decide +kernel
theorem dX0_cappedPremium_12 : decode cX0_cappedPremium 12 = .ok (.iload_n 1, 1) := by decide +kernel
theorem dX0_cappedPremium_13 : decode cX0_cappedPremium 13 = .ok (.iaload, 1) := by decide +kernel
theorem dX0_cappedPremium_14 : decode cX0_cappedPremium 14 = .ok (.iconst (-1), 1) := by decide +kernel
theorem dX0_cappedPremium_15 : decode cX0_cappedPremium 15 = .ok (.if_icmp .ne 9, 3) := by decide +kernel
theorem dX0_cappedPremium_18 : decode cX0_cappedPremium 18 = .ok (.aload_n 0, 1) := by decide +kernel
theorem dX0_cappedPremium_19 : decode cX0_cappedPremium 19 = .ok (.iload_n 1, 1) := by decide +kernel
theorem dX0_cappedPremium_20 : decode cX0_cappedPremium 20 = .ok (.invokevirtual 176, 3) := by decide +kernel
theorem dX0_cappedPremium_23 : decode cX0_cappedPremium 23 = .ok (.lreturn, 1) := by decide +kernel
theorem dX0_cappedPremium_24 : decode cX0_cappedPremium 24 = .ok (.aload_n 0, 1) := by decide +kernel
theorem dX0_cappedPremium_25 : decode cX0_cappedPremium 25 = .ok (.getfield 27, 3) := by decide +kernel
theorem dX0_cappedPremium_28 : decode cX0_cappedPremium 28 = .ok (.iload_n 1, 1) := by decide +kernel
theorem dX0_cappedPremium_29 : decode cX0_cappedPremium 29 = .ok (.iaload, 1) := by decide +kernel
theorem dX0_cappedPremium_30 : decode cX0_cappedPremium 30 = .ok (.i2l, 1) := by decide +kernel
theorem dX0_cappedPremium_31 : decode cX0_cappedPremium 31 = .ok (.lstore_n 2, 1) := by decide +kernel
theorem dX0_cappedPremium_32 : decode cX0_cappedPremium 32 = .ok (.lload_n 2, 1) := by decide +kernel
theorem dX0_cappedPremium_33 : decode cX0_cappedPremium 33 = .ok (.bipush 100, 2) := by decide +kernel
theorem dX0_cappedPremium_35 : decode cX0_cappedPremium 35 = .ok (.aload_n 0, 1) := by decide +kernel
theorem dX0_cappedPremium_36 : decode cX0_cappedPremium 36 = .ok (.getfield 45, 3) := by decide +kernel
theorem dX0_cappedPremium_39 : decode cX0_cappedPremium 39 = .ok (.isub, 1) := by decide +kernel
theorem dX0_cappedPremium_40 : decode cX0_cappedPremium 40 = .ok (.iconst 0, 1) := by decide +kernel
theorem dX0_cappedPremium_41 : decode cX0_cappedPremium 41 = .ok (.invokestatic 202, 3) := by decide +kernel
theorem dX0_cappedPremium_44 : decode cX0_cappedPremium 44 = .ok (.i2l, 1) := by decide +kernel
theorem dX0_cappedPremium_45 : decode cX0_cappedPremium 45 = .ok (.lmul, 1) := by decide +kernel
theorem dX0_cappedPremium_46 : decode cX0_cappedPremium 46 = .ok (.ldc2_w 195, 3) := by decide +kernel
theorem dX0_cappedPremium_49 : decode cX0_cappedPremium 49 = .ok (.ldiv, 1) := by decide +kernel
theorem dX0_cappedPremium_50 : decode cX0_cappedPremium 50 = .ok (.lstore 4, 2) := by decide +kernel
theorem dX0_cappedPremium_52 : decode cX0_cappedPremium 52 = .ok (.lload_n 2, 1) := by decide +kernel
theorem dX0_cappedPremium_53 : decode cX0_cappedPremium 53 = .ok (.bipush 100, 2) := by decide +kernel
theorem dX0_cappedPremium_55 : decode cX0_cappedPremium 55 = .ok (.aload_n 0, 1) := by decide +kernel
theorem dX0_cappedPremium_56 : decode cX0_cappedPremium 56 = .ok (.getfield 45, 3) := by decide +kernel
theorem dX0_cappedPremium_59 : decode cX0_cappedPremium 59 = .ok (.iadd, 1) := by decide +kernel
theorem dX0_cappedPremium_60 : decode cX0_cappedPremium 60 = .ok (.i2l, 1) := by decide +kernel
theorem dX0_cappedPremium_61 : decode cX0_cappedPremium 61 = .ok (.lmul, 1) := by decide +kernel
theorem dX0_cappedPremium_62 : decode cX0_cappedPremium 62 = .ok (.ldc2_w 195, 3) := by decide +kernel
theorem dX0_cappedPremium_65 : decode cX0_cappedPremium 65 = .ok (.ldiv, 1) := by decide +kernel
theorem dX0_cappedPremium_66 : decode cX0_cappedPremium 66 = .ok (.lstore 6, 2) := by decide +kernel
theorem dX0_cappedPremium_68 : decode cX0_cappedPremium 68 = .ok (.aload_n 0, 1) := by decide +kernel
theorem dX0_cappedPremium_69 : decode cX0_cappedPremium 69 = .ok (.iload_n 1, 1) := by decide +kernel
theorem dX0_cappedPremium_70 : decode cX0_cappedPremium 70 = .ok (.invokevirtual 176, 3) := by decide +kernel
theorem dX0_cappedPremium_73 : decode cX0_cappedPremium 73 = .ok (.lload 4, 2) := by decide +kernel
theorem dX0_cappedPremium_75 : decode cX0_cappedPremium 75 = .ok (.lload 6, 2) := by decide +kernel
theorem dX0_cappedPremium_77 : decode cX0_cappedPremium 77 = .ok (.invokestatic 161, 3) := by decide +kernel
theorem dX0_cappedPremium_80 : decode cX0_cappedPremium 80 = .ok (.lreturn, 1) := by decide +kernel
theorem dX0_placeOf_0 : decode cX0_placeOf 0 = .ok (.iconst 0, 1) := by decide +kernel
theorem dX0_placeOf_1 : decode cX0_placeOf 1 = .ok (.istore_n 2, 1) := by decide +kernel
theorem dX0_placeOf_2 : decode cX0_placeOf 2 = .ok (.iconst 0, 1) := by decide +kernel
theorem dX0_placeOf_3 : decode cX0_placeOf 3 = .ok (.istore_n 3, 1) := by decide +kernel
theorem dX0_placeOf_4 : decode cX0_placeOf 4 = .ok (.iload_n 3, 1) := by decide +kernel
theorem dX0_placeOf_5 : decode cX0_placeOf 5 = .ok (.aload_n 0, 1) := by decide +kernel
theorem dX0_placeOf_6 : decode cX0_placeOf 6 = .ok (.getfield 35, 3) := by decide +kernel
theorem dX0_placeOf_9 : decode cX0_placeOf 9 = .ok (.if_icmp .ge 30, 3) := by decide +kernel
theorem dX0_placeOf_12 : decode cX0_placeOf 12 = .ok (.aload_n 0, 1) := by decide +kernel
theorem dX0_placeOf_13 : decode cX0_placeOf 13 = .ok (.getfield 31, 3) := by decide +kernel
theorem dX0_placeOf_16 : decode cX0_placeOf 16 = .ok (.iload_n 3, 1) := by decide +kernel
theorem dX0_placeOf_17 : decode cX0_placeOf 17 = .ok (.baload, 1) := by decide +kernel
theorem dX0_placeOf_18 : decode cX0_placeOf 18 = .ok (.ifCond .eq 15, 3) := by decide +kernel
theorem dX0_placeOf_21 : decode cX0_placeOf 21 = .ok (.aload_n 0, 1) := by decide +kernel
theorem dX0_placeOf_22 : decode cX0_placeOf 22 = .ok (.iload_n 3, 1) := by decide +kernel
theorem dX0_placeOf_23 : decode cX0_placeOf 23 = .ok (.iload_n 1, 1) := by decide +kernel
theorem dX0_placeOf_24 : decode cX0_placeOf 24 = .ok (.invokevirtual 204, 3) := by decide +kernel
theorem dX0_placeOf_27 : decode cX0_placeOf 27 = .ok (.ifCond .eq 6, 3) := by decide +kernel
theorem dX0_placeOf_30 : decode cX0_placeOf 30 = .ok (.iinc 2 1, 3) := by decide +kernel
theorem dX0_placeOf_33 : decode cX0_placeOf 33 = .ok (.iinc 3 1, 3) := by decide +kernel
theorem dX0_placeOf_36 : decode cX0_placeOf 36 = .ok (.goto (-32), 3) := by decide +kernel
theorem dX0_placeOf_39 : decode cX0_placeOf 39 = .ok (.iload_n 2, 1) := by decide +kernel
theorem dX0_placeOf_40 : decode cX0_placeOf 40 = .ok (.ireturn, 1) := by decide +kernel
theorem dX0_isAhead_0 : decode cX0_isAhead 0 = .ok (.aload_n 0, 1) := by decide +kernel
theorem dX0_isAhead_1 : decode cX0_isAhead 1 = .ok (.getfield 24, 3) := by decide +kernel
theorem dX0_isAhead_4 : decode cX0_isAhead 4 = .ok (.iload_n 1, 1) := by decide +kernel
theorem dX0_isAhead_5 : decode cX0_isAhead 5 = .ok (.laload, 1) := by decide +kernel
theorem dX0_isAhead_6 : decode cX0_isAhead 6 = .ok (.lconst 1, 1) := by decide +kernel
theorem dX0_isAhead_7 : decode cX0_isAhead 7 = .ok (.aload_n 0, 1) := by decide +kernel
theorem dX0_isAhead_8 : decode cX0_isAhead 8 = .ok (.getfield 55, 3) := by decide +kernel
theorem dX0_isAhead_11 : decode cX0_isAhead 11 = .ok (.iload_n 2, 1) := by decide +kernel
theorem dX0_isAhead_12 : decode cX0_isAhead 12 = .ok (.laload, 1) := by decide +kernel
theorem dX0_isAhead_13 : decode cX0_isAhead 13 = .ok (.ladd, 1) := by decide +kernel
theorem dX0_isAhead_14 : decode cX0_isAhead 14 = .ok (.lmul, 1) := by decide +kernel
theorem dX0_isAhead_15 : decode cX0_isAhead 15 = .ok (.lstore_n 3, 1) := by decide +kernel
theorem dX0_isAhead_16 : decode cX0_isAhead 16 = .ok (.aload_n 0, 1) := by decide +kernel
theorem dX0_isAhead_17 : decode cX0_isAhead 17 = .ok (.getfield 24, 3) := by decide +kernel
theorem dX0_isAhead_20 : decode cX0_isAhead 20 = .ok (.iload_n 2, 1) := by decide +kernel
theorem dX0_isAhead_21 : decode cX0_isAhead 21 = .ok (.laload, 1) := by decide +kernel
theorem dX0_isAhead_22 : decode cX0_isAhead 22 = .ok (.lconst 1, 1) := by decide +kernel
theorem dX0_isAhead_23 : decode cX0_isAhead 23 = .ok (.aload_n 0, 1) := by decide +kernel
theorem dX0_isAhead_24 : decode cX0_isAhead 24 = .ok (.getfield 55, 3) := by decide +kernel
theorem dX0_isAhead_27 : decode cX0_isAhead 27 = .ok (.iload_n 1, 1) := by decide +kernel
theorem dX0_isAhead_28 : decode cX0_isAhead 28 = .ok (.laload, 1) := by decide +kernel
theorem dX0_isAhead_29 : decode cX0_isAhead 29 = .ok (.ladd, 1) := by decide +kernel
theorem dX0_isAhead_30 : decode cX0_isAhead 30 = .ok (.lmul, 1) := by decide +kernel
theorem dX0_isAhead_31 : decode cX0_isAhead 31 = .ok (.lstore 5, 2) := by decide +kernel
theorem dX0_isAhead_33 : decode cX0_isAhead 33 = .ok (.lload_n 3, 1) := by decide +kernel
theorem dX0_isAhead_34 : decode cX0_isAhead 34 = .ok (.lload 5, 2) := by decide +kernel
theorem dX0_isAhead_36 : decode cX0_isAhead 36 = .ok (.lcmp, 1) := by decide +kernel
theorem dX0_isAhead_37 : decode cX0_isAhead 37 = .ok (.ifCond .gt 15, 3) := by decide +kernel
theorem dX0_isAhead_40 : decode cX0_isAhead 40 = .ok (.lload_n 3, 1) := by decide +kernel
theorem dX0_isAhead_41 : decode cX0_isAhead 41 = .ok (.lload 5, 2) := by decide +kernel
theorem dX0_isAhead_43 : decode cX0_isAhead 43 = .ok (.lcmp, 1) := by decide +kernel
theorem dX0_isAhead_44 : decode cX0_isAhead 44 = .ok (.ifCond .ne 12, 3) := by decide +kernel
theorem dX0_isAhead_47 : decode cX0_isAhead 47 = .ok (.iload_n 1, 1) := by decide +kernel
theorem dX0_isAhead_48 : decode cX0_isAhead 48 = .ok (.iload_n 2, 1) := by decide +kernel
theorem dX0_isAhead_49 : decode cX0_isAhead 49 = .ok (.if_icmp .ge 7, 3) := by decide +kernel
theorem dX0_isAhead_52 : decode cX0_isAhead 52 = .ok (.iconst 1, 1) := by decide +kernel
theorem dX0_isAhead_53 : decode cX0_isAhead 53 = .ok (.goto 4, 3) := by decide +kernel
theorem dX0_isAhead_56 : decode cX0_isAhead 56 = .ok (.iconst 0, 1) := by decide +kernel
theorem dX0_isAhead_57 : decode cX0_isAhead 57 = .ok (.ireturn, 1) := by decide +kernel

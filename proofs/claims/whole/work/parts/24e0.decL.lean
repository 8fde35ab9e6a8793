theorem dL_add_0 : decode cL_add 0 = .ok (.aload 7, 2) := by decide +kernel
theorem dL_add_2 : decode cL_add 2 = .ok (.iconst 0, 1) := by decide +kernel
theorem dL_add_3 : decode cL_add 3 = .ok (.aload_n 0, 1) := by decide +kernel
theorem dL_add_4 : decode cL_add 4 = .ok (.iload_n 1, 1) := by decide +kernel
theorem dL_add_5 : decode cL_add 5 = .ok (.iload_n 2, 1) := by decide +kernel
theorem dL_add_6 : decode cL_add 6 = .ok (.iload_n 3, 1) := by decide +kernel
theorem dL_add_7 : decode cL_add 7 = .ok (.iload 4, 2) := by decide +kernel
theorem dL_add_9 : decode cL_add 9 = .ok (.iload 5, 2) := by decide +kernel
theorem dL_add_11 : decode cL_add 11 = .ok (.iload 6, 2) := by decide +kernel
theorem dL_add_13 : decode cL_add 13 = .ok (.invokevirtual 7, 3) := by decide +kernel
theorem dL_add_16 : decode cL_add 16 = .ok (.i2l, 1) := by decide +kernel
theorem dL_add_17 : decode cL_add 17 = .ok (.lastore, 1) := by decide +kernel
theorem dL_add_18 : decode cL_add 18 = .ok (.goto 11, 3) := by decide +kernel
theorem dL_add_21 : decode cL_add 21 = .ok (.astore 8, 2) := by decide +kernel
theorem dL_add_23 : decode cL_add 23 = .ok (.iconst 1, 1) := by decide +kernel
theorem dL_add_24 : decode cL_add 24 = .ok (.ireturn, 1) := by decide +kernel
theorem dL_add_25 : decode cL_add 25 = .ok (.astore 8, 2) := by decide +kernel
theorem dL_add_27 : decode cL_add 27 = .ok (.iconst 2, 1) := by decide +kernel
theorem dL_add_28 : decode cL_add 28 = .ok (.ireturn, 1) := by decide +kernel
theorem dL_add_29 : decode cL_add 29 = .ok (.iconst 0, 1) := by decide +kernel
theorem dL_add_30 : decode cL_add 30 = .ok (.ireturn, 1) := by decide +kernel
theorem dL_withdraw_0 : decode cL_withdraw 0 = .ok (.aload_n 2, 1) := by decide +kernel
theorem dL_withdraw_1 : decode cL_withdraw 1 = .ok (.iconst 0, 1) := by decide +kernel
theorem dL_withdraw_2 : decode cL_withdraw 2 = .ok (.aload_n 0, 1) := by decide +kernel
theorem dL_withdraw_3 : decode cL_withdraw 3 = .ok (.iload_n 1, 1) := by decide +kernel
theorem dL_withdraw_4 : decode cL_withdraw 4 = .ok (.invokevirtual 17, 3) := by decide +kernel
theorem dL_withdraw_7 : decode cL_withdraw 7 = .ok (.i2l, 1) := by decide +kernel
theorem dL_withdraw_8 : decode cL_withdraw 8 = .ok (.lastore, 1) := by decide +kernel
theorem dL_withdraw_9 : decode cL_withdraw 9 = .ok (.goto 6, 3) := by decide +kernel
theorem dL_withdraw_12 : decode cL_withdraw 12 = .ok (.astore_n 3, 1) := by decide +kernel
theorem dL_withdraw_13 : decode cL_withdraw 13 = .ok (.iconst 1, 1) := by decide +kernel
theorem dL_withdraw_14 : decode cL_withdraw 14 = .ok (.ireturn, 1) := by decide +kernel
theorem dL_withdraw_15 : decode cL_withdraw 15 = .ok (.iconst 0, 1) := by decide +kernel
theorem dL_withdraw_16 : decode cL_withdraw 16 = .ok (.ireturn, 1) := by decide +kernel
theorem dL_setOld_0 : decode cL_setOld 0 = .ok (.aload_n 3, 1) := by decide +kernel
theorem dL_setOld_1 : decode cL_setOld 1 = .ok (.iconst 0, 1) := by decide +kernel
theorem dL_setOld_2 : decode cL_setOld 2 = .ok (.aload_n 0, 1) := by decide +kernel
theorem dL_setOld_3 : decode cL_setOld 3 = .ok (.iload_n 1, 1) := by decide +kernel
theorem dL_setOld_4 : decode cL_setOld 4 = .ok (.iload_n 2, 1) := by decide +kernel
theorem dL_setOld_5 : decode cL_setOld 5 = .ok (.invokevirtual 23, 3) := by decide +kernel
theorem dL_setOld_8 : decode cL_setOld 8 = .ok (.i2l, 1) := by decide +kernel
theorem dL_setOld_9 : decode cL_setOld 9 = .ok (.lastore, 1) := by decide +kernel
theorem dL_setOld_10 : decode cL_setOld 10 = .ok (.goto 11, 3) := by decide +kernel
theorem dL_setOld_13 : decode cL_setOld 13 = .ok (.astore 4, 2) := by decide +kernel
theorem dL_setOld_15 : decode cL_setOld 15 = .ok (.iconst 1, 1) := by decide +kernel
theorem dL_setOld_16 : decode cL_setOld 16 = .ok (.ireturn, 1) := by decide +kernel
theorem dL_setOld_17 : decode cL_setOld 17 = .ok (.astore 4, 2) := by decide +kernel
theorem dL_setOld_19 : decode cL_setOld 19 = .ok (.iconst 2, 1) := by decide +kernel
theorem dL_setOld_20 : decode cL_setOld 20 = .ok (.ireturn, 1) := by decide +kernel
theorem dL_setOld_21 : decode cL_setOld 21 = .ok (.iconst 0, 1) := by decide +kernel
theorem dL_setOld_22 : decode cL_setOld 22 = .ok (.ireturn, 1) := by decide +kernel
theorem dL_setRules_0 : decode cL_setRules 0 = .ok (.aload_n 3, 1) := by decide +kernel
theorem dL_setRules_1 : decode cL_setRules 1 = .ok (.iconst 0, 1) := by decide +kernel
theorem dL_setRules_2 : decode cL_setRules 2 = .ok (.aload_n 0, 1) := by decide +kernel
theorem dL_setRules_3 : decode cL_setRules 3 = .ok (.iload_n 1, 1) := by decide +kernel
theorem dL_setRules_4 : decode cL_setRules 4 = .ok (.iload_n 2, 1) := by decide +kernel
theorem dL_setRules_5 : decode cL_setRules 5 = .ok (.invokevirtual 27, 3) := by decide +kernel
theorem dL_setRules_8 : decode cL_setRules 8 = .ok (.i2l, 1) := by decide +kernel
theorem dL_setRules_9 : decode cL_setRules 9 = .ok (.lastore, 1) := by decide +kernel
theorem dL_setRules_10 : decode cL_setRules 10 = .ok (.goto 7, 3) := by decide +kernel
theorem dL_setRules_13 : decode cL_setRules 13 = .ok (.astore 4, 2) := by decide +kernel
theorem dL_setRules_15 : decode cL_setRules 15 = .ok (.iconst 1, 1) := by decide +kernel
theorem dL_setRules_16 : decode cL_setRules 16 = .ok (.ireturn, 1) := by decide +kernel
theorem dL_setRules_17 : decode cL_setRules 17 = .ok (.iconst 0, 1) := by decide +kernel
theorem dL_setRules_18 : decode cL_setRules 18 = .ok (.ireturn, 1) := by decide +kernel
theorem dL_setFactor_0 : decode cL_setFactor 0 = .ok (.aload 4, 2) := by decide +kernel
theorem dL_setFactor_2 : decode cL_setFactor 2 = .ok (.iconst 0, 1) := by decide +kernel
theorem dL_setFactor_3 : decode cL_setFactor 3 = .ok (.aload_n 0, 1) := by decide +kernel
theorem dL_setFactor_4 : decode cL_setFactor 4 = .ok (.iload_n 1, 1) := by decide +kernel
theorem dL_setFactor_5 : decode cL_setFactor 5 = .ok (.iload_n 2, 1) := by decide +kernel
theorem dL_setFactor_6 : decode cL_setFactor 6 = .ok (.iload_n 3, 1) := by decide +kernel
theorem dL_setFactor_7 : decode cL_setFactor 7 = .ok (.invokevirtual 30, 3) := by decide +kernel
theorem dL_setFactor_10 : decode cL_setFactor 10 = .ok (.i2l, 1) := by decide +kernel
theorem dL_setFactor_11 : decode cL_setFactor 11 = .ok (.lastore, 1) := by decide +kernel
theorem dL_setFactor_12 : decode cL_setFactor 12 = .ok (.goto 11, 3) := by decide +kernel
theorem dL_setFactor_15 : decode cL_setFactor 15 = .ok (.astore 5, 2) := by decide +kernel
theorem dL_setFactor_17 : decode cL_setFactor 17 = .ok (.iconst 1, 1) := by decide +kernel
theorem dL_setFactor_18 : decode cL_setFactor 18 = .ok (.ireturn, 1) := by decide +kernel
theorem dL_setFactor_19 : decode cL_setFactor 19 = .ok (.astore 5, 2) := by decide +kernel
theorem dL_setFactor_21 : decode cL_setFactor 21 = .ok (.iconst 2, 1) := by decide +kernel
theorem dL_setFactor_22 : decode cL_setFactor 22 = .ok (.ireturn, 1) := by decide +kernel
theorem dL_setFactor_23 : decode cL_setFactor 23 = .ok (.iconst 0, 1) := by decide +kernel
theorem dL_setFactor_24 : decode cL_setFactor 24 = .ok (.ireturn, 1) := by decide +kernel
theorem dL_pass_0 : decode cL_pass 0 = .ok (.aload_n 2, 1) := by decide +kernel
theorem dL_pass_1 : decode cL_pass 1 = .ok (.iconst 0, 1) := by decide +kernel
theorem dL_pass_2 : decode cL_pass 2 = .ok (.aload_n 0, 1) := by decide +kernel
theorem dL_pass_3 : decode cL_pass 3 = .ok (.iload_n 1, 1) := by decide +kernel
theorem dL_pass_4 : decode cL_pass 4 = .ok (.invokevirtual 34, 3) := by decide +kernel
theorem dL_pass_7 : decode cL_pass 7 = .ok (.i2l, 1) := by decide +kernel
theorem dL_pass_8 : decode cL_pass 8 = .ok (.lastore, 1) := by decide +kernel
theorem dL_pass_9 : decode cL_pass 9 = .ok (.goto 6, 3) := by decide +kernel
theorem dL_pass_12 : decode cL_pass 12 = .ok (.astore_n 3, 1) := by decide +kernel
theorem dL_pass_13 : decode cL_pass 13 = .ok (.iconst 1, 1) := by decide +kernel
theorem dL_pass_14 : decode cL_pass 14 = .ok (.ireturn, 1) := by decide +kernel
theorem dL_pass_15 : decode cL_pass 15 = .ok (.iconst 0, 1) := by decide +kernel
theorem dL_pass_16 : decode cL_pass 16 = .ok (.ireturn, 1) := by decide +kernel
theorem dL_smooth_0 : decode cL_smooth 0 = .ok (.aload_n 2, 1) := by decide +kernel
theorem dL_smooth_1 : decode cL_smooth 1 = .ok (.iconst 0, 1) := by decide +kernel
theorem dL_smooth_2 : decode cL_smooth 2 = .ok (.aload_n 0, 1) := by decide +kernel
theorem dL_smooth_3 : decode cL_smooth 3 = .ok (.iload_n 1, 1) := by decide +kernel
theorem dL_smooth_4 : decode cL_smooth 4 = .ok (.invokevirtual 37, 3) := by decide +kernel
theorem dL_smooth_7 : decode cL_smooth 7 = .ok (.i2l, 1) := by decide +kernel
theorem dL_smooth_8 : decode cL_smooth 8 = .ok (.lastore, 1) := by decide +kernel
theorem dL_smooth_9 : decode cL_smooth 9 = .ok (.goto 6, 3) := by decide +kernel
theorem dL_smooth_12 : decode cL_smooth 12 = .ok (.astore_n 3, 1) := by decide +kernel
theorem dL_smooth_13 : decode cL_smooth 13 = .ok (.iconst 1, 1) := by decide +kernel
theorem dL_smooth_14 : decode cL_smooth 14 = .ok (.ireturn, 1) := by decide +kernel
theorem dL_smooth_15 : decode cL_smooth 15 = .ok (.iconst 0, 1) := by decide +kernel
theorem dL_smooth_16 : decode cL_smooth 16 = .ok (.ireturn, 1) := by decide +kernel
theorem dL_factor_0 : decode cL_factor 0 = .ok (.aload_n 3, 1) := by decide +kernel
theorem dL_factor_1 : decode cL_factor 1 = .ok (.iconst 0, 1) := by decide +kernel
theorem dL_factor_2 : decode cL_factor 2 = .ok (.aload_n 0, 1) := by decide +kernel
theorem dL_factor_3 : decode cL_factor 3 = .ok (.iload_n 1, 1) := by decide +kernel
theorem dL_factor_4 : decode cL_factor 4 = .ok (.iload_n 2, 1) := by decide +kernel
theorem dL_factor_5 : decode cL_factor 5 = .ok (.invokevirtual 40, 3) := by decide +kernel
theorem dL_factor_8 : decode cL_factor 8 = .ok (.i2l, 1) := by decide +kernel
theorem dL_factor_9 : decode cL_factor 9 = .ok (.lastore, 1) := by decide +kernel
theorem dL_factor_10 : decode cL_factor 10 = .ok (.goto 7, 3) := by decide +kernel
theorem dL_factor_13 : decode cL_factor 13 = .ok (.astore 4, 2) := by decide +kernel
theorem dL_factor_15 : decode cL_factor 15 = .ok (.iconst 1, 1) := by decide +kernel
theorem dL_factor_16 : decode cL_factor 16 = .ok (.ireturn, 1) := by decide +kernel
theorem dL_factor_17 : decode cL_factor 17 = .ok (.iconst 0, 1) := by decide +kernel
theorem dL_factor_18 : decode cL_factor 18 = .ok (.ireturn, 1) := by decide +kernel
theorem dL_fitted_0 : decode cL_fitted 0 = .ok (.aload_n 2, 1) := by decide +kernel
theorem dL_fitted_1 : decode cL_fitted 1 = .ok (.iconst 0, 1) := by decide +kernel
theorem dL_fitted_2 : decode cL_fitted 2 = .ok (.aload_n 0, 1) := by decide +kernel
theorem dL_fitted_3 : decode cL_fitted 3 = .ok (.iload_n 1, 1) := by decide +kernel
theorem dL_fitted_4 : decode cL_fitted 4 = .ok (.invokevirtual 43, 3) := by decide +kernel
theorem dL_fitted_7 : decode cL_fitted 7 = .ok (.lastore, 1) := by decide +kernel
theorem dL_fitted_8 : decode cL_fitted 8 = .ok (.goto 6, 3) := by decide +kernel
theorem dL_fitted_11 : decode cL_fitted 11 = .ok (.astore_n 3, 1) := by decide +kernel
theorem dL_fitted_12 : decode cL_fitted 12 = .ok (.iconst 1, 1) := by decide +kernel
theorem dL_fitted_13 : decode cL_fitted 13 = .ok (.ireturn, 1) := by decide +kernel
theorem dL_fitted_14 : decode cL_fitted 14 = .ok (.iconst 0, 1) := by decide +kernel
theorem dL_fitted_15 : decode cL_fitted 15 = .ok (.ireturn, 1) := by decide +kernel
theorem dL_toldSum_0 : decode cL_toldSum 0 = .ok (.aload_n 3, 1) := by decide +kernel
theorem dL_toldSum_1 : decode cL_toldSum 1 = .ok (.iconst 0, 1) := by decide +kernel
theorem dL_toldSum_2 : decode cL_toldSum 2 = .ok (.aload_n 0, 1) := by decide +kernel
theorem dL_toldSum_3 : decode cL_toldSum 3 = .ok (.iload_n 1, 1) := by decide +kernel
theorem dL_toldSum_4 : decode cL_toldSum 4 = .ok (.iload_n 2, 1) := by decide +kernel
theorem dL_toldSum_5 : decode cL_toldSum 5 = .ok (.invokevirtual 47, 3) := by decide +kernel
theorem dL_toldSum_8 : decode cL_toldSum 8 = .ok (.lastore, 1) := by decide +kernel
theorem dL_toldSum_9 : decode cL_toldSum 9 = .ok (.goto 7, 3) := by decide +kernel
theorem dL_toldSum_12 : decode cL_toldSum 12 = .ok (.astore 4, 2) := by decide +kernel
theorem dL_toldSum_14 : decode cL_toldSum 14 = .ok (.iconst 1, 1) := by decide +kernel
theorem dL_toldSum_15 : decode cL_toldSum 15 = .ok (.ireturn, 1) := by decide +kernel
theorem dL_toldSum_16 : decode cL_toldSum 16 = .ok (.iconst 0, 1) := by decide +kernel
theorem dL_toldSum_17 : decode cL_toldSum 17 = .ok (.ireturn, 1) := by decide +kernel
theorem dL_fittedSum_0 : decode cL_fittedSum 0 = .ok (.aload_n 3, 1) := by decide +kernel
theorem dL_fittedSum_1 : decode cL_fittedSum 1 = .ok (.iconst 0, 1) := by decide +kernel
theorem dL_fittedSum_2 : decode cL_fittedSum 2 = .ok (.aload_n 0, 1) := by decide +kernel
theorem dL_fittedSum_3 : decode cL_fittedSum 3 = .ok (.iload_n 1, 1) := by decide +kernel
theorem dL_fittedSum_4 : decode cL_fittedSum 4 = .ok (.iload_n 2, 1) := by decide +kernel
theorem dL_fittedSum_5 : decode cL_fittedSum 5 = .ok (.invokevirtual 51, 3) := by decide +kernel
theorem dL_fittedSum_8 : decode cL_fittedSum 8 = .ok (.lastore, 1) := by decide +kernel
theorem dL_fittedSum_9 : decode cL_fittedSum 9 = .ok (.goto 7, 3) := by decide +kernel
theorem dL_fittedSum_12 : decode cL_fittedSum 12 = .ok (.astore 4, 2) := by decide +kernel
theorem dL_fittedSum_14 : decode cL_fittedSum 14 = .ok (.iconst 1, 1) := by decide +kernel
theorem dL_fittedSum_15 : decode cL_fittedSum 15 = .ok (.ireturn, 1) := by decide +kernel
theorem dL_fittedSum_16 : decode cL_fittedSum 16 = .ok (.iconst 0, 1) := by decide +kernel
theorem dL_fittedSum_17 : decode cL_fittedSum 17 = .ok (.ireturn, 1) := by decide +kernel
theorem dL_worst_0 : decode cL_worst 0 = .ok (.aload_n 2, 1) := by decide +kernel
theorem dL_worst_1 : decode cL_worst 1 = .ok (.iconst 0, 1) := by decide +kernel
theorem dL_worst_2 : decode cL_worst 2 = .ok (.aload_n 0, 1) := by decide +kernel
theorem dL_worst_3 : decode cL_worst 3 = .ok (.iload_n 1, 1) := by decide +kernel
theorem dL_worst_4 : decode cL_worst 4 = .ok (.invokevirtual 54, 3) := by decide +kernel
theorem dL_worst_7 : decode cL_worst 7 = .ok (.lastore, 1) := by decide +kernel
theorem dL_worst_8 : decode cL_worst 8 = .ok (.goto 6, 3) := by decide +kernel
theorem dL_worst_11 : decode cL_worst 11 = .ok (.astore_n 3, 1) := by decide +kernel
theorem dL_worst_12 : decode cL_worst 12 = .ok (.iconst 1, 1) := by decide +kernel
theorem dL_worst_13 : decode cL_worst 13 = .ok (.ireturn, 1) := by decide +kernel
theorem dL_worst_14 : decode cL_worst 14 = .ok (.iconst 0, 1) := by decide +kernel
theorem dL_worst_15 : decode cL_worst 15 = .ok (.ireturn, 1) := by decide +kernel
theorem dL_premium_0 : decode cL_premium 0 = .ok (.aload_n 2, 1) := by decide +kernel
theorem dL_premium_1 : decode cL_premium 1 = .ok (.iconst 0, 1) := by decide +kernel
theorem dL_premium_2 : decode cL_premium 2 = .ok (.aload_n 0, 1) := by decide +kernel
theorem dL_premium_3 : decode cL_premium 3 = .ok (.iload_n 1, 1) := by decide +kernel
theorem dL_premium_4 : decode cL_premium 4 = .ok (.invokevirtual 57, 3) := by decide +kernel
theorem dL_premium_7 : decode cL_premium 7 = .ok (.lastore, 1) := by decide +kernel
theorem dL_premium_8 : decode cL_premium 8 = .ok (.goto 6, 3) := by decide +kernel
theorem dL_premium_11 : decode cL_premium 11 = .ok (.astore_n 3, 1) := by decide +kernel
theorem dL_premium_12 : decode cL_premium 12 = .ok (.iconst 1, 1) := by decide +kernel
theorem dL_premium_13 : decode cL_premium 13 = .ok (.ireturn, 1) := by decide +kernel
theorem dL_premium_14 : decode cL_premium 14 = .ok (.iconst 0, 1) := by decide +kernel
theorem dL_premium_15 : decode cL_premium 15 = .ok (.ireturn, 1) := by decide +kernel
theorem dL_capped_0 : decode cL_capped 0 = .ok (.aload_n 2, 1) := by decide +kernel
theorem dL_capped_1 : decode cL_capped 1 = .ok (.iconst 0, 1) := by decide +kernel
theorem dL_capped_2 : decode cL_capped 2 = .ok (.aload_n 0, 1) := by decide +kernel
theorem dL_capped_3 : decode cL_capped 3 = .ok (.iload_n 1, 1) := by decide +kernel
theorem dL_capped_4 : decode cL_capped 4 = .ok (.invokevirtual 60, 3) := by decide +kernel
theorem dL_capped_7 : decode cL_capped 7 = .ok (.lastore, 1) := by decide +kernel
theorem dL_capped_8 : decode cL_capped 8 = .ok (.goto 6, 3) := by decide +kernel
theorem dL_capped_11 : decode cL_capped 11 = .ok (.astore_n 3, 1) := by decide +kernel
theorem dL_capped_12 : decode cL_capped 12 = .ok (.iconst 1, 1) := by decide +kernel
theorem dL_capped_13 : decode cL_capped 13 = .ok (.ireturn, 1) := by decide +kernel
theorem dL_capped_14 : decode cL_capped 14 = .ok (.iconst 0, 1) := by decide +kernel
theorem dL_capped_15 : decode cL_capped 15 = .ok (.ireturn, 1) := by decide +kernel
theorem dL_rankedAt_0 : decode cL_rankedAt 0 = .ok (.aload_n 2, 1) := by decide +kernel
theorem dL_rankedAt_1 : decode cL_rankedAt 1 = .ok (.iconst 0, 1) := by decide +kernel
theorem dL_rankedAt_2 : decode cL_rankedAt 2 = .ok (.aload_n 0, 1) := by decide +kernel
theorem dL_rankedAt_3 : decode cL_rankedAt 3 = .ok (.iload_n 1, 1) := by decide +kernel
theorem dL_rankedAt_4 : decode cL_rankedAt 4 = .ok (.invokevirtual 63, 3) := by decide +kernel
theorem dL_rankedAt_7 : decode cL_rankedAt 7 = .ok (.i2l, 1) := by decide +kernel
theorem dL_rankedAt_8 : decode cL_rankedAt 8 = .ok (.lastore, 1) := by decide +kernel
theorem dL_rankedAt_9 : decode cL_rankedAt 9 = .ok (.goto 6, 3) := by decide +kernel
theorem dL_rankedAt_12 : decode cL_rankedAt 12 = .ok (.astore_n 3, 1) := by decide +kernel
theorem dL_rankedAt_13 : decode cL_rankedAt 13 = .ok (.iconst 1, 1) := by decide +kernel
theorem dL_rankedAt_14 : decode cL_rankedAt 14 = .ok (.ireturn, 1) := by decide +kernel
theorem dL_rankedAt_15 : decode cL_rankedAt 15 = .ok (.iconst 0, 1) := by decide +kernel
theorem dL_rankedAt_16 : decode cL_rankedAt 16 = .ok (.ireturn, 1) := by decide +kernel

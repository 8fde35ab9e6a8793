theorem wt_7_0 : Cond.instanceMethod yX0_premium ∈ lw_tbl := by decide +kernel
theorem wt_7_1 : Cond.selects RX0 yX0_premium yX0_premium ∈ lw_tbl := by decide +kernel
theorem wt_7_2 : Cond.code yX0_premium cX0_premium 2 (some .long) ∈ lw_tbl := List.mem_append_right _ (List.mem_of_getElem? (i := 277) rfl)
theorem wt_7_3 : Cond.methodLink RX0 176 yX0_newPremium ∈ lw_tbl := by decide +kernel
theorem wt_7_4 : Cond.instanceMethod yX0_newPremium ∈ lw_tbl := by decide +kernel
theorem wt_7_5 : Cond.selects RX0 yX0_newPremium yX0_newPremium ∈ lw_tbl := by decide +kernel
theorem wt_7_6 : Cond.code yX0_newPremium cX0_newPremium 2 (some .long) ∈ lw_tbl := List.mem_append_right _ (List.mem_of_getElem? (i := 281) rfl)
theorem wt_7_7 : Cond.methodLink RL 45 yX0_capped ∈ lw_tbl := by decide +kernel
theorem wt_7_8 : Cond.instanceMethod yX0_capped ∈ lw_tbl := by decide +kernel
theorem wt_7_9 : Cond.selects RX0 yX0_capped yX0_capped ∈ lw_tbl := by decide +kernel
theorem wt_7_10 : Cond.code yX0_capped cX0_capped 2 (some .long) ∈ lw_tbl := List.mem_append_right _ (List.mem_of_getElem? (i := 285) rfl)
theorem wt_7_11 : Cond.methodLink RX0 180 yX0_cappedPremium ∈ lw_tbl := by decide +kernel
theorem wt_7_12 : Cond.instanceMethod yX0_cappedPremium ∈ lw_tbl := by decide +kernel
theorem wt_7_13 : Cond.selects RX0 yX0_cappedPremium yX0_cappedPremium ∈ lw_tbl := by decide +kernel
theorem wt_7_14 : Cond.code yX0_cappedPremium cX0_cappedPremium 8 (some .long) ∈ lw_tbl := List.mem_append_right _ (List.mem_of_getElem? (i := 289) rfl)
theorem wt_7_15 : Cond.methodLink RX0 202 Lib.Math.max.name ∈ lw_tbl := by decide +kernel
theorem wt_7_16 : Cond.static Lib.Math.max.name ∈ lw_tbl := by decide +kernel
theorem wt_7_17 : Cond.code Lib.Math.max.name Lib.Math.max.code 2 (some .int) ∈ lw_tbl := List.mem_append_right _ (List.mem_of_getElem? (i := 292) rfl)
theorem wt_7_18 : Cond.methodLink RL 47 yX0_setOld ∈ lw_tbl := by decide +kernel
theorem wt_7_19 : Cond.instanceMethod yX0_setOld ∈ lw_tbl := by decide +kernel
theorem wt_7_20 : Cond.selects RX0 yX0_setOld yX0_setOld ∈ lw_tbl := by decide +kernel
theorem wt_7_21 : Cond.code yX0_setOld cX0_setOld 4 (some .int) ∈ lw_tbl := List.mem_append_right _ (List.mem_of_getElem? (i := 296) rfl)
theorem wt_7_22 : Cond.constant RX0 105 (10000000) ∈ lw_tbl := by decide +kernel
theorem wt_7_23 : Cond.methodLink RL 98 yX0_withdraw ∈ lw_tbl := by decide +kernel
theorem wt_7 : ∀ w ∈ wsL_law0_r7, w ∈ lw_tbl := List.forall_mem_cons.mpr ⟨wt_7_0, List.forall_mem_cons.mpr ⟨wt_7_1, List.forall_mem_cons.mpr ⟨wt_7_2, List.forall_mem_cons.mpr ⟨wt_7_3, List.forall_mem_cons.mpr ⟨wt_7_4, List.forall_mem_cons.mpr ⟨wt_7_5, List.forall_mem_cons.mpr ⟨wt_7_6, List.forall_mem_cons.mpr ⟨wt_7_7, List.forall_mem_cons.mpr ⟨wt_7_8, List.forall_mem_cons.mpr ⟨wt_7_9, List.forall_mem_cons.mpr ⟨wt_7_10, List.forall_mem_cons.mpr ⟨wt_7_11, List.forall_mem_cons.mpr ⟨wt_7_12, List.forall_mem_cons.mpr ⟨wt_7_13, List.forall_mem_cons.mpr ⟨wt_7_14, List.forall_mem_cons.mpr ⟨wt_7_15, List.forall_mem_cons.mpr ⟨wt_7_16, List.forall_mem_cons.mpr ⟨wt_7_17, List.forall_mem_cons.mpr ⟨wt_7_18, List.forall_mem_cons.mpr ⟨wt_7_19, List.forall_mem_cons.mpr ⟨wt_7_20, List.forall_mem_cons.mpr ⟨wt_7_21, List.forall_mem_cons.mpr ⟨wt_7_22, List.forall_mem_cons.mpr ⟨wt_7_23, fun _ h => absurd h List.not_mem_nil⟩⟩⟩⟩⟩⟩⟩⟩⟩⟩⟩⟩⟩⟩⟩⟩⟩⟩⟩⟩⟩⟩⟩⟩
theorem wt_8_0 : Cond.instanceMethod yX0_withdraw ∈ lw_tbl := by decide +kernel
theorem wt_8_1 : Cond.selects RX0 yX0_withdraw yX0_withdraw ∈ lw_tbl := by decide +kernel
theorem wt_8_2 : Cond.code yX0_withdraw cX0_withdraw 2 (some .int) ∈ lw_tbl := List.mem_append_right _ (List.mem_of_getElem? (i := 303) rfl)
theorem wt_8_3 : Cond.methodLink RL 102 yX0_setRules ∈ lw_tbl := by decide +kernel
theorem wt_8_4 : Cond.instanceMethod yX0_setRules ∈ lw_tbl := by decide +kernel
theorem wt_8_5 : Cond.selects RX0 yX0_setRules yX0_setRules ∈ lw_tbl := by decide +kernel
theorem wt_8_6 : Cond.code yX0_setRules cX0_setRules 4 (some .int) ∈ lw_tbl := List.mem_append_right _ (List.mem_of_getElem? (i := 308) rfl)
theorem wt_8_7 : Cond.methodLink RL 21 yL_many ∈ lw_tbl := by decide +kernel
theorem wt_8_8 : Cond.static yL_many ∈ lw_tbl := by decide +kernel
theorem wt_8_9 : Cond.code yL_many cL_many 1 (some .int) ∈ lw_tbl := List.mem_append_right _ (List.mem_of_getElem? (i := 313) rfl)
theorem wt_8_10 : Cond.methodLink RL 106 yX0_setFactor ∈ lw_tbl := by decide +kernel
theorem wt_8_11 : Cond.instanceMethod yX0_setFactor ∈ lw_tbl := by decide +kernel
theorem wt_8_12 : Cond.selects RX0 yX0_setFactor yX0_setFactor ∈ lw_tbl := by decide +kernel
theorem wt_8_13 : Cond.code yX0_setFactor cX0_setFactor 5 (some .int) ∈ lw_tbl := List.mem_append_right _ (List.mem_of_getElem? (i := 318) rfl)
theorem wt_8_14 : Cond.constant RX0 114 (100000) ∈ lw_tbl := by decide +kernel
theorem wt_8_15 : Cond.methodLink RL 110 yX0_pass ∈ lw_tbl := by decide +kernel
theorem wt_8_16 : Cond.instanceMethod yX0_pass ∈ lw_tbl := by decide +kernel
theorem wt_8_17 : Cond.selects RX0 yX0_pass yX0_pass ∈ lw_tbl := by decide +kernel
theorem wt_8_18 : Cond.code yX0_pass cX0_pass 2 (some .int) ∈ lw_tbl := List.mem_append_right _ (List.mem_of_getElem? (i := 325) rfl)
theorem wt_8_19 : Cond.methodLink RL 113 yL_pass ∈ lw_tbl := by decide +kernel
theorem wt_8_20 : Cond.static yL_pass ∈ lw_tbl := by decide +kernel
theorem wt_8_21 : Cond.code yL_pass cL_pass 21 (some .int) ∈ lw_tbl := List.mem_append_right _ (List.mem_of_getElem? (i := 329) rfl)
theorem wt_8_22 : Cond.constantLong RL 29 (100) ∈ lw_tbl := by decide +kernel
theorem wt_8_23 : Cond.constantLong RL 31 (100000) ∈ lw_tbl := by decide +kernel
theorem wt_8 : ∀ w ∈ wsL_law0_r8, w ∈ lw_tbl := List.forall_mem_cons.mpr ⟨wt_8_0, List.forall_mem_cons.mpr ⟨wt_8_1, List.forall_mem_cons.mpr ⟨wt_8_2, List.forall_mem_cons.mpr ⟨wt_8_3, List.forall_mem_cons.mpr ⟨wt_8_4, List.forall_mem_cons.mpr ⟨wt_8_5, List.forall_mem_cons.mpr ⟨wt_8_6, List.forall_mem_cons.mpr ⟨wt_8_7, List.forall_mem_cons.mpr ⟨wt_8_8, List.forall_mem_cons.mpr ⟨wt_8_9, List.forall_mem_cons.mpr ⟨wt_8_10, List.forall_mem_cons.mpr ⟨wt_8_11, List.forall_mem_cons.mpr ⟨wt_8_12, List.forall_mem_cons.mpr ⟨wt_8_13, List.forall_mem_cons.mpr ⟨wt_8_14, List.forall_mem_cons.mpr ⟨wt_8_15, List.forall_mem_cons.mpr ⟨wt_8_16, List.forall_mem_cons.mpr ⟨wt_8_17, List.forall_mem_cons.mpr ⟨wt_8_18, List.forall_mem_cons.mpr ⟨wt_8_19, List.forall_mem_cons.mpr ⟨wt_8_20, List.forall_mem_cons.mpr ⟨wt_8_21, List.forall_mem_cons.mpr ⟨wt_8_22, List.forall_mem_cons.mpr ⟨wt_8_23, fun _ h => absurd h List.not_mem_nil⟩⟩⟩⟩⟩⟩⟩⟩⟩⟩⟩⟩⟩⟩⟩⟩⟩⟩⟩⟩⟩⟩⟩⟩
theorem wt_9_0 : Cond.methodLink RL 25 yL_sum ∈ lw_tbl := by decide +kernel
theorem wt_9_1 : Cond.static yL_sum ∈ lw_tbl := by decide +kernel
theorem wt_9_2 : Cond.code yL_sum cL_sum 16 (some .long) ∈ lw_tbl := List.mem_append_right _ (List.mem_of_getElem? (i := 332) rfl)
theorem wt_9_3 : Cond.methodLink RL 11 yL_base ∈ lw_tbl := by decide +kernel
theorem wt_9_4 : Cond.static yL_base ∈ lw_tbl := by decide +kernel
theorem wt_9_5 : Cond.code yL_base cL_base 9 (some .long) ∈ lw_tbl := List.mem_append_right _ (List.mem_of_getElem? (i := 335) rfl)
theorem wt_9_6 : Cond.methodLink RL 17 yL_fitted ∈ lw_tbl := by decide +kernel
theorem wt_9_7 : Cond.static yL_fitted ∈ lw_tbl := by decide +kernel
theorem wt_9_8 : Cond.code yL_fitted cL_fitted 12 (some .long) ∈ lw_tbl := List.mem_append_right _ (List.mem_of_getElem? (i := 339) rfl)
theorem wt_9_9 : Cond.methodLink RL 119 yX0_smooth ∈ lw_tbl := by decide +kernel
theorem wt_9_10 : Cond.instanceMethod yX0_smooth ∈ lw_tbl := by decide +kernel
theorem wt_9_11 : Cond.selects RX0 yX0_smooth yX0_smooth ∈ lw_tbl := by decide +kernel
theorem wt_9_12 : Cond.code yX0_smooth cX0_smooth 4 (some .int) ∈ lw_tbl := List.mem_append_right _ (List.mem_of_getElem? (i := 345) rfl)
theorem wt_9_13 : Cond.methodLink RX0 133 yX0_lowestFallingLevel ∈ lw_tbl := by decide +kernel
theorem wt_9_14 : Cond.instanceMethod yX0_lowestFallingLevel ∈ lw_tbl := by decide +kernel
theorem wt_9_15 : Cond.selects RX0 yX0_lowestFallingLevel yX0_lowestFallingLevel ∈ lw_tbl := by decide +kernel
theorem wt_9_16 : Cond.code yX0_lowestFallingLevel cX0_lowestFallingLevel 3 (some .int) ∈ lw_tbl := List.mem_append_right _ (List.mem_of_getElem? (i := 349) rfl)
theorem wt_9_17 : Cond.methodLink RX0 136 yX0_joinToLevelAhead ∈ lw_tbl := by decide +kernel
theorem wt_9_18 : Cond.instanceMethod yX0_joinToLevelAhead ∈ lw_tbl := by decide +kernel
theorem wt_9_19 : Cond.selects RX0 yX0_joinToLevelAhead yX0_joinToLevelAhead ∈ lw_tbl := by decide +kernel
theorem wt_9_20 : Cond.code yX0_joinToLevelAhead cX0_joinToLevelAhead 6 none ∈ lw_tbl := List.mem_append_right _ (List.mem_of_getElem? (i := 353) rfl)
theorem wt_9_21 : Cond.methodLink RX0 199 yX0_groupMean ∈ lw_tbl := by decide +kernel
theorem wt_9_22 : Cond.instanceMethod yX0_groupMean ∈ lw_tbl := by decide +kernel
theorem wt_9_23 : Cond.selects RX0 yX0_groupMean yX0_groupMean ∈ lw_tbl := by decide +kernel
theorem wt_9 : ∀ w ∈ wsL_law0_r9, w ∈ lw_tbl := List.forall_mem_cons.mpr ⟨wt_9_0, List.forall_mem_cons.mpr ⟨wt_9_1, List.forall_mem_cons.mpr ⟨wt_9_2, List.forall_mem_cons.mpr ⟨wt_9_3, List.forall_mem_cons.mpr ⟨wt_9_4, List.forall_mem_cons.mpr ⟨wt_9_5, List.forall_mem_cons.mpr ⟨wt_9_6, List.forall_mem_cons.mpr ⟨wt_9_7, List.forall_mem_cons.mpr ⟨wt_9_8, List.forall_mem_cons.mpr ⟨wt_9_9, List.forall_mem_cons.mpr ⟨wt_9_10, List.forall_mem_cons.mpr ⟨wt_9_11, List.forall_mem_cons.mpr ⟨wt_9_12, List.forall_mem_cons.mpr ⟨wt_9_13, List.forall_mem_cons.mpr ⟨wt_9_14, List.forall_mem_cons.mpr ⟨wt_9_15, List.forall_mem_cons.mpr ⟨wt_9_16, List.forall_mem_cons.mpr ⟨wt_9_17, List.forall_mem_cons.mpr ⟨wt_9_18, List.forall_mem_cons.mpr ⟨wt_9_19, List.forall_mem_cons.mpr ⟨wt_9_20, List.forall_mem_cons.mpr ⟨wt_9_21, List.forall_mem_cons.mpr ⟨wt_9_22, List.forall_mem_cons.mpr ⟨wt_9_23, fun _ h => absurd h List.not_mem_nil⟩⟩⟩⟩⟩⟩⟩⟩⟩⟩⟩⟩⟩⟩⟩⟩⟩⟩⟩⟩⟩⟩⟩⟩

theorem wt_10_0 : Cond.code yX0_groupMean cX0_groupMean 13 (some .int) ∈ lw_tbl := List.mem_append_right _ (List.mem_of_getElem? (i := 357) rfl)
theorem wt_10_1 : Cond.methodLink RX0 140 yX0_changedSinceBefore ∈ lw_tbl := by decide +kernel
theorem wt_10_2 : Cond.instanceMethod yX0_changedSinceBefore ∈ lw_tbl := by decide +kernel
theorem wt_10_3 : Cond.selects RX0 yX0_changedSinceBefore yX0_changedSinceBefore ∈ lw_tbl := by decide +kernel
theorem wt_10_4 : Cond.code yX0_changedSinceBefore cX0_changedSinceBefore 4 (some .int) ∈ lw_tbl := List.mem_append_right _ (List.mem_of_getElem? (i := 361) rfl)
theorem wt_10_5 : Cond.methodLink RL 122 yL_smooth ∈ lw_tbl := by decide +kernel
theorem wt_10_6 : Cond.static yL_smooth ∈ lw_tbl := by decide +kernel
theorem wt_10_7 : Cond.code yL_smooth cL_smooth 16 (some .int) ∈ lw_tbl := List.mem_append_right _ (List.mem_of_getElem? (i := 364) rfl)
theorem wt_10_8 : Cond.methodLink RL 64 yL_all ∈ lw_tbl := by decide +kernel
theorem wt_10_9 : Cond.static yL_all ∈ lw_tbl := by decide +kernel
theorem wt_10_10 : Cond.code yL_all cL_all 13 (some .long) ∈ lw_tbl := List.mem_append_right _ (List.mem_of_getElem? (i := 367) rfl)
theorem wt_10_11 : Cond.methodLink RL 33 yL_capped ∈ lw_tbl := by decide +kernel
theorem wt_10_12 : Cond.static yL_capped ∈ lw_tbl := by decide +kernel
theorem wt_10_13 : Cond.code yL_capped cL_capped 14 (some .long) ∈ lw_tbl := List.mem_append_right _ (List.mem_of_getElem? (i := 370) rfl)
theorem wt_10_14 : Cond.methodLink RL 126 yX0_spread ∈ lw_tbl := by decide +kernel
theorem wt_10_15 : Cond.instanceMethod yX0_spread ∈ lw_tbl := by decide +kernel
theorem wt_10_16 : Cond.selects RX0 yX0_spread yX0_spread ∈ lw_tbl := by decide +kernel
theorem wt_10_17 : Cond.code yX0_spread cX0_spread 5 (some .int) ∈ lw_tbl := List.mem_append_right _ (List.mem_of_getElem? (i := 375) rfl)
theorem wt_10_18 : Cond.constantLong RX0 153 (1000000) ∈ lw_tbl := by decide +kernel
theorem wt_10_19 : Cond.methodLink RX0 143 yX0_cappedTotal ∈ lw_tbl := by decide +kernel
theorem wt_10_20 : Cond.instanceMethod yX0_cappedTotal ∈ lw_tbl := by decide +kernel
theorem wt_10_21 : Cond.selects RX0 yX0_cappedTotal yX0_cappedTotal ∈ lw_tbl := by decide +kernel
theorem wt_10_22 : Cond.code yX0_cappedTotal cX0_cappedTotal 4 (some .long) ∈ lw_tbl := List.mem_append_right _ (List.mem_of_getElem? (i := 379) rfl)
theorem wt_10_23 : Cond.methodLink RL 139 yL_isTold ∈ lw_tbl := by decide +kernel
theorem wt_10 : ∀ w ∈ wsL_law0_r10, w ∈ lw_tbl := List.forall_mem_cons.mpr ⟨wt_10_0, List.forall_mem_cons.mpr ⟨wt_10_1, List.forall_mem_cons.mpr ⟨wt_10_2, List.forall_mem_cons.mpr ⟨wt_10_3, List.forall_mem_cons.mpr ⟨wt_10_4, List.forall_mem_cons.mpr ⟨wt_10_5, List.forall_mem_cons.mpr ⟨wt_10_6, List.forall_mem_cons.mpr ⟨wt_10_7, List.forall_mem_cons.mpr ⟨wt_10_8, List.forall_mem_cons.mpr ⟨wt_10_9, List.forall_mem_cons.mpr ⟨wt_10_10, List.forall_mem_cons.mpr ⟨wt_10_11, List.forall_mem_cons.mpr ⟨wt_10_12, List.forall_mem_cons.mpr ⟨wt_10_13, List.forall_mem_cons.mpr ⟨wt_10_14, List.forall_mem_cons.mpr ⟨wt_10_15, List.forall_mem_cons.mpr ⟨wt_10_16, List.forall_mem_cons.mpr ⟨wt_10_17, List.forall_mem_cons.mpr ⟨wt_10_18, List.forall_mem_cons.mpr ⟨wt_10_19, List.forall_mem_cons.mpr ⟨wt_10_20, List.forall_mem_cons.mpr ⟨wt_10_21, List.forall_mem_cons.mpr ⟨wt_10_22, List.forall_mem_cons.mpr ⟨wt_10_23, fun _ h => absurd h List.not_mem_nil⟩⟩⟩⟩⟩⟩⟩⟩⟩⟩⟩⟩⟩⟩⟩⟩⟩⟩⟩⟩⟩⟩⟩⟩
theorem wt_11_0 : Cond.static yL_isTold ∈ lw_tbl := by decide +kernel
theorem wt_11_1 : Cond.code yL_isTold cL_isTold 23 (some .boolean) ∈ lw_tbl := List.mem_append_right _ (List.mem_of_getElem? (i := 383) rfl)
theorem wt_11_2 : Cond.methodLink RL 61 yX0_lost ∈ lw_tbl := by decide +kernel
theorem wt_11_3 : Cond.instanceMethod yX0_lost ∈ lw_tbl := by decide +kernel
theorem wt_11_4 : Cond.selects RX0 yX0_lost yX0_lost ∈ lw_tbl := by decide +kernel
theorem wt_11_5 : Cond.code yX0_lost cX0_lost 1 (some .long) ∈ lw_tbl := List.mem_append_right _ (List.mem_of_getElem? (i := 387) rfl)
theorem wt_11_6 : Cond.methodLink RL 72 yX0_factor ∈ lw_tbl := by decide +kernel
theorem wt_11_7 : Cond.instanceMethod yX0_factor ∈ lw_tbl := by decide +kernel
theorem wt_11_8 : Cond.selects RX0 yX0_factor yX0_factor ∈ lw_tbl := by decide +kernel
theorem wt_11_9 : Cond.code yX0_factor cX0_factor 3 (some .int) ∈ lw_tbl := List.mem_append_right _ (List.mem_of_getElem? (i := 391) rfl)
theorem wt_11_10 : Cond.methodLink RL 75 yX0_toldSum ∈ lw_tbl := by decide +kernel
theorem wt_11_11 : Cond.instanceMethod yX0_toldSum ∈ lw_tbl := by decide +kernel
theorem wt_11_12 : Cond.selects RX0 yX0_toldSum yX0_toldSum ∈ lw_tbl := by decide +kernel
theorem wt_11_13 : Cond.code yX0_toldSum cX0_toldSum 3 (some .long) ∈ lw_tbl := List.mem_append_right _ (List.mem_of_getElem? (i := 395) rfl)
theorem wt_11_14 : Cond.methodLink RL 79 yX0_fittedSum ∈ lw_tbl := by decide +kernel
theorem wt_11_15 : Cond.instanceMethod yX0_fittedSum ∈ lw_tbl := by decide +kernel
theorem wt_11_16 : Cond.selects RX0 yX0_fittedSum yX0_fittedSum ∈ lw_tbl := by decide +kernel
theorem wt_11_17 : Cond.code yX0_fittedSum cX0_fittedSum 3 (some .long) ∈ lw_tbl := List.mem_append_right _ (List.mem_of_getElem? (i := 399) rfl)
theorem wt_11_18 : Cond.methodLink RL 82 yX0_worst ∈ lw_tbl := by decide +kernel
theorem wt_11_19 : Cond.instanceMethod yX0_worst ∈ lw_tbl := by decide +kernel
theorem wt_11_20 : Cond.selects RX0 yX0_worst yX0_worst ∈ lw_tbl := by decide +kernel
theorem wt_11_21 : Cond.code yX0_worst cX0_worst 7 (some .long) ∈ lw_tbl := List.mem_append_right _ (List.mem_of_getElem? (i := 403) rfl)
theorem wt_11_22 : Cond.methodLink RX0 169 Lib.MathLoose.abs_long.x ∈ lw_tbl := by decide +kernel
theorem wt_11_23 : Cond.static Lib.MathLoose.abs_long.x ∈ lw_tbl := by decide +kernel
theorem wt_11 : ∀ w ∈ wsL_law0_r11, w ∈ lw_tbl := List.forall_mem_cons.mpr ⟨wt_11_0, List.forall_mem_cons.mpr ⟨wt_11_1, List.forall_mem_cons.mpr ⟨wt_11_2, List.forall_mem_cons.mpr ⟨wt_11_3, List.forall_mem_cons.mpr ⟨wt_11_4, List.forall_mem_cons.mpr ⟨wt_11_5, List.forall_mem_cons.mpr ⟨wt_11_6, List.forall_mem_cons.mpr ⟨wt_11_7, List.forall_mem_cons.mpr ⟨wt_11_8, List.forall_mem_cons.mpr ⟨wt_11_9, List.forall_mem_cons.mpr ⟨wt_11_10, List.forall_mem_cons.mpr ⟨wt_11_11, List.forall_mem_cons.mpr ⟨wt_11_12, List.forall_mem_cons.mpr ⟨wt_11_13, List.forall_mem_cons.mpr ⟨wt_11_14, List.forall_mem_cons.mpr ⟨wt_11_15, List.forall_mem_cons.mpr ⟨wt_11_16, List.forall_mem_cons.mpr ⟨wt_11_17, List.forall_mem_cons.mpr ⟨wt_11_18, List.forall_mem_cons.mpr ⟨wt_11_19, List.forall_mem_cons.mpr ⟨wt_11_20, List.forall_mem_cons.mpr ⟨wt_11_21, List.forall_mem_cons.mpr ⟨wt_11_22, List.forall_mem_cons.mpr ⟨wt_11_23, fun _ h => absurd h List.not_mem_nil⟩⟩⟩⟩⟩⟩⟩⟩⟩⟩⟩⟩⟩⟩⟩⟩⟩⟩⟩⟩⟩⟩⟩⟩
theorem wt_12_0 : Cond.code Lib.MathLoose.abs_long.x Lib.MathLoose.abs_long.code 2 (some .long) ∈ lw_tbl := List.mem_append_right _ (List.mem_of_getElem? (i := 406) rfl)
theorem wt_12_1 : Cond.methodLink RL 89 yL_isRanked ∈ lw_tbl := by decide +kernel
theorem wt_12_2 : Cond.static yL_isRanked ∈ lw_tbl := by decide +kernel
theorem wt_12_3 : Cond.code yL_isRanked cL_isRanked 16 (some .boolean) ∈ lw_tbl := List.mem_append_right _ (List.mem_of_getElem? (i := 409) rfl)
theorem wt_12_4 : Cond.methodLink RL 55 yX0_rankedAt ∈ lw_tbl := by decide +kernel
theorem wt_12_5 : Cond.instanceMethod yX0_rankedAt ∈ lw_tbl := by decide +kernel
theorem wt_12_6 : Cond.selects RX0 yX0_rankedAt yX0_rankedAt ∈ lw_tbl := by decide +kernel
theorem wt_12_7 : Cond.code yX0_rankedAt cX0_rankedAt 3 (some .int) ∈ lw_tbl := List.mem_append_right _ (List.mem_of_getElem? (i := 413) rfl)
theorem wt_12_8 : Cond.methodLink RX0 183 yX0_placeOf ∈ lw_tbl := by decide +kernel
theorem wt_12_9 : Cond.instanceMethod yX0_placeOf ∈ lw_tbl := by decide +kernel
theorem wt_12_10 : Cond.selects RX0 yX0_placeOf yX0_placeOf ∈ lw_tbl := by decide +kernel
theorem wt_12_11 : Cond.code yX0_placeOf cX0_placeOf 4 (some .int) ∈ lw_tbl := List.mem_append_right _ (List.mem_of_getElem? (i := 417) rfl)
theorem wt_12_12 : Cond.methodLink RX0 204 yX0_isAhead ∈ lw_tbl := by decide +kernel
theorem wt_12_13 : Cond.instanceMethod yX0_isAhead ∈ lw_tbl := by decide +kernel
theorem wt_12_14 : Cond.selects RX0 yX0_isAhead yX0_isAhead ∈ lw_tbl := by decide +kernel
theorem wt_12_15 : Cond.code yX0_isAhead cX0_isAhead 7 (some .boolean) ∈ lw_tbl := List.mem_append_right _ (List.mem_of_getElem? (i := 421) rfl)
theorem wt_12 : ∀ w ∈ wsL_law0_r12, w ∈ lw_tbl := List.forall_mem_cons.mpr ⟨wt_12_0, List.forall_mem_cons.mpr ⟨wt_12_1, List.forall_mem_cons.mpr ⟨wt_12_2, List.forall_mem_cons.mpr ⟨wt_12_3, List.forall_mem_cons.mpr ⟨wt_12_4, List.forall_mem_cons.mpr ⟨wt_12_5, List.forall_mem_cons.mpr ⟨wt_12_6, List.forall_mem_cons.mpr ⟨wt_12_7, List.forall_mem_cons.mpr ⟨wt_12_8, List.forall_mem_cons.mpr ⟨wt_12_9, List.forall_mem_cons.mpr ⟨wt_12_10, List.forall_mem_cons.mpr ⟨wt_12_11, List.forall_mem_cons.mpr ⟨wt_12_12, List.forall_mem_cons.mpr ⟨wt_12_13, List.forall_mem_cons.mpr ⟨wt_12_14, List.forall_mem_cons.mpr ⟨wt_12_15, fun _ h => absurd h List.not_mem_nil⟩⟩⟩⟩⟩⟩⟩⟩⟩⟩⟩⟩⟩⟩⟩⟩

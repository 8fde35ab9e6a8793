theorem wt_4_0 : Cond.instanceMethod yX0_levelTotal ∈ lw_tbl := by decide +kernel
theorem wt_4_1 : Cond.selects RX0 yX0_levelTotal yX0_levelTotal ∈ lw_tbl := by decide +kernel
theorem wt_4_2 : Cond.code yX0_levelTotal cX0_levelTotal 7 (some .long) ∈ lw_tbl := List.mem_append_right _ (List.mem_of_getElem? (i := 113) rfl)
theorem wt_4_3 : Cond.methodLink RX0 161 yX0_bounded ∈ lw_tbl := by decide +kernel
theorem wt_4_4 : Cond.static yX0_bounded ∈ lw_tbl := by decide +kernel
theorem wt_4_5 : Cond.code yX0_bounded cX0_bounded 6 (some .long) ∈ lw_tbl := List.mem_append_right _ (List.mem_of_getElem? (i := 118) rfl)
theorem wt_4_6 : Cond.methodLink RX0 173 Lib.MathLoose.max_long.x ∈ lw_tbl := by decide +kernel
theorem wt_4_7 : Cond.static Lib.MathLoose.max_long.x ∈ lw_tbl := by decide +kernel
theorem wt_4_8 : Cond.initialized "java/lang/Math" ∈ lw_tbl := by decide +kernel
theorem wt_4_9 : Cond.code Lib.MathLoose.max_long.x Lib.MathLoose.max_long.code 4 (some .long) ∈ lw_tbl := List.mem_append_right _ (List.mem_of_getElem? (i := 121) rfl)
theorem wt_4_10 : Cond.methodLink RX0 155 Lib.MathLoose.min_long.x ∈ lw_tbl := by decide +kernel
theorem wt_4_11 : Cond.static Lib.MathLoose.min_long.x ∈ lw_tbl := by decide +kernel
theorem wt_4_12 : Cond.code Lib.MathLoose.min_long.x Lib.MathLoose.min_long.code 4 (some .long) ∈ lw_tbl := List.mem_append_right _ (List.mem_of_getElem? (i := 124) rfl)
theorem wt_4_13 : Cond.methodLink RX0 93 yX0_refit ∈ lw_tbl := by decide +kernel
theorem wt_4_14 : Cond.instanceMethod yX0_refit ∈ lw_tbl := by decide +kernel
theorem wt_4_15 : Cond.selects RX0 yX0_refit yX0_refit ∈ lw_tbl := by decide +kernel
theorem wt_4_16 : Cond.code yX0_refit cX0_refit 4 none ∈ lw_tbl := List.mem_append_right _ (List.mem_of_getElem? (i := 128) rfl)
theorem wt_4_17 : Cond.constantLong RX0 147 (10000) ∈ lw_tbl := by decide +kernel
theorem wt_4_18 : Cond.methodLink RX0 149 yX0_total ∈ lw_tbl := by decide +kernel
theorem wt_4_19 : Cond.instanceMethod yX0_total ∈ lw_tbl := by decide +kernel
theorem wt_4_20 : Cond.selects RX0 yX0_total yX0_total ∈ lw_tbl := by decide +kernel
theorem wt_4_21 : Cond.code yX0_total cX0_total 5 (some .long) ∈ lw_tbl := List.mem_append_right _ (List.mem_of_getElem? (i := 132) rfl)
theorem wt_4_22 : Cond.methodLink RX0 188 yX0_fittedLoss ∈ lw_tbl := by decide +kernel
theorem wt_4_23 : Cond.instanceMethod yX0_fittedLoss ∈ lw_tbl := by decide +kernel
theorem wt_4 : ∀ w ∈ wsL_law0_r4, w ∈ lw_tbl := List.forall_mem_cons.mpr ⟨wt_4_0, List.forall_mem_cons.mpr ⟨wt_4_1, List.forall_mem_cons.mpr ⟨wt_4_2, List.forall_mem_cons.mpr ⟨wt_4_3, List.forall_mem_cons.mpr ⟨wt_4_4, List.forall_mem_cons.mpr ⟨wt_4_5, List.forall_mem_cons.mpr ⟨wt_4_6, List.forall_mem_cons.mpr ⟨wt_4_7, List.forall_mem_cons.mpr ⟨wt_4_8, List.forall_mem_cons.mpr ⟨wt_4_9, List.forall_mem_cons.mpr ⟨wt_4_10, List.forall_mem_cons.mpr ⟨wt_4_11, List.forall_mem_cons.mpr ⟨wt_4_12, List.forall_mem_cons.mpr ⟨wt_4_13, List.forall_mem_cons.mpr ⟨wt_4_14, List.forall_mem_cons.mpr ⟨wt_4_15, List.forall_mem_cons.mpr ⟨wt_4_16, List.forall_mem_cons.mpr ⟨wt_4_17, List.forall_mem_cons.mpr ⟨wt_4_18, List.forall_mem_cons.mpr ⟨wt_4_19, List.forall_mem_cons.mpr ⟨wt_4_20, List.forall_mem_cons.mpr ⟨wt_4_21, List.forall_mem_cons.mpr ⟨wt_4_22, List.forall_mem_cons.mpr ⟨wt_4_23, fun _ h => absurd h List.not_mem_nil⟩⟩⟩⟩⟩⟩⟩⟩⟩⟩⟩⟩⟩⟩⟩⟩⟩⟩⟩⟩⟩⟩⟩⟩
theorem wt_5_0 : Cond.selects RX0 yX0_fittedLoss yX0_fittedLoss ∈ lw_tbl := by decide +kernel
theorem wt_5_1 : Cond.code yX0_fittedLoss cX0_fittedLoss 5 (some .long) ∈ lw_tbl := List.mem_append_right _ (List.mem_of_getElem? (i := 137) rfl)
theorem wt_5_2 : Cond.methodLink RL 130 yL_from ∈ lw_tbl := by decide +kernel
theorem wt_5_3 : Cond.static yL_from ∈ lw_tbl := by decide +kernel
theorem wt_5_4 : Cond.code yL_from cL_from 4 (some .int) ∈ lw_tbl := List.mem_append_right _ (List.mem_of_getElem? (i := 140) rfl)
theorem wt_5_5 : Cond.constant RL 7 (156007) ∈ lw_tbl := by decide +kernel
theorem wt_5_6 : Cond.constant RL 8 (2147483647) ∈ lw_tbl := by decide +kernel
theorem wt_5_7 : Cond.methodLink RL 135 yL_acts ∈ lw_tbl := by decide +kernel
theorem wt_5_8 : Cond.static yL_acts ∈ lw_tbl := by decide +kernel
theorem wt_5_9 : Cond.code yL_acts cL_acts 19 (some .boolean) ∈ lw_tbl := List.mem_append_right _ (List.mem_of_getElem? (i := 146) rfl)
theorem wt_5_10 : Cond.constant RL 93 (1000000) ∈ lw_tbl := by decide +kernel
theorem wt_5_11 : Cond.constantLong RL 53 (-5) ∈ lw_tbl := by decide +kernel
theorem wt_5_12 : Cond.constant RL 101 (3000000) ∈ lw_tbl := by decide +kernel
theorem wt_5_13 : Cond.constant RL 105 (99901) ∈ lw_tbl := by decide +kernel
theorem wt_5_14 : Cond.constantLong RL 9 (10000) ∈ lw_tbl := by decide +kernel
theorem wt_5_15 : Cond.constantLong RL 124 (1000000) ∈ lw_tbl := by decide +kernel
theorem wt_5_16 : Cond.methodLink RL 94 yX0_add ∈ lw_tbl := by decide +kernel
theorem wt_5_17 : Cond.instanceMethod yX0_add ∈ lw_tbl := by decide +kernel
theorem wt_5_18 : Cond.selects RX0 yX0_add yX0_add ∈ lw_tbl := by decide +kernel
theorem wt_5_19 : Cond.code yX0_add cX0_add 8 (some .int) ∈ lw_tbl := List.mem_append_right _ (List.mem_of_getElem? (i := 151) rfl)
theorem wt_5_20 : Cond.classLink RX0 74 "java/lang/IllegalArgumentException" ∈ lw_tbl := by decide +kernel
theorem wt_5_21 : Cond.initialized "java/lang/IllegalArgumentException" ∈ lw_tbl := by decide +kernel
theorem wt_5_22 : Cond.classLink RX0 88 "java/lang/IllegalStateException" ∈ lw_tbl := by decide +kernel
theorem wt_5_23 : Cond.initialized "java/lang/IllegalStateException" ∈ lw_tbl := by decide +kernel
theorem wt_5 : ∀ w ∈ wsL_law0_r5, w ∈ lw_tbl := List.forall_mem_cons.mpr ⟨wt_5_0, List.forall_mem_cons.mpr ⟨wt_5_1, List.forall_mem_cons.mpr ⟨wt_5_2, List.forall_mem_cons.mpr ⟨wt_5_3, List.forall_mem_cons.mpr ⟨wt_5_4, List.forall_mem_cons.mpr ⟨wt_5_5, List.forall_mem_cons.mpr ⟨wt_5_6, List.forall_mem_cons.mpr ⟨wt_5_7, List.forall_mem_cons.mpr ⟨wt_5_8, List.forall_mem_cons.mpr ⟨wt_5_9, List.forall_mem_cons.mpr ⟨wt_5_10, List.forall_mem_cons.mpr ⟨wt_5_11, List.forall_mem_cons.mpr ⟨wt_5_12, List.forall_mem_cons.mpr ⟨wt_5_13, List.forall_mem_cons.mpr ⟨wt_5_14, List.forall_mem_cons.mpr ⟨wt_5_15, List.forall_mem_cons.mpr ⟨wt_5_16, List.forall_mem_cons.mpr ⟨wt_5_17, List.forall_mem_cons.mpr ⟨wt_5_18, List.forall_mem_cons.mpr ⟨wt_5_19, List.forall_mem_cons.mpr ⟨wt_5_20, List.forall_mem_cons.mpr ⟨wt_5_21, List.forall_mem_cons.mpr ⟨wt_5_22, List.forall_mem_cons.mpr ⟨wt_5_23, fun _ h => absurd h List.not_mem_nil⟩⟩⟩⟩⟩⟩⟩⟩⟩⟩⟩⟩⟩⟩⟩⟩⟩⟩⟩⟩⟩⟩⟩⟩
theorem wt_6_0 : Cond.constant RX0 85 (1000000) ∈ lw_tbl := by decide +kernel
theorem wt_6_1 : Cond.methodLink RX0 70 yX0_hasLevel ∈ lw_tbl := by decide +kernel
theorem wt_6_2 : Cond.static yX0_hasLevel ∈ lw_tbl := by decide +kernel
theorem wt_6_3 : Cond.code yX0_hasLevel cX0_hasLevel 2 (some .boolean) ∈ lw_tbl := List.mem_append_right _ (List.mem_of_getElem? (i := 154) rfl)
theorem wt_6_4 : Cond.methodLink RX0 117 yX0_hasTrait ∈ lw_tbl := by decide +kernel
theorem wt_6_5 : Cond.static yX0_hasTrait ∈ lw_tbl := by decide +kernel
theorem wt_6_6 : Cond.code yX0_hasTrait cX0_hasTrait 1 (some .boolean) ∈ lw_tbl := List.mem_append_right _ (List.mem_of_getElem? (i := 157) rfl)
theorem wt_6_7 : Cond.methodLink RX0 81 yX0_isWithin ∈ lw_tbl := by decide +kernel
theorem wt_6_8 : Cond.static yX0_isWithin ∈ lw_tbl := by decide +kernel
theorem wt_6_9 : Cond.code yX0_isWithin cX0_isWithin 3 (some .boolean) ∈ lw_tbl := List.mem_append_right _ (List.mem_of_getElem? (i := 228) rfl)
theorem wt_6_10 : Cond.methodLink RL 68 yL_rowTold ∈ lw_tbl := by decide +kernel
theorem wt_6_11 : Cond.static yL_rowTold ∈ lw_tbl := by decide +kernel
theorem wt_6_12 : Cond.codeWith yL_rowTold cL_rowTold 4 (some .long) [(0, 45, 46, 51)] ∈ lw_tbl := List.mem_append_right _ (List.mem_of_getElem? (i := 249) rfl)
theorem wt_6_13 : Cond.methodLink RL 37 yX0_fitted ∈ lw_tbl := by decide +kernel
theorem wt_6_14 : Cond.instanceMethod yX0_fitted ∈ lw_tbl := by decide +kernel
theorem wt_6_15 : Cond.selects RX0 yX0_fitted yX0_fitted ∈ lw_tbl := by decide +kernel
theorem wt_6_16 : Cond.code yX0_fitted cX0_fitted 2 (some .long) ∈ lw_tbl := List.mem_append_right _ (List.mem_of_getElem? (i := 253) rfl)
theorem wt_6_17 : Cond.classLink RX0 100 "java/lang/IndexOutOfBoundsException" ∈ lw_tbl := by decide +kernel
theorem wt_6_18 : Cond.initialized "java/lang/IndexOutOfBoundsException" ∈ lw_tbl := by decide +kernel
theorem wt_6_19 : Cond.methodLink RX0 96 yX0_hasRow ∈ lw_tbl := by decide +kernel
theorem wt_6_20 : Cond.instanceMethod yX0_hasRow ∈ lw_tbl := by decide +kernel
theorem wt_6_21 : Cond.selects RX0 yX0_hasRow yX0_hasRow ∈ lw_tbl := by decide +kernel
theorem wt_6_22 : Cond.code yX0_hasRow cX0_hasRow 2 (some .boolean) ∈ lw_tbl := List.mem_append_right _ (List.mem_of_getElem? (i := 257) rfl)
theorem wt_6_23 : Cond.methodLink RL 42 yX0_premium ∈ lw_tbl := by decide +kernel
theorem wt_6 : ∀ w ∈ wsL_law0_r6, w ∈ lw_tbl := List.forall_mem_cons.mpr ⟨wt_6_0, List.forall_mem_cons.mpr ⟨wt_6_1, List.forall_mem_cons.mpr ⟨wt_6_2, List.forall_mem_cons.mpr ⟨wt_6_3, List.forall_mem_cons.mpr ⟨wt_6_4, List.forall_mem_cons.mpr ⟨wt_6_5, List.forall_mem_cons.mpr ⟨wt_6_6, List.forall_mem_cons.mpr ⟨wt_6_7, List.forall_mem_cons.mpr ⟨wt_6_8, List.forall_mem_cons.mpr ⟨wt_6_9, List.forall_mem_cons.mpr ⟨wt_6_10, List.forall_mem_cons.mpr ⟨wt_6_11, List.forall_mem_cons.mpr ⟨wt_6_12, List.forall_mem_cons.mpr ⟨wt_6_13, List.forall_mem_cons.mpr ⟨wt_6_14, List.forall_mem_cons.mpr ⟨wt_6_15, List.forall_mem_cons.mpr ⟨wt_6_16, List.forall_mem_cons.mpr ⟨wt_6_17, List.forall_mem_cons.mpr ⟨wt_6_18, List.forall_mem_cons.mpr ⟨wt_6_19, List.forall_mem_cons.mpr ⟨wt_6_20, List.forall_mem_cons.mpr ⟨wt_6_21, List.forall_mem_cons.mpr ⟨wt_6_22, List.forall_mem_cons.mpr ⟨wt_6_23, fun _ h => absurd h List.not_mem_nil⟩⟩⟩⟩⟩⟩⟩⟩⟩⟩⟩⟩⟩⟩⟩⟩⟩⟩⟩⟩⟩⟩⟩⟩

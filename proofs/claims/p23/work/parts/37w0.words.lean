theorem wt_1_0 : Cond.methodLink RL 151 yL_isHeld ∈ lw_tbl := by decide +kernel
theorem wt_1_1 : Cond.static yL_isHeld ∈ lw_tbl := by decide +kernel
theorem wt_1_2 : Cond.initialized RL ∈ lw_tbl := by decide +kernel
theorem wt_1_3 : Cond.codeWith yL_isHeld cL_isHeld 2 (some .boolean) [(0, 4, 5, 51), (0, 4, 8, 147), (0, 4, 11, 149)] ∈ lw_tbl := List.mem_append_right _ (List.mem_of_getElem? (i := 12) rfl)
theorem wt_1_4 : Cond.classLink RL 51 "java/lang/IndexOutOfBoundsException" ∈ lw_tbl := by decide +kernel
theorem wt_1_5 : Cond.classLink RL 147 "java/lang/IllegalArgumentException" ∈ lw_tbl := by decide +kernel
theorem wt_1_6 : Cond.classLink RL 149 "java/lang/IllegalStateException" ∈ lw_tbl := by decide +kernel
theorem wt_1_7 : Cond.methodLink RL 143 yL_holds ∈ lw_tbl := by decide +kernel
theorem wt_1_8 : Cond.static yL_holds ∈ lw_tbl := by decide +kernel
theorem wt_1_9 : Cond.code yL_holds cL_holds 13 (some .boolean) ∈ lw_tbl := List.mem_append_right _ (List.mem_of_getElem? (i := 18) rfl)
theorem wt_1_10 : Cond.classLink RL 38 RX0 ∈ lw_tbl := by decide +kernel
theorem wt_1_11 : Cond.instantiable RX0 16 ∈ lw_tbl := by decide +kernel
theorem wt_1_12 : Cond.initialized RX0 ∈ lw_tbl := by decide +kernel
theorem wt_1_13 : Cond.arrayClass .int ∈ lw_tbl := by decide +kernel
theorem wt_1_14 : Cond.constant RL 134 (1000000000) ∈ lw_tbl := by decide +kernel
theorem wt_1_15 : Cond.methodLink RL 129 yX0_init ∈ lw_tbl := by decide +kernel
theorem wt_1_16 : Cond.instanceMethod yX0_init ∈ lw_tbl := by decide +kernel
theorem wt_1_17 : Cond.code yX0_init cX0_init 2 none ∈ lw_tbl := List.mem_append_right _ (List.mem_of_getElem? (i := 23) rfl)
theorem wt_1_18 : Cond.methodLink RX0 1 objectInit ∈ lw_tbl := by decide +kernel
theorem wt_1_19 : Cond.instanceMethod objectInit ∈ lw_tbl := by decide +kernel
theorem wt_1_20 : Cond.code objectInit ⟨#[0xb1]⟩ 1 none ∈ lw_tbl := List.mem_append_right _ (List.mem_of_getElem? (i := 26) rfl)
theorem wt_1_21 : Cond.classLink RX0 9 "[[I" ∈ lw_tbl := by decide +kernel
theorem wt_1_22 : Cond.fieldLink RX0 11 "RateFitter" "factors" "[[I" ∈ lw_tbl := by decide +kernel
theorem wt_1_23 : Cond.fieldLink RX0 14 "RateFitter" "rowLevels" "[[I" ∈ lw_tbl := by decide +kernel
theorem wt_1 : ∀ w ∈ wsL_law0_r1, w ∈ lw_tbl := List.forall_mem_cons.mpr ⟨wt_1_0, List.forall_mem_cons.mpr ⟨wt_1_1, List.forall_mem_cons.mpr ⟨wt_1_2, List.forall_mem_cons.mpr ⟨wt_1_3, List.forall_mem_cons.mpr ⟨wt_1_4, List.forall_mem_cons.mpr ⟨wt_1_5, List.forall_mem_cons.mpr ⟨wt_1_6, List.forall_mem_cons.mpr ⟨wt_1_7, List.forall_mem_cons.mpr ⟨wt_1_8, List.forall_mem_cons.mpr ⟨wt_1_9, List.forall_mem_cons.mpr ⟨wt_1_10, List.forall_mem_cons.mpr ⟨wt_1_11, List.forall_mem_cons.mpr ⟨wt_1_12, List.forall_mem_cons.mpr ⟨wt_1_13, List.forall_mem_cons.mpr ⟨wt_1_14, List.forall_mem_cons.mpr ⟨wt_1_15, List.forall_mem_cons.mpr ⟨wt_1_16, List.forall_mem_cons.mpr ⟨wt_1_17, List.forall_mem_cons.mpr ⟨wt_1_18, List.forall_mem_cons.mpr ⟨wt_1_19, List.forall_mem_cons.mpr ⟨wt_1_20, List.forall_mem_cons.mpr ⟨wt_1_21, List.forall_mem_cons.mpr ⟨wt_1_22, List.forall_mem_cons.mpr ⟨wt_1_23, fun _ h => absurd h List.not_mem_nil⟩⟩⟩⟩⟩⟩⟩⟩⟩⟩⟩⟩⟩⟩⟩⟩⟩⟩⟩⟩⟩⟩⟩⟩
theorem wt_2_0 : Cond.arrayClass .long ∈ lw_tbl := by decide +kernel
theorem wt_2_1 : Cond.fieldLink RX0 17 "RateFitter" "exposures" "[J" ∈ lw_tbl := by decide +kernel
theorem wt_2_2 : Cond.fieldLink RX0 21 "RateFitter" "claims" "[J" ∈ lw_tbl := by decide +kernel
theorem wt_2_3 : Cond.fieldLink RX0 24 "RateFitter" "losses" "[J" ∈ lw_tbl := by decide +kernel
theorem wt_2_4 : Cond.fieldLink RX0 27 "RateFitter" "oldPremiums" "[I" ∈ lw_tbl := by decide +kernel
theorem wt_2_5 : Cond.arrayClass .boolean ∈ lw_tbl := by decide +kernel
theorem wt_2_6 : Cond.fieldLink RX0 31 "RateFitter" "live" "[Z" ∈ lw_tbl := by decide +kernel
theorem wt_2_7 : Cond.fieldLink RX0 35 "RateFitter" "addedRows" "I" ∈ lw_tbl := by decide +kernel
theorem wt_2_8 : Cond.fieldLink RX0 39 "RateFitter" "liveRows" "I" ∈ lw_tbl := by decide +kernel
theorem wt_2_9 : Cond.fieldLink RX0 42 "RateFitter" "credibility" "I" ∈ lw_tbl := by decide +kernel
theorem wt_2_10 : Cond.fieldLink RX0 45 "RateFitter" "cap" "I" ∈ lw_tbl := by decide +kernel
theorem wt_2_11 : Cond.fieldLink RX0 48 "RateFitter" "spreadNow" "I" ∈ lw_tbl := by decide +kernel
theorem wt_2_12 : Cond.fieldLink RX0 51 "RateFitter" "baseNow" "J" ∈ lw_tbl := by decide +kernel
theorem wt_2_13 : Cond.fieldLink RX0 55 "RateFitter" "fittedLosses" "[J" ∈ lw_tbl := by decide +kernel
theorem wt_2_14 : Cond.fieldLink RX0 58 "RateFitter" "groupStarts" "[I" ∈ lw_tbl := by decide +kernel
theorem wt_2_15 : Cond.fieldLink RX0 61 "RateFitter" "factorsBefore" "[I" ∈ lw_tbl := by decide +kernel
theorem wt_2_16 : Cond.methodLink RX0 64 yJ7_fill_53178 ∈ lw_tbl := by decide +kernel
theorem wt_2_17 : Cond.static yJ7_fill_53178 ∈ lw_tbl := by decide +kernel
theorem wt_2_18 : Cond.initialized RJ7 ∈ lw_tbl := by decide +kernel
theorem wt_2_19 : Cond.code yJ7_fill_53178 cJ7_fill_53178 4 none ∈ lw_tbl := List.mem_append_right _ (List.mem_of_getElem? (i := 31) rfl)
theorem wt_2_20 : Cond.methodLink RL 85 yX0_rows ∈ lw_tbl := by decide +kernel
theorem wt_2_21 : Cond.instanceMethod yX0_rows ∈ lw_tbl := by decide +kernel
theorem wt_2_22 : Cond.selects RX0 yX0_rows yX0_rows ∈ lw_tbl := by decide +kernel
theorem wt_2_23 : Cond.code yX0_rows cX0_rows 1 (some .int) ∈ lw_tbl := List.mem_append_right _ (List.mem_of_getElem? (i := 87) rfl)
theorem wt_2 : ∀ w ∈ wsL_law0_r2, w ∈ lw_tbl := List.forall_mem_cons.mpr ⟨wt_2_0, List.forall_mem_cons.mpr ⟨wt_2_1, List.forall_mem_cons.mpr ⟨wt_2_2, List.forall_mem_cons.mpr ⟨wt_2_3, List.forall_mem_cons.mpr ⟨wt_2_4, List.forall_mem_cons.mpr ⟨wt_2_5, List.forall_mem_cons.mpr ⟨wt_2_6, List.forall_mem_cons.mpr ⟨wt_2_7, List.forall_mem_cons.mpr ⟨wt_2_8, List.forall_mem_cons.mpr ⟨wt_2_9, List.forall_mem_cons.mpr ⟨wt_2_10, List.forall_mem_cons.mpr ⟨wt_2_11, List.forall_mem_cons.mpr ⟨wt_2_12, List.forall_mem_cons.mpr ⟨wt_2_13, List.forall_mem_cons.mpr ⟨wt_2_14, List.forall_mem_cons.mpr ⟨wt_2_15, List.forall_mem_cons.mpr ⟨wt_2_16, List.forall_mem_cons.mpr ⟨wt_2_17, List.forall_mem_cons.mpr ⟨wt_2_18, List.forall_mem_cons.mpr ⟨wt_2_19, List.forall_mem_cons.mpr ⟨wt_2_20, List.forall_mem_cons.mpr ⟨wt_2_21, List.forall_mem_cons.mpr ⟨wt_2_22, List.forall_mem_cons.mpr ⟨wt_2_23, fun _ h => absurd h List.not_mem_nil⟩⟩⟩⟩⟩⟩⟩⟩⟩⟩⟩⟩⟩⟩⟩⟩⟩⟩⟩⟩⟩⟩⟩⟩
theorem wt_3_0 : Cond.methodLink RL 58 yX0_base ∈ lw_tbl := by decide +kernel
theorem wt_3_1 : Cond.instanceMethod yX0_base ∈ lw_tbl := by decide +kernel
theorem wt_3_2 : Cond.selects RX0 yX0_base yX0_base ∈ lw_tbl := by decide +kernel
theorem wt_3_3 : Cond.code yX0_base cX0_base 1 (some .long) ∈ lw_tbl := List.mem_append_right _ (List.mem_of_getElem? (i := 91) rfl)
theorem wt_3_4 : Cond.methodLink RL 116 yX0_settle ∈ lw_tbl := by decide +kernel
theorem wt_3_5 : Cond.instanceMethod yX0_settle ∈ lw_tbl := by decide +kernel
theorem wt_3_6 : Cond.selects RX0 yX0_settle yX0_settle ∈ lw_tbl := by decide +kernel
theorem wt_3_7 : Cond.code yX0_settle cX0_settle 2 (some .int) ∈ lw_tbl := List.mem_append_right _ (List.mem_of_getElem? (i := 95) rfl)
theorem wt_3_8 : Cond.methodLink RX0 126 yX0_changedByRound ∈ lw_tbl := by decide +kernel
theorem wt_3_9 : Cond.instanceMethod yX0_changedByRound ∈ lw_tbl := by decide +kernel
theorem wt_3_10 : Cond.selects RX0 yX0_changedByRound yX0_changedByRound ∈ lw_tbl := by decide +kernel
theorem wt_3_11 : Cond.code yX0_changedByRound cX0_changedByRound 3 (some .int) ∈ lw_tbl := List.mem_append_right _ (List.mem_of_getElem? (i := 99) rfl)
theorem wt_3_12 : Cond.methodLink RX0 122 yX0_passOver ∈ lw_tbl := by decide +kernel
theorem wt_3_13 : Cond.instanceMethod yX0_passOver ∈ lw_tbl := by decide +kernel
theorem wt_3_14 : Cond.selects RX0 yX0_passOver yX0_passOver ∈ lw_tbl := by decide +kernel
theorem wt_3_15 : Cond.code yX0_passOver cX0_passOver 5 (some .int) ∈ lw_tbl := List.mem_append_right _ (List.mem_of_getElem? (i := 103) rfl)
theorem wt_3_16 : Cond.fieldLink RX0 130 "RateFitter" "LEVELS" "[I" ∈ lw_tbl := by decide +kernel
theorem wt_3_17 : Cond.methodLink RX0 191 yX0_foundFactor ∈ lw_tbl := by decide +kernel
theorem wt_3_18 : Cond.instanceMethod yX0_foundFactor ∈ lw_tbl := by decide +kernel
theorem wt_3_19 : Cond.selects RX0 yX0_foundFactor yX0_foundFactor ∈ lw_tbl := by decide +kernel
theorem wt_3_20 : Cond.code yX0_foundFactor cX0_foundFactor 12 (some .int) ∈ lw_tbl := List.mem_append_right _ (List.mem_of_getElem? (i := 109) rfl)
theorem wt_3_21 : Cond.constantLong RX0 195 (100) ∈ lw_tbl := by decide +kernel
theorem wt_3_22 : Cond.constantLong RX0 197 (100000) ∈ lw_tbl := by decide +kernel
theorem wt_3_23 : Cond.methodLink RX0 165 yX0_levelTotal ∈ lw_tbl := by decide +kernel
theorem wt_3 : ∀ w ∈ wsL_law0_r3, w ∈ lw_tbl := List.forall_mem_cons.mpr ⟨wt_3_0, List.forall_mem_cons.mpr ⟨wt_3_1, List.forall_mem_cons.mpr ⟨wt_3_2, List.forall_mem_cons.mpr ⟨wt_3_3, List.forall_mem_cons.mpr ⟨wt_3_4, List.forall_mem_cons.mpr ⟨wt_3_5, List.forall_mem_cons.mpr ⟨wt_3_6, List.forall_mem_cons.mpr ⟨wt_3_7, List.forall_mem_cons.mpr ⟨wt_3_8, List.forall_mem_cons.mpr ⟨wt_3_9, List.forall_mem_cons.mpr ⟨wt_3_10, List.forall_mem_cons.mpr ⟨wt_3_11, List.forall_mem_cons.mpr ⟨wt_3_12, List.forall_mem_cons.mpr ⟨wt_3_13, List.forall_mem_cons.mpr ⟨wt_3_14, List.forall_mem_cons.mpr ⟨wt_3_15, List.forall_mem_cons.mpr ⟨wt_3_16, List.forall_mem_cons.mpr ⟨wt_3_17, List.forall_mem_cons.mpr ⟨wt_3_18, List.forall_mem_cons.mpr ⟨wt_3_19, List.forall_mem_cons.mpr ⟨wt_3_20, List.forall_mem_cons.mpr ⟨wt_3_21, List.forall_mem_cons.mpr ⟨wt_3_22, List.forall_mem_cons.mpr ⟨wt_3_23, fun _ h => absurd h List.not_mem_nil⟩⟩⟩⟩⟩⟩⟩⟩⟩⟩⟩⟩⟩⟩⟩⟩⟩⟩⟩⟩⟩⟩⟩⟩

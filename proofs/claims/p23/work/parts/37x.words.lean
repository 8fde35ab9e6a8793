theorem wt_X0 : ∀ w ∈ wsX00, w ∈ lw_tbl := by decide +kernel
theorem wt_I : ∀ w ∈ (vx_atS RX0 78 "java/lang/IllegalArgumentException" ["java/lang/RuntimeException", "java/lang/Exception"]).filter goodWord, w ∈ lw_tbl := by decide +kernel
theorem wt_S : ∀ w ∈ (vx_atS RX0 92 "java/lang/IllegalStateException" ["java/lang/RuntimeException", "java/lang/Exception"]).filter goodWord, w ∈ lw_tbl := by decide +kernel
theorem wt_B : ∀ w ∈ (vx_atS RX0 104 "java/lang/IndexOutOfBoundsException" ["java/lang/RuntimeException", "java/lang/Exception"]).filter goodWord, w ∈ lw_tbl := by decide +kernel
theorem WA_tbl : ∀ w ∈ WA, w ∈ lw_tbl := by
  have h0 : ∀ w ∈ wsL_law0, w ∈ lw_tbl := by
    unfold wsL_law0
    exact List.forall_mem_append.mpr ⟨List.forall_mem_append.mpr ⟨List.forall_mem_append.mpr ⟨wt_1, List.forall_mem_append.mpr ⟨wt_2, List.forall_mem_append.mpr ⟨wt_3, List.forall_mem_append.mpr ⟨wt_4, List.forall_mem_append.mpr ⟨wt_5, List.forall_mem_append.mpr ⟨wt_6, List.forall_mem_append.mpr ⟨wt_7, List.forall_mem_append.mpr ⟨wt_8, List.forall_mem_append.mpr ⟨wt_9, List.forall_mem_append.mpr ⟨wt_10, List.forall_mem_append.mpr ⟨wt_11, wt_12⟩⟩⟩⟩⟩⟩⟩⟩⟩⟩⟩, wt_X0⟩, fun _ h => nomatch h⟩
  unfold WA wsL_law
  exact List.forall_mem_append.mpr ⟨List.forall_mem_append.mpr ⟨List.forall_mem_append.mpr ⟨h0, wt_I⟩, wt_S⟩, wt_B⟩

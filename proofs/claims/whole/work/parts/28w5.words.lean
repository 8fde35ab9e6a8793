theorem wt_X0 : ∀ w ∈ wsX00, w ∈ lw_tbl := by decide +kernel
theorem wt_X1 : ∀ w ∈ wsX10, w ∈ lw_tbl := by decide +kernel

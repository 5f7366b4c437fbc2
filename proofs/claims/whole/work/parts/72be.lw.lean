set_option maxRecDepth 100000 in
theorem lwi_19 : ∀ w ∈ wsL_law0_r19, w ∈ lw_tbl := by decide +kernel

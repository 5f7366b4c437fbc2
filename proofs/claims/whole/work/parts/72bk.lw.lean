set_option maxRecDepth 100000 in
theorem lwi_27 : ∀ w ∈ wsL_law0_r27, w ∈ lw_tbl := by decide +kernel

set_option maxRecDepth 100000 in
theorem lwi_25 : ∀ w ∈ wsL_law0_r25, w ∈ lw_tbl := by decide +kernel
set_option maxRecDepth 100000 in
theorem lwi_26 : ∀ w ∈ wsL_law0_r26, w ∈ lw_tbl := by decide +kernel

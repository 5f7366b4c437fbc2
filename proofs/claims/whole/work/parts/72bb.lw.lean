set_option maxRecDepth 100000 in
theorem lwi_16 : ∀ w ∈ wsL_law0_r16, w ∈ lw_tbl := by decide +kernel
set_option maxRecDepth 100000 in
theorem lwi_17 : ∀ w ∈ wsL_law0_r17, w ∈ lw_tbl := by decide +kernel

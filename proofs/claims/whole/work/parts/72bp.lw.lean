set_option maxRecDepth 100000 in
theorem lwi_33 : ∀ w ∈ wsL_law0_r33, w ∈ lw_tbl := by decide +kernel
set_option maxRecDepth 100000 in
theorem lwi_34 : ∀ w ∈ wsL_law0_r34, w ∈ lw_tbl := by decide +kernel

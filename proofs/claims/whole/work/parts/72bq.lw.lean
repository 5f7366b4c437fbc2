set_option maxRecDepth 100000 in
theorem lwi_35 : ∀ w ∈ wsL_law0_r35, w ∈ lw_tbl := by decide +kernel
set_option maxRecDepth 100000 in
theorem lwi_36 : ∀ w ∈ wsL_law0_r36, w ∈ lw_tbl := by decide +kernel

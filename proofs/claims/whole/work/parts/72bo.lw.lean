set_option maxRecDepth 100000 in
theorem lwi_31 : ∀ w ∈ wsL_law0_r31, w ∈ lw_tbl := by decide +kernel
set_option maxRecDepth 100000 in
theorem lwi_32 : ∀ w ∈ wsL_law0_r32, w ∈ lw_tbl := by decide +kernel

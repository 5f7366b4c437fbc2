set_option maxRecDepth 100000 in
theorem lwi_20a : ∀ w ∈ wsL_law0_r20.take 1, w ∈ lw_tbl := by decide +kernel

set_option maxRecDepth 100000 in
theorem lwi_18a : ∀ w ∈ wsL_law0_r18.take 14, w ∈ lw_tbl := by decide +kernel

set_option maxRecDepth 100000 in
theorem lwi_28a : ∀ w ∈ wsL_law0_r28.take 18, w ∈ lw_tbl := by decide +kernel

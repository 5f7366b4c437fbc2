set_option maxRecDepth 100000 in
theorem lwi_20b : ∀ w ∈ wsL_law0_r20.drop 1, w ∈ lw_tbl := by decide +kernel
theorem lwi_20 : ∀ w ∈ wsL_law0_r20, w ∈ lw_tbl := fun w h => (List.mem_append.mp (by rw [List.take_append_drop 1 wsL_law0_r20]; exact h)).elim (lwi_20a w) (lwi_20b w)

set_option maxRecDepth 100000 in
theorem lwi_18b : ∀ w ∈ wsL_law0_r18.drop 14, w ∈ lw_tbl := by decide +kernel
theorem lwi_18 : ∀ w ∈ wsL_law0_r18, w ∈ lw_tbl := fun w h => (List.mem_append.mp (by rw [List.take_append_drop 14 wsL_law0_r18]; exact h)).elim (lwi_18a w) (lwi_18b w)

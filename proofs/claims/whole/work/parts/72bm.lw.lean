set_option maxRecDepth 100000 in
theorem lwi_28b : ∀ w ∈ wsL_law0_r28.drop 18, w ∈ lw_tbl := by decide +kernel
theorem lwi_28 : ∀ w ∈ wsL_law0_r28, w ∈ lw_tbl := fun w h => (List.mem_append.mp (by rw [List.take_append_drop 18 wsL_law0_r28]; exact h)).elim (lwi_28a w) (lwi_28b w)

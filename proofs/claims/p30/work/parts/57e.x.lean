set_option maxRecDepth 100000 in
theorem wsL_law_x4 : ∀ w ∈ kx_at.filter goodWord, w ∈ lw_tbl := by decide +kernel

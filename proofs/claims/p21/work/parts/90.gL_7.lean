/-! the law's words, by pieces -/
set_option maxRecDepth 20000 in
theorem wsL_law_iX3 : ∀ w ∈ wsX30, w ∈ lw_tbl := by decide +kernel
set_option maxRecDepth 20000 in
theorem wsL_law_iX2 : ∀ w ∈ wsX20, w ∈ lw_tbl := by decide +kernel
set_option maxRecDepth 20000 in
theorem wsL_law_iX1 : ∀ w ∈ wsX10, w ∈ lw_tbl := by decide +kernel

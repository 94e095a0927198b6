/-! the law's words, by pieces -/
set_option maxRecDepth 20000 in
theorem wsL_law_iX0 : ∀ w ∈ wsX00, w ∈ lw_tbl := by decide +kernel

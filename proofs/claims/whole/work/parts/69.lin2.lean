theorem lin_r13 : ∀ w ∈ wsL_law_r13, w ∈ lw_tbl := by decide +kernel
theorem lin_r14 : ∀ w ∈ wsL_law_r14, w ∈ lw_tbl := by decide +kernel
theorem lin_r15 : ∀ w ∈ wsL_law_r15, w ∈ lw_tbl := by decide +kernel
theorem lin_r16 : ∀ w ∈ wsL_law_r16, w ∈ lw_tbl := by decide +kernel
theorem lin_r17 : ∀ w ∈ wsL_law_r17, w ∈ lw_tbl := by decide +kernel
theorem lin_r18 : ∀ w ∈ wsL_law_r18, w ∈ lw_tbl := by decide +kernel

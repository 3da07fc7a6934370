theorem lin_r7 : ∀ w ∈ wsL_law_r7, w ∈ lw_tbl := by decide +kernel
theorem lin_r8 : ∀ w ∈ wsL_law_r8, w ∈ lw_tbl := by decide +kernel
theorem lin_r9 : ∀ w ∈ wsL_law_r9, w ∈ lw_tbl := by decide +kernel
theorem lin_r10 : ∀ w ∈ wsL_law_r10, w ∈ lw_tbl := by decide +kernel
theorem lin_r11 : ∀ w ∈ wsL_law_r11, w ∈ lw_tbl := by decide +kernel
theorem lin_r12 : ∀ w ∈ wsL_law_r12, w ∈ lw_tbl := by decide +kernel

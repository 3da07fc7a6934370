theorem lin_r19 : ∀ w ∈ wsL_law_r19, w ∈ lw_tbl := by decide +kernel
theorem lin_r20 : ∀ w ∈ wsL_law_r20, w ∈ lw_tbl := by decide +kernel
theorem lin_r21 : ∀ w ∈ wsL_law_r21, w ∈ lw_tbl := by decide +kernel
theorem lin_r22 : ∀ w ∈ wsL_law_r22, w ∈ lw_tbl := by decide +kernel
theorem lin_r23 : ∀ w ∈ wsL_law_r23, w ∈ lw_tbl := by decide +kernel
theorem lin_r24 : ∀ w ∈ wsL_law_r24, w ∈ lw_tbl := by decide +kernel

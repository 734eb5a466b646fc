theorem wsL_i31 : ∀ w ∈ wsL_law0_r31, w ∈ lw_tbl := by decide +kernel
theorem wsL_i32 : ∀ w ∈ wsL_law0_r32, w ∈ lw_tbl := by decide +kernel
theorem wsL_i33 : ∀ w ∈ wsL_law0_r33, w ∈ lw_tbl := by decide +kernel
theorem wsL_i34 : ∀ w ∈ wsL_law0_r34, w ∈ lw_tbl := by decide +kernel
theorem wsL_i35 : ∀ w ∈ wsL_law0_r35, w ∈ lw_tbl := by decide +kernel
theorem wsL_i36 : ∀ w ∈ wsL_law0_r36, w ∈ lw_tbl := by decide +kernel
theorem wsL_i37 : ∀ w ∈ wsL_law0_r37, w ∈ lw_tbl := by decide +kernel

theorem wsL_law_x5 : ∀ w ∈ (kNsA).filter goodWord, w ∈ lw_tbl := by decide +kernel

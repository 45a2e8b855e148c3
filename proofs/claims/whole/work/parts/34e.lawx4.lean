theorem wsL_law_x4 : ∀ w ∈ (vx_atS RX5 103 "java/lang/IllegalStateException" ["java/lang/RuntimeException", "java/lang/Exception"]).filter goodWord, w ∈ lw_tbl := by decide +kernel

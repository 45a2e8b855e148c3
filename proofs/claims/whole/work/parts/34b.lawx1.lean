theorem wsL_law_x1 : ∀ w ∈ (vx_atS RX5 55 "java/lang/UnsupportedOperationException" ["java/lang/RuntimeException", "java/lang/Exception"]).filter goodWord, w ∈ lw_tbl := by decide +kernel

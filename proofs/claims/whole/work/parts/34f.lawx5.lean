theorem wsL_law_x5 : ∀ w ∈ (vx_atS RX5 247 "java/util/NoSuchElementException" ["java/lang/RuntimeException", "java/lang/Exception"]).filter goodWord, w ∈ lw_tbl := by decide +kernel

theorem wsL_law_x3 : ∀ w ∈ (vx_atS RX6 86 "java/lang/UnsupportedOperationException" ["java/lang/RuntimeException", "java/lang/Exception"]).filter goodWord, w ∈ lw_tbl := by decide +kernel

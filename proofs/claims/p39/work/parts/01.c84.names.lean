theorem wsL_law_x4 : ∀ w ∈ (nse_atS RX6 126).filter goodWord, w ∈ lw_tbl := by decide +kernel

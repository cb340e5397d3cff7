set_option maxRecDepth 20000 in
theorem wsL_law0_r7_in : ∀ w ∈ wsL_law0_r7, w ∈ lw_tbl := fun w h => (goodIn_p wsL_law0_r7 [304, 308, 325, 312, 316] (by decide +kernel) (by decide +kernel) w h).1

set_option maxRecDepth 20000 in
theorem wsL_law0_r6_in : ∀ w ∈ wsL_law0_r6, w ∈ lw_tbl := fun w h => (goodIn_p wsL_law0_r6 [377, 380, 69, 73, 329] (by decide +kernel) (by decide +kernel) w h).1

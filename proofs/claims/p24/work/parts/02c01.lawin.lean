set_option maxRecDepth 20000 in
theorem wsL_law0_r2_in : ∀ w ∈ wsL_law0_r2, w ∈ lw_tbl := fun w h => (goodIn_p wsL_law0_r2 [145, 149, 153, 157, 161, 164] (by decide +kernel) (by decide +kernel) w h).1

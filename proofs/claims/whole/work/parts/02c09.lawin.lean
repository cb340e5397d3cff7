set_option maxRecDepth 20000 in
theorem wsL_law0_r19_in : ∀ w ∈ wsL_law0_r19, w ∈ lw_tbl := fun w h => (goodIn_p wsL_law0_r19 [171, 621, 625, 628, 178, 632] (by decide +kernel) (by decide +kernel) w h).1

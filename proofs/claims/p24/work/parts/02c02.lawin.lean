set_option maxRecDepth 20000 in
theorem wsL_law0_r3_in : ∀ w ∈ wsL_law0_r3, w ∈ lw_tbl := fun w h => (goodIn_p wsL_law0_r3 [168, 172, 176, 179, 185, 182, 188] (by decide +kernel) (by decide +kernel) w h).1

set_option maxRecDepth 20000 in
theorem wsL_law0_r8_in : ∀ w ∈ wsL_law0_r8, w ∈ lw_tbl := fun w h => (goodIn_p wsL_law0_r8 [221, 224, 227, 247, 251, 254] (by decide +kernel) (by decide +kernel) w h).1

set_option maxRecDepth 20000 in
theorem wsL_law0_r10_in : ∀ w ∈ wsL_law0_r10, w ∈ lw_tbl := fun w h => (goodIn_p wsL_law0_r10 [296, 300, 321, 333, 337, 210] (by decide +kernel) (by decide +kernel) w h).1

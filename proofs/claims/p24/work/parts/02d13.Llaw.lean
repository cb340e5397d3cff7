theorem goodIn_c {big ws : List Cond} {c : Cond} (h : c ∈ big) (hg : goodWord c = true) (hw : GoodIn big ws) : GoodIn big (c :: ws) := fun w hm => (List.mem_cons.mp hm).elim (fun e => e ▸ ⟨h, good_of_word hg⟩) (hw w)
set_option maxRecDepth 20000 in
theorem ggL_law_X0_init : GoodIn wsL_law wsX0_init := goodIn_r _ [7, 8, 9, 10, 3, 11, 12, 13, 14, 15, 16, 17, 18, 19, 20, 21, 264, 265, 266, 267, 268, 269, 270, 271, 272, 273] (by decide +kernel) (by decide +kernel)
set_option maxRecDepth 20000 in
theorem gL_law_X0_init : GoodIn wsL_law (wsX0_init) := ggL_law_X0_init
set_option maxRecDepth 20000 in
theorem ggL_law_X0_isClean : GoodIn wsL_law wsX0_isClean := goodIn_r _ [25, 20, 19, 26, 27, 28, 2, 29, 30, 31, 32, 33, 16, 17, 34, 35, 36, 37, 13, 38, 39, 40, 41, 18, 42, 43, 44, 45, 46, 47, 48, 15, 49, 50, 51, 52, 53, 54, 55, 56, 57, 58, 59, 60, 61, 62, 63, 64, 65, 66, 67, 68, 69, 70, 71, 72, 73, 74, 75, 76, 77, 78, 79, 80, 81, 82, 83, 84, 11, 85, 86, 87, 88, 12, 264, 265, 266, 267, 268, 269, 270, 271, 272, 273] (by decide +kernel) (by decide +kernel)
set_option maxRecDepth 20000 in
theorem gL_law_X0_isClean : GoodIn wsL_law (wsV RL 109 RX0 yX0_isClean wsX0_isClean) := goodIn_app (goodIn_of _ (by decide +kernel)) ggL_law_X0_isClean

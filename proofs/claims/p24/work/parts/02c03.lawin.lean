def wsL_law0_r4_s0 : List Cond := [Cond.selects RX0 yX0_needOf yX0_needOf, Cond.code yX0_needOf cX0_needOf 4 (some .int), Cond.methodLink RX0 142 Lib.Math.max.name, Cond.static Lib.Math.max.name, Cond.code Lib.Math.max.name Lib.Math.max.code 2 (some .int), Cond.methodLink RX0 149 yX0_greatestTableDistance, Cond.instanceMethod yX0_greatestTableDistance, Cond.selects RX0 yX0_greatestTableDistance yX0_greatestTableDistance, Cond.code yX0_greatestTableDistance cX0_greatestTableDistance 5 (some .int), Cond.methodLink RX0 50 yX0_tableDistance, Cond.instanceMethod yX0_tableDistance, Cond.selects RX0 yX0_tableDistance yX0_tableDistance, Cond.code yX0_tableDistance cX0_tableDistance 3 (some .int), Cond.methodLink RX0 77 yX0_areLimited, Cond.instanceMethod yX0_areLimited, Cond.selects RX0 yX0_areLimited yX0_areLimited, Cond.code yX0_areLimited cX0_areLimited 2 (some .boolean), Cond.methodLink RL 131 yL_isRefused, Cond.static yL_isRefused, Cond.initialized RL]
set_option maxRecDepth 20000 in
theorem wsL_law0_r4_s0_in : ∀ w ∈ wsL_law0_r4_s0, w ∈ lw_tbl := fun w h => (goodIn_p wsL_law0_r4_s0 [192, 203, 196, 200, 207] (by decide +kernel) (by decide +kernel) w h).1
set_option maxRecDepth 100000 in
theorem wsL_law0_r4_b1 : Cond.code yL_isRefused cL_isRefused 12 (some .boolean) ∈ lw_tbl := List.mem_of_getElem? (i := 390) (Eq.refl _)
def wsL_law0_r4_s2 : List Cond := [Cond.methodLink RL 116 yL_all, Cond.static yL_all, Cond.code yL_all cL_all 4 (some .long)]
set_option maxRecDepth 20000 in
theorem wsL_law0_r4_s2_in : ∀ w ∈ wsL_law0_r4_s2, w ∈ lw_tbl := fun w h => (goodIn_p wsL_law0_r4_s2 [393] (by decide +kernel) (by decide +kernel) w h).1
theorem wsL_law0_r4_in : ∀ w ∈ wsL_law0_r4, w ∈ lw_tbl := fun w h => by
  have h : w ∈ wsL_law0_r4_s0 ++ [Cond.code yL_isRefused cL_isRefused 12 (some .boolean)] ++ wsL_law0_r4_s2 := h
  exact (List.mem_append.mp h).elim (fun h => (List.mem_append.mp h).elim (fun h => wsL_law0_r4_s0_in w h) (fun h => (List.mem_singleton.mp h) ▸ wsL_law0_r4_b1)) (fun h => wsL_law0_r4_s2_in w h)

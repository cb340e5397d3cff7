def wsL_law0_r11_s0 : List Cond := [Cond.static yL_table, Cond.code yL_table cL_table 4 (some .int), Cond.methodLink RL 139 yL_sets, Cond.static yL_sets, Cond.code yL_sets cL_sets 5 none, Cond.methodLink RL 144 yL_areGoods, Cond.static yL_areGoods]
set_option maxRecDepth 20000 in
theorem wsL_law0_r11_s0_in : ∀ w ∈ wsL_law0_r11_s0, w ∈ lw_tbl := fun w h => (goodIn_p wsL_law0_r11_s0 [340, 343] (by decide +kernel) (by decide +kernel) w h).1
set_option maxRecDepth 100000 in
theorem wsL_law0_r11_b1 : Cond.code yL_areGoods cL_areGoods 15 (some .boolean) ∈ lw_tbl := List.mem_of_getElem? (i := 346) (Eq.refl _)
def wsL_law0_r11_s2 : List Cond := [Cond.methodLink RL 78 yL_isWithin, Cond.static yL_isWithin, Cond.code yL_isWithin cL_isWithin 4 (some .boolean), Cond.methodLink RL 106 yL_need, Cond.static yL_need, Cond.code yL_need cL_need 10 (some .int), Cond.methodLink RL 148 yL_isPlaceFor, Cond.static yL_isPlaceFor]
set_option maxRecDepth 20000 in
theorem wsL_law0_r11_s2_in : ∀ w ∈ wsL_law0_r11_s2, w ∈ lw_tbl := fun w h => (goodIn_p wsL_law0_r11_s2 [353, 356] (by decide +kernel) (by decide +kernel) w h).1
set_option maxRecDepth 100000 in
theorem wsL_law0_r11_b3 : Cond.code yL_isPlaceFor cL_isPlaceFor 8 (some .boolean) ∈ lw_tbl := List.mem_of_getElem? (i := 363) (Eq.refl _)
def wsL_law0_r11_s4 : List Cond := [Cond.methodLink RL 152 yL_isLeaving, Cond.static yL_isLeaving]
set_option maxRecDepth 20000 in
theorem wsL_law0_r11_s4_in : ∀ w ∈ wsL_law0_r11_s4, w ∈ lw_tbl := fun w h => (goodIn_p wsL_law0_r11_s4 [] (by decide +kernel) (by decide +kernel) w h).1
set_option maxRecDepth 100000 in
theorem wsL_law0_r11_b5 : Cond.code yL_isLeaving cL_isLeaving 8 (some .boolean) ∈ lw_tbl := List.mem_of_getElem? (i := 366) (Eq.refl _)
def wsL_law0_r11_s6 : List Cond := [Cond.methodLink RL 113 yX0_fewest, Cond.instanceMethod yX0_fewest, Cond.selects RX0 yX0_fewest yX0_fewest, Cond.code yX0_fewest cX0_fewest 1 (some .int)]
set_option maxRecDepth 20000 in
theorem wsL_law0_r11_s6_in : ∀ w ∈ wsL_law0_r11_s6, w ∈ lw_tbl := fun w h => (goodIn_p wsL_law0_r11_s6 [387] (by decide +kernel) (by decide +kernel) w h).1
theorem wsL_law0_r11_in : ∀ w ∈ wsL_law0_r11, w ∈ lw_tbl := fun w h => by
  have h : w ∈ wsL_law0_r11_s0 ++ [Cond.code yL_areGoods cL_areGoods 15 (some .boolean)] ++ wsL_law0_r11_s2 ++ [Cond.code yL_isPlaceFor cL_isPlaceFor 8 (some .boolean)] ++ wsL_law0_r11_s4 ++ [Cond.code yL_isLeaving cL_isLeaving 8 (some .boolean)] ++ wsL_law0_r11_s6 := h
  exact (List.mem_append.mp h).elim (fun h => (List.mem_append.mp h).elim (fun h => (List.mem_append.mp h).elim (fun h => (List.mem_append.mp h).elim (fun h => (List.mem_append.mp h).elim (fun h => (List.mem_append.mp h).elim (fun h => wsL_law0_r11_s0_in w h) (fun h => (List.mem_singleton.mp h) ▸ wsL_law0_r11_b1)) (fun h => wsL_law0_r11_s2_in w h)) (fun h => (List.mem_singleton.mp h) ▸ wsL_law0_r11_b3)) (fun h => wsL_law0_r11_s4_in w h)) (fun h => (List.mem_singleton.mp h) ▸ wsL_law0_r11_b5)) (fun h => wsL_law0_r11_s6_in w h)

set_option maxRecDepth 20000 in
theorem ggL_rule_X0_setDistance : GoodIn wsL_rule wsX0_setDistance := goodIn_ca (goodIn_r _ [7, 8, 9, 10, 6, 11, 12, 13, 14, 15, 16, 17, 18, 19, 20, 66, 67, 68, 69, 70, 71, 72, 73, 74, 75] (by decide +kernel) (by decide +kernel)) (goodIn_sub (fun _ h => List.mem_cons_of_mem _ (List.mem_append_left _ (List.mem_append_right _ h))) (by decide +kernel))
set_option maxRecDepth 20000 in
theorem gL_rule_X0_setDistance : GoodIn wsL_rule (wsV RL 9 RX0 yX0_setDistance wsX0_setDistance) := goodIn_app (goodIn_of _ (by decide +kernel)) ggL_rule_X0_setDistance
set_option maxRecDepth 20000 in
theorem ggL_rule_X0_bar : GoodIn wsL_rule wsX0_bar := goodIn_ca (goodIn_r _ [24, 25, 9, 10, 6, 11, 12, 13, 14, 15, 16, 66, 67, 68, 69, 70, 71, 72, 73, 74, 75] (by decide +kernel) (by decide +kernel)) (goodIn_sub (fun _ h => List.mem_cons_of_mem _ (List.mem_append_left _ (List.mem_append_right _ h))) (by decide +kernel))
set_option maxRecDepth 20000 in
theorem gL_rule_X0_bar : GoodIn wsL_rule (wsV RL 15 RX0 yX0_bar wsX0_bar) := goodIn_app (goodIn_of _ (by decide +kernel)) ggL_rule_X0_bar
set_option maxRecDepth 20000 in
theorem ggL_rule_X0_distance : GoodIn wsL_rule wsX0_distance := goodIn_ca (goodIn_r _ [29, 30, 31, 6, 32, 12, 13, 14, 15, 16, 33, 34, 35, 36, 37, 38, 39, 40, 41, 42, 43, 44, 45, 46, 47, 48] (by decide +kernel) (by decide +kernel)) (goodIn_sub (fun _ h => List.mem_cons_of_mem _ (List.mem_append_left _ (List.mem_append_right _ h))) (by decide +kernel))
set_option maxRecDepth 20000 in
theorem gL_rule_X0_distance : GoodIn wsL_rule (wsV RL 19 RX0 yX0_distance wsX0_distance) := goodIn_app (goodIn_of _ (by decide +kernel)) ggL_rule_X0_distance
set_option maxRecDepth 20000 in
theorem ggL_rule_X0_add : GoodIn wsL_rule wsX0_add := goodIn_ca (goodIn_ca (goodIn_r _ [52, 53, 54, 55, 56, 57, 58, 59, 9, 10, 6, 11, 12, 13, 14, 15, 16, 60, 61, 62, 63, 64, 65, 66, 67, 68, 69, 70, 71, 72, 73, 74, 75] (by decide +kernel) (by decide +kernel)) (goodIn_sub (fun _ h => List.mem_cons_of_mem _ (List.mem_append_right _ h)) (by decide +kernel))) (goodIn_sub (fun _ h => List.mem_cons_of_mem _ (List.mem_append_left _ (List.mem_append_right _ h))) (by decide +kernel))
set_option maxRecDepth 20000 in
theorem gL_rule_X0_add : GoodIn wsL_rule (wsV RL 23 RX0 yX0_add wsX0_add) := goodIn_app (goodIn_of _ (by decide +kernel)) ggL_rule_X0_add
set_option maxRecDepth 20000 in
theorem ggL_setQuantities_X0_setQuantities : GoodIn wsL_setQuantities wsX0_setQuantities := goodIn_ca (goodIn_r _ [6, 7, 8, 9, 10, 5, 11, 12, 13, 14, 15, 16, 17, 18, 19, 20, 21, 22, 23, 24, 25, 26] (by decide +kernel) (by decide +kernel)) (goodIn_sub (fun _ h => List.mem_cons_of_mem _ (List.mem_append_right _ h)) (by decide +kernel))
set_option maxRecDepth 20000 in
theorem gL_setQuantities_X0_setQuantities : GoodIn wsL_setQuantities (wsV RL 30 RX0 yX0_setQuantities wsX0_setQuantities) := goodIn_app (goodIn_of _ (by decide +kernel)) ggL_setQuantities_X0_setQuantities
set_option maxRecDepth 20000 in
theorem ggL_of_X0_setQuantity : GoodIn wsL_of wsX0_setQuantity := goodIn_ca (goodIn_ca (goodIn_r _ [7, 8, 9, 10, 11, 6, 12, 13, 14, 15, 16, 17, 18, 19, 20, 21, 22, 23, 141, 142, 143, 144, 145, 146, 147, 148, 149, 150] (by decide +kernel) (by decide +kernel)) (goodIn_sub (fun _ h => List.mem_cons_of_mem _ (List.mem_append_left _ (List.mem_append_right _ h))) (by decide +kernel))) (goodIn_sub (fun _ h => List.mem_cons_of_mem _ (List.mem_append_right _ h)) (by decide +kernel))
set_option maxRecDepth 20000 in
theorem gL_of_X0_setQuantity : GoodIn wsL_of (wsV RL 34 RX0 yX0_setQuantity wsX0_setQuantity) := goodIn_app (goodIn_of _ (by decide +kernel)) ggL_of_X0_setQuantity
set_option maxRecDepth 20000 in
theorem ggL_of_X0_put : GoodIn wsL_of wsX0_put := goodIn_ca (goodIn_ca (goodIn_r _ [27, 28, 9, 10, 11, 6, 12, 13, 14, 15, 29, 30, 31, 19, 20, 21, 22, 23, 141, 142, 143, 144, 145, 146, 147, 148, 149, 150] (by decide +kernel) (by decide +kernel)) (goodIn_sub (fun _ h => List.mem_cons_of_mem _ (List.mem_append_left _ (List.mem_append_right _ h))) (by decide +kernel))) (goodIn_sub (fun _ h => List.mem_cons_of_mem _ (List.mem_append_right _ h)) (by decide +kernel))
set_option maxRecDepth 20000 in
theorem gL_of_X0_put : GoodIn wsL_of (wsV RL 37 RX0 yX0_put wsX0_put) := goodIn_app (goodIn_of _ (by decide +kernel)) ggL_of_X0_put
set_option maxRecDepth 20000 in
theorem ggL_of_X0_placeOf : GoodIn wsL_of wsX0_placeOf := goodIn_ca (goodIn_r _ [35, 28, 9, 10, 11, 6, 12, 13, 14, 15, 141, 142, 143, 144, 145, 146, 147, 148, 149, 150] (by decide +kernel) (by decide +kernel)) (goodIn_sub (fun _ h => List.mem_cons_of_mem _ (List.mem_append_left _ (List.mem_append_right _ h))) (by decide +kernel))
set_option maxRecDepth 20000 in
theorem gL_of_X0_placeOf : GoodIn wsL_of (wsV RL 40 RX0 yX0_placeOf wsX0_placeOf) := goodIn_app (goodIn_of _ (by decide +kernel)) ggL_of_X0_placeOf
set_option maxRecDepth 20000 in
theorem ggL_of_X0_isLimited : GoodIn wsL_of wsX0_isLimited := goodIn_ca (goodIn_r _ [39, 9, 10, 11, 6, 12, 13, 14, 15, 40, 41, 42, 43, 44, 45, 46, 47, 48, 49, 8, 50, 51, 141, 142, 143, 144, 145, 146, 147, 148, 149, 150] (by decide +kernel) (by decide +kernel)) (goodIn_sub (fun _ h => List.mem_cons_of_mem _ (List.mem_append_left _ (List.mem_append_right _ h))) (by decide +kernel))
set_option maxRecDepth 20000 in
theorem gL_of_X0_isLimited : GoodIn wsL_of (wsV RL 44 RX0 yX0_isLimited wsX0_isLimited) := goodIn_app (goodIn_of _ (by decide +kernel)) ggL_of_X0_isLimited
set_option maxRecDepth 20000 in
theorem ggL_of_X0_isExcepted : GoodIn wsL_of wsX0_isExcepted := goodIn_ca (goodIn_r _ [55, 9, 10, 11, 6, 12, 13, 14, 15, 56, 57, 58, 59, 44, 46, 47, 48, 49, 8, 50, 51, 141, 142, 143, 144, 145, 146, 147, 148, 149, 150] (by decide +kernel) (by decide +kernel)) (goodIn_sub (fun _ h => List.mem_cons_of_mem _ (List.mem_append_left _ (List.mem_append_right _ h))) (by decide +kernel))
set_option maxRecDepth 20000 in
theorem gL_of_X0_isExcepted : GoodIn wsL_of (wsV RL 48 RX0 yX0_isExcepted wsX0_isExcepted) := goodIn_app (goodIn_of _ (by decide +kernel)) ggL_of_X0_isExcepted
set_option maxRecDepth 20000 in
theorem ggL_of_X0_need : GoodIn wsL_of wsX0_need := goodIn_ca (goodIn_ca (goodIn_r _ [63, 64, 65, 66, 6, 67, 22, 23, 9, 10, 11, 12, 13, 14, 15, 68, 69, 70, 71, 72, 73, 74, 75, 56, 57, 58, 59, 44, 46, 47, 48, 49, 8, 50, 51, 76, 77, 78, 79, 80, 81, 82, 83, 84, 40, 41, 42, 43, 45, 141, 142, 143, 144, 145, 146, 147, 148, 149, 150] (by decide +kernel) (by decide +kernel)) (goodIn_sub (fun _ h => List.mem_cons_of_mem _ (List.mem_append_right _ h)) (by decide +kernel))) (goodIn_sub (fun _ h => List.mem_cons_of_mem _ (List.mem_append_left _ (List.mem_append_right _ h))) (by decide +kernel))
set_option maxRecDepth 20000 in
theorem gL_of_X0_need : GoodIn wsL_of (wsV RL 51 RX0 yX0_need wsX0_need) := goodIn_app (goodIn_of _ (by decide +kernel)) ggL_of_X0_need
set_option maxRecDepth 20000 in
theorem ggL_of_X0_areInBreach : GoodIn wsL_of wsX0_areInBreach := goodIn_ca (goodIn_ca (goodIn_r _ [88, 28, 64, 65, 66, 6, 67, 22, 23, 9, 10, 11, 12, 13, 14, 15, 89, 90, 91, 92, 93, 94, 95, 96, 97, 74, 98, 99, 100, 101, 102, 103, 104, 105, 106, 107, 68, 69, 70, 71, 72, 73, 75, 56, 57, 58, 59, 44, 46, 47, 48, 49, 8, 50, 51, 76, 77, 78, 79, 80, 81, 82, 83, 84, 40, 41, 42, 43, 45, 141, 142, 143, 144, 145, 146, 147, 148, 149, 150] (by decide +kernel) (by decide +kernel)) (goodIn_sub (fun _ h => List.mem_cons_of_mem _ (List.mem_append_right _ h)) (by decide +kernel))) (goodIn_sub (fun _ h => List.mem_cons_of_mem _ (List.mem_append_left _ (List.mem_append_right _ h))) (by decide +kernel))
set_option maxRecDepth 20000 in
theorem gL_of_X0_areInBreach : GoodIn wsL_of (wsV RL 54 RX0 yX0_areInBreach wsX0_areInBreach) := goodIn_app (goodIn_of _ (by decide +kernel)) ggL_of_X0_areInBreach
set_option maxRecDepth 20000 in
theorem ggL_of_X0_isMisplaced : GoodIn wsL_of wsX0_isMisplaced := goodIn_ca (goodIn_r _ [111, 28, 9, 10, 11, 6, 12, 13, 14, 15, 112, 113, 114, 115, 51, 50, 56, 57, 58, 59, 44, 46, 47, 48, 49, 8, 105, 106, 107, 116, 117, 118, 119, 120, 141, 142, 143, 144, 145, 146, 147, 148, 149, 150] (by decide +kernel) (by decide +kernel)) (goodIn_sub (fun _ h => List.mem_cons_of_mem _ (List.mem_append_left _ (List.mem_append_right _ h))) (by decide +kernel))
set_option maxRecDepth 20000 in
theorem gL_of_X0_isMisplaced : GoodIn wsL_of (wsV RL 58 RX0 yX0_isMisplaced wsX0_isMisplaced) := goodIn_app (goodIn_of _ (by decide +kernel)) ggL_of_X0_isMisplaced
set_option maxRecDepth 20000 in
theorem ggL_of_X0_inBreachWith : GoodIn wsL_of wsX0_inBreachWith := goodIn_ca (goodIn_r _ [124, 28, 9, 10, 11, 6, 12, 13, 14, 15, 125, 126, 127, 128, 89, 90, 91, 92, 93, 94, 95, 96, 97, 74, 98, 99, 100, 101, 102, 103, 104, 105, 106, 107, 68, 69, 70, 71, 72, 73, 75, 56, 57, 58, 59, 44, 46, 47, 48, 49, 8, 50, 51, 76, 77, 78, 79, 80, 81, 82, 83, 84, 40, 41, 42, 43, 45, 141, 142, 143, 144, 145, 146, 147, 148, 149, 150] (by decide +kernel) (by decide +kernel)) (goodIn_sub (fun _ h => List.mem_cons_of_mem _ (List.mem_append_left _ (List.mem_append_right _ h))) (by decide +kernel))
set_option maxRecDepth 20000 in
theorem gL_of_X0_inBreachWith : GoodIn wsL_of (wsV RL 61 RX0 yX0_inBreachWith wsX0_inBreachWith) := goodIn_app (goodIn_of _ (by decide +kernel)) ggL_of_X0_inBreachWith
set_option maxRecDepth 20000 in
theorem ggL_of_X0_canPut : GoodIn wsL_of wsX0_canPut := goodIn_ca (goodIn_ca (goodIn_r _ [132, 9, 10, 11, 6, 12, 13, 14, 15, 29, 30, 31, 19, 20, 21, 22, 23, 133, 134, 135, 136, 112, 113, 114, 115, 51, 50, 56, 57, 58, 59, 44, 46, 47, 48, 49, 8, 105, 106, 107, 116, 117, 118, 119, 120, 125, 126, 127, 128, 89, 90, 91, 92, 28, 93, 94, 95, 96, 97, 74, 98, 99, 100, 101, 102, 103, 104, 68, 69, 70, 71, 72, 73, 75, 76, 77, 78, 79, 80, 81, 82, 83, 84, 40, 41, 42, 43, 45, 141, 142, 143, 144, 145, 146, 147, 148, 149, 150] (by decide +kernel) (by decide +kernel)) (goodIn_sub (fun _ h => List.mem_cons_of_mem _ (List.mem_append_left _ (List.mem_append_right _ h))) (by decide +kernel))) (goodIn_sub (fun _ h => List.mem_cons_of_mem _ (List.mem_append_right _ h)) (by decide +kernel))
set_option maxRecDepth 20000 in
theorem gL_of_X0_canPut : GoodIn wsL_of (wsV RL 64 RX0 yX0_canPut wsX0_canPut) := goodIn_app (goodIn_of _ (by decide +kernel)) ggL_of_X0_canPut
set_option maxRecDepth 20000 in
theorem ggL_of_X0_placeFor : GoodIn wsL_of wsX0_placeFor := goodIn_ca (goodIn_r _ [140, 9, 10, 11, 6, 12, 13, 14, 15, 133, 134, 135, 136, 112, 113, 114, 115, 51, 50, 56, 57, 58, 59, 44, 46, 47, 48, 49, 8, 105, 106, 107, 116, 117, 118, 119, 120, 125, 126, 127, 128, 89, 90, 91, 92, 28, 93, 94, 95, 96, 97, 74, 98, 99, 100, 101, 102, 103, 104, 68, 69, 70, 71, 72, 73, 75, 76, 77, 78, 79, 80, 81, 82, 83, 84, 40, 41, 42, 43, 45, 141, 142, 143, 144, 145, 146, 147, 148, 149, 150] (by decide +kernel) (by decide +kernel)) (goodIn_sub (fun _ h => List.mem_cons_of_mem _ (List.mem_append_left _ (List.mem_append_right _ h))) (by decide +kernel))
set_option maxRecDepth 20000 in
theorem gL_of_X0_placeFor : GoodIn wsL_of (wsV RL 67 RX0 yX0_placeFor wsX0_placeFor) := goodIn_app (goodIn_of _ (by decide +kernel)) ggL_of_X0_placeFor
set_option maxRecDepth 20000 in
theorem ggL_need_L_table : GoodIn wsL_need wsL_table := goodIn_r _ [4] (by decide +kernel) (by decide +kernel)
set_option maxRecDepth 20000 in
theorem gL_need_L_table : GoodIn wsL_need (va_wsS RL 72 yL_table wsL_table) := goodIn_app (goodIn_of _ (by decide +kernel)) ggL_need_L_table
set_option maxRecDepth 20000 in
theorem ggL_need_L_isWithin : GoodIn wsL_need wsL_isWithin := goodIn_r _ [7] (by decide +kernel) (by decide +kernel)
set_option maxRecDepth 20000 in
theorem gL_need_L_isWithin : GoodIn wsL_need (va_wsS RL 78 yL_isWithin wsL_isWithin) := goodIn_app (goodIn_of _ (by decide +kernel)) ggL_need_L_isWithin
set_option maxRecDepth 20000 in
theorem ggL_all_X0_goods : GoodIn wsL_all wsX0_goods := goodIn_r _ [12, 13, 140, 141, 142, 143, 144, 145, 146, 147, 148, 149] (by decide +kernel) (by decide +kernel)
set_option maxRecDepth 20000 in
theorem gL_all_X0_goods : GoodIn wsL_all (wsV RL 82 RX0 yX0_goods wsX0_goods) := goodIn_app (goodIn_of _ (by decide +kernel)) ggL_all_X0_goods
set_option maxRecDepth 20000 in
theorem ggL_all_X0_breaches : GoodIn wsL_all wsX0_breaches := goodIn_r _ [17, 13, 18, 19, 20, 21, 11, 22, 23, 24, 25, 26, 27, 28, 29, 30, 31, 32, 33, 34, 35, 36, 37, 38, 39, 40, 41, 42, 43, 44, 45, 46, 47, 48, 49, 50, 51, 52, 53, 54, 55, 56, 57, 58, 59, 60, 61, 62, 63, 64, 65, 66, 67, 68, 69, 70, 71, 140, 141, 142, 143, 144, 145, 146, 147, 148, 149] (by decide +kernel) (by decide +kernel)
set_option maxRecDepth 20000 in
theorem gL_all_X0_breaches : GoodIn wsL_all (wsV RL 88 RX0 yX0_breaches wsX0_breaches) := goodIn_app (goodIn_of _ (by decide +kernel)) ggL_all_X0_breaches
set_option maxRecDepth 20000 in
theorem ggL_all_X0_leaving : GoodIn wsL_all wsX0_leaving := goodIn_r _ [75, 76, 77, 78, 11, 79, 13, 80, 18, 81, 82, 83, 84, 19, 20, 21, 22, 23, 24, 25, 26, 27, 28, 29, 30, 31, 32, 33, 34, 35, 36, 37, 38, 39, 40, 41, 42, 43, 44, 45, 46, 47, 48, 49, 50, 51, 52, 53, 54, 55, 56, 57, 58, 59, 60, 61, 62, 63, 64, 65, 66, 67, 68, 69, 70, 71, 85, 86, 87, 88, 89, 90, 91, 92, 93, 94, 95, 96, 97, 98, 99, 100, 101, 102, 103, 140, 141, 142, 143, 144, 145, 146, 147, 148, 149] (by decide +kernel) (by decide +kernel)
set_option maxRecDepth 20000 in
theorem gL_all_X0_leaving : GoodIn wsL_all (wsV RL 93 RX0 yX0_leaving wsX0_leaving) := goodIn_app (goodIn_of _ (by decide +kernel)) ggL_all_X0_leaving
set_option maxRecDepth 20000 in
theorem ggL_all_X0_placeOf : GoodIn wsL_all wsX0_placeOf := goodIn_ca (goodIn_r _ [107, 18, 108, 109, 110, 11, 111, 112, 113, 13, 140, 141, 142, 143, 144, 145, 146, 147, 148, 149] (by decide +kernel) (by decide +kernel)) (goodIn_sub (fun _ h => List.mem_cons_of_mem _ (List.mem_append_left _ (List.mem_append_right _ h))) (by decide +kernel))
set_option maxRecDepth 20000 in
theorem gL_all_X0_placeOf : GoodIn wsL_all (wsV RL 40 RX0 yX0_placeOf wsX0_placeOf) := goodIn_app (goodIn_of _ (by decide +kernel)) ggL_all_X0_placeOf
set_option maxRecDepth 20000 in
theorem ggL_all_X0_inBreachWith : GoodIn wsL_all wsX0_inBreachWith := goodIn_ca (goodIn_r _ [117, 18, 108, 109, 110, 11, 111, 112, 113, 13, 81, 82, 83, 84, 19, 20, 21, 22, 23, 24, 25, 26, 27, 28, 29, 30, 31, 32, 33, 34, 35, 36, 37, 38, 39, 40, 41, 42, 43, 44, 45, 46, 47, 48, 49, 50, 51, 52, 53, 54, 55, 56, 57, 58, 59, 60, 61, 62, 63, 64, 65, 66, 67, 68, 69, 70, 71, 140, 141, 142, 143, 144, 145, 146, 147, 148, 149] (by decide +kernel) (by decide +kernel)) (goodIn_sub (fun _ h => List.mem_cons_of_mem _ (List.mem_append_left _ (List.mem_append_right _ h))) (by decide +kernel))

set_option maxRecDepth 20000 in
theorem gL_all_X0_inBreachWith : GoodIn wsL_all (wsV RL 61 RX0 yX0_inBreachWith wsX0_inBreachWith) := goodIn_app (goodIn_of _ (by decide +kernel)) ggL_all_X0_inBreachWith
set_option maxRecDepth 20000 in
theorem ggL_all_X0_isLimited : GoodIn wsL_all wsX0_isLimited := goodIn_ca (goodIn_r _ [121, 108, 109, 110, 11, 111, 112, 113, 13, 67, 68, 69, 70, 50, 71, 51, 52, 53, 54, 55, 56, 57, 140, 141, 142, 143, 144, 145, 146, 147, 148, 149] (by decide +kernel) (by decide +kernel)) (goodIn_sub (fun _ h => List.mem_cons_of_mem _ (List.mem_append_left _ (List.mem_append_right _ h))) (by decide +kernel))
set_option maxRecDepth 20000 in
theorem gL_all_X0_isLimited : GoodIn wsL_all (wsV RL 44 RX0 yX0_isLimited wsX0_isLimited) := goodIn_app (goodIn_of _ (by decide +kernel)) ggL_all_X0_isLimited
set_option maxRecDepth 20000 in
theorem ggL_all_X0_isExcepted : GoodIn wsL_all wsX0_isExcepted := goodIn_ca (goodIn_r _ [125, 108, 109, 110, 11, 111, 112, 113, 13, 46, 47, 48, 49, 50, 51, 52, 53, 54, 55, 56, 57, 140, 141, 142, 143, 144, 145, 146, 147, 148, 149] (by decide +kernel) (by decide +kernel)) (goodIn_sub (fun _ h => List.mem_cons_of_mem _ (List.mem_append_left _ (List.mem_append_right _ h))) (by decide +kernel))
set_option maxRecDepth 20000 in
theorem gL_all_X0_isExcepted : GoodIn wsL_all (wsV RL 48 RX0 yX0_isExcepted wsX0_isExcepted) := goodIn_app (goodIn_of _ (by decide +kernel)) ggL_all_X0_isExcepted
set_option maxRecDepth 20000 in
theorem ggL_all_X0_isMisplaced : GoodIn wsL_all wsX0_isMisplaced := goodIn_ca (goodIn_r _ [129, 18, 108, 109, 110, 11, 111, 112, 113, 13, 85, 86, 87, 88, 57, 56, 46, 47, 48, 49, 50, 51, 52, 53, 54, 55, 36, 37, 38, 89, 90, 91, 92, 93, 140, 141, 142, 143, 144, 145, 146, 147, 148, 149] (by decide +kernel) (by decide +kernel)) (goodIn_sub (fun _ h => List.mem_cons_of_mem _ (List.mem_append_left _ (List.mem_append_right _ h))) (by decide +kernel))
set_option maxRecDepth 20000 in
theorem gL_all_X0_isMisplaced : GoodIn wsL_all (wsV RL 58 RX0 yX0_isMisplaced wsX0_isMisplaced) := goodIn_app (goodIn_of _ (by decide +kernel)) ggL_all_X0_isMisplaced
set_option maxRecDepth 20000 in
theorem ggL_all_X0_need : GoodIn wsL_all wsX0_need := goodIn_ca (goodIn_ca (goodIn_r _ [133, 134, 135, 136, 11, 137, 138, 139, 108, 109, 110, 111, 112, 113, 13, 39, 40, 41, 42, 43, 44, 28, 45, 46, 47, 48, 49, 50, 51, 52, 53, 54, 55, 56, 57, 58, 59, 60, 61, 62, 63, 64, 65, 66, 67, 68, 69, 70, 71, 140, 141, 142, 143, 144, 145, 146, 147, 148, 149] (by decide +kernel) (by decide +kernel)) (goodIn_sub (fun _ h => List.mem_cons_of_mem _ (List.mem_append_right _ h)) (by decide +kernel))) (goodIn_sub (fun _ h => List.mem_cons_of_mem _ (List.mem_append_left _ (List.mem_append_right _ h))) (by decide +kernel))
set_option maxRecDepth 20000 in
theorem gL_all_X0_need : GoodIn wsL_all (wsV RL 51 RX0 yX0_need wsX0_need) := goodIn_app (goodIn_of _ (by decide +kernel)) ggL_all_X0_need
set_option maxRecDepth 20000 in
theorem ggL_areGoods_X0_goods : GoodIn wsL_areGoods wsX0_goods := goodIn_r _ [5, 6, 146, 147, 148, 149, 150, 151, 152, 153, 154, 155] (by decide +kernel) (by decide +kernel)
set_option maxRecDepth 20000 in
theorem gL_areGoods_X0_goods : GoodIn wsL_areGoods (wsV RL 82 RX0 yX0_goods wsX0_goods) := goodIn_app (goodIn_of _ (by decide +kernel)) ggL_areGoods_X0_goods
set_option maxRecDepth 20000 in
theorem ggL_areGoods_X0_placeOf : GoodIn wsL_areGoods wsX0_placeOf := goodIn_ca (goodIn_r _ [10, 11, 12, 13, 14, 4, 15, 16, 17, 6, 146, 147, 148, 149, 150, 151, 152, 153, 154, 155] (by decide +kernel) (by decide +kernel)) (goodIn_sub (fun _ h => List.mem_cons_of_mem _ (List.mem_append_left _ (List.mem_append_right _ h))) (by decide +kernel))
set_option maxRecDepth 20000 in
theorem gL_areGoods_X0_placeOf : GoodIn wsL_areGoods (wsV RL 40 RX0 yX0_placeOf wsX0_placeOf) := goodIn_app (goodIn_of _ (by decide +kernel)) ggL_areGoods_X0_placeOf
set_option maxRecDepth 20000 in
theorem ggL_areGoods_X0_inBreachWith : GoodIn wsL_areGoods wsX0_inBreachWith := goodIn_ca (goodIn_r _ [21, 11, 12, 13, 14, 4, 15, 16, 17, 6, 22, 23, 24, 25, 26, 27, 28, 29, 30, 31, 32, 33, 34, 35, 36, 37, 38, 39, 40, 41, 42, 43, 44, 45, 46, 47, 48, 49, 50, 51, 52, 53, 54, 55, 56, 57, 58, 59, 60, 61, 62, 63, 64, 65, 66, 67, 68, 69, 70, 71, 72, 73, 74, 75, 76, 77, 78, 146, 147, 148, 149, 150, 151, 152, 153, 154, 155] (by decide +kernel) (by decide +kernel)) (goodIn_sub (fun _ h => List.mem_cons_of_mem _ (List.mem_append_left _ (List.mem_append_right _ h))) (by decide +kernel))
set_option maxRecDepth 20000 in
theorem gL_areGoods_X0_inBreachWith : GoodIn wsL_areGoods (wsV RL 61 RX0 yX0_inBreachWith wsX0_inBreachWith) := goodIn_app (goodIn_of _ (by decide +kernel)) ggL_areGoods_X0_inBreachWith
set_option maxRecDepth 20000 in
theorem ggL_areGoods_X0_isMisplaced : GoodIn wsL_areGoods wsX0_isMisplaced := goodIn_ca (goodIn_r _ [82, 11, 12, 13, 14, 4, 15, 16, 17, 6, 83, 84, 85, 86, 64, 63, 53, 54, 55, 56, 57, 58, 59, 60, 61, 62, 43, 44, 45, 87, 88, 89, 90, 91, 146, 147, 148, 149, 150, 151, 152, 153, 154, 155] (by decide +kernel) (by decide +kernel)) (goodIn_sub (fun _ h => List.mem_cons_of_mem _ (List.mem_append_left _ (List.mem_append_right _ h))) (by decide +kernel))
set_option maxRecDepth 20000 in
theorem gL_areGoods_X0_isMisplaced : GoodIn wsL_areGoods (wsV RL 58 RX0 yX0_isMisplaced wsX0_isMisplaced) := goodIn_app (goodIn_of _ (by decide +kernel)) ggL_areGoods_X0_isMisplaced
set_option maxRecDepth 20000 in
theorem ggL_areGoods_X0_isExcepted : GoodIn wsL_areGoods wsX0_isExcepted := goodIn_ca (goodIn_r _ [95, 12, 13, 14, 4, 15, 16, 17, 6, 53, 54, 55, 56, 57, 58, 59, 60, 61, 62, 63, 64, 146, 147, 148, 149, 150, 151, 152, 153, 154, 155] (by decide +kernel) (by decide +kernel)) (goodIn_sub (fun _ h => List.mem_cons_of_mem _ (List.mem_append_left _ (List.mem_append_right _ h))) (by decide +kernel))
set_option maxRecDepth 20000 in
theorem gL_areGoods_X0_isExcepted : GoodIn wsL_areGoods (wsV RL 48 RX0 yX0_isExcepted wsX0_isExcepted) := goodIn_app (goodIn_of _ (by decide +kernel)) ggL_areGoods_X0_isExcepted
set_option maxRecDepth 20000 in
theorem ggL_areGoods_L_isWithin : GoodIn wsL_areGoods wsL_isWithin := goodIn_r _ [99] (by decide +kernel) (by decide +kernel)
set_option maxRecDepth 20000 in
theorem gL_areGoods_L_isWithin : GoodIn wsL_areGoods (va_wsS RL 78 yL_isWithin wsL_isWithin) := goodIn_app (goodIn_of _ (by decide +kernel)) ggL_areGoods_L_isWithin
set_option maxRecDepth 20000 in
theorem ggL_areGoods_X0_isLimited : GoodIn wsL_areGoods wsX0_isLimited := goodIn_ca (goodIn_r _ [103, 12, 13, 14, 4, 15, 16, 17, 6, 74, 75, 76, 77, 57, 78, 58, 59, 60, 61, 62, 63, 64, 146, 147, 148, 149, 150, 151, 152, 153, 154, 155] (by decide +kernel) (by decide +kernel)) (goodIn_sub (fun _ h => List.mem_cons_of_mem _ (List.mem_append_left _ (List.mem_append_right _ h))) (by decide +kernel))
set_option maxRecDepth 20000 in
theorem gL_areGoods_X0_isLimited : GoodIn wsL_areGoods (wsV RL 44 RX0 yX0_isLimited wsX0_isLimited) := goodIn_app (goodIn_of _ (by decide +kernel)) ggL_areGoods_X0_isLimited
set_option maxRecDepth 20000 in
theorem ggL_areGoods_X0_distance : GoodIn wsL_areGoods wsX0_distance := goodIn_ca (goodIn_r _ [107, 108, 109, 4, 110, 111, 112, 113, 114, 115, 30, 31, 32, 33, 34, 35, 36, 37, 38, 39, 40, 41, 42, 43, 44, 45] (by decide +kernel) (by decide +kernel)) (goodIn_sub (fun _ h => List.mem_cons_of_mem _ (List.mem_append_right _ h)) (by decide +kernel))
set_option maxRecDepth 20000 in
theorem gL_areGoods_X0_distance : GoodIn wsL_areGoods (wsV RL 19 RX0 yX0_distance wsX0_distance) := goodIn_app (goodIn_of _ (by decide +kernel)) ggL_areGoods_X0_distance
set_option maxRecDepth 20000 in
theorem ggL_areGoods_L_need : GoodIn wsL_areGoods wsL_need := goodIn_r _ [118, 119, 120, 98, 121, 96, 97, 99] (by decide +kernel) (by decide +kernel)
set_option maxRecDepth 20000 in
theorem gL_areGoods_L_need : GoodIn wsL_areGoods (va_wsS RL 106 yL_need wsL_need) := goodIn_app (goodIn_of _ (by decide +kernel)) ggL_areGoods_L_need
set_option maxRecDepth 20000 in
theorem ggL_areGoods_X0_areInBreach : GoodIn wsL_areGoods wsX0_areInBreach := goodIn_ca (goodIn_ca (goodIn_r _ [125, 11, 126, 127, 128, 4, 129, 114, 115, 12, 13, 14, 15, 16, 17, 6, 26, 27, 28, 29, 30, 31, 32, 33, 34, 35, 36, 37, 38, 39, 40, 41, 42, 43, 44, 45, 46, 47, 48, 49, 50, 51, 52, 53, 54, 55, 56, 57, 58, 59, 60, 61, 62, 63, 64, 65, 66, 67, 68, 69, 70, 71, 72, 73, 74, 75, 76, 77, 78, 146, 147, 148, 149, 150, 151, 152, 153, 154, 155] (by decide +kernel) (by decide +kernel)) (goodIn_sub (fun _ h => List.mem_cons_of_mem _ (List.mem_append_right _ h)) (by decide +kernel))) (goodIn_sub (fun _ h => List.mem_cons_of_mem _ (List.mem_append_left _ (List.mem_append_right _ h))) (by decide +kernel))
set_option maxRecDepth 20000 in
theorem gL_areGoods_X0_areInBreach : GoodIn wsL_areGoods (wsV RL 54 RX0 yX0_areInBreach wsX0_areInBreach) := goodIn_app (goodIn_of _ (by decide +kernel)) ggL_areGoods_X0_areInBreach
set_option maxRecDepth 20000 in
theorem ggL_areGoods_X0_need : GoodIn wsL_areGoods wsX0_need := goodIn_ca (goodIn_ca (goodIn_r _ [133, 126, 127, 128, 4, 129, 114, 115, 12, 13, 14, 15, 16, 17, 6, 46, 47, 48, 49, 50, 51, 35, 52, 53, 54, 55, 56, 57, 58, 59, 60, 61, 62, 63, 64, 65, 66, 67, 68, 69, 70, 71, 72, 73, 74, 75, 76, 77, 78, 146, 147, 148, 149, 150, 151, 152, 153, 154, 155] (by decide +kernel) (by decide +kernel)) (goodIn_sub (fun _ h => List.mem_cons_of_mem _ (List.mem_append_right _ h)) (by decide +kernel))) (goodIn_sub (fun _ h => List.mem_cons_of_mem _ (List.mem_append_left _ (List.mem_append_right _ h))) (by decide +kernel))
set_option maxRecDepth 20000 in
theorem gL_areGoods_X0_need : GoodIn wsL_areGoods (wsV RL 51 RX0 yX0_need wsX0_need) := goodIn_app (goodIn_of _ (by decide +kernel)) ggL_areGoods_X0_need
set_option maxRecDepth 20000 in
theorem ggL_areGoods_X0_breaches : GoodIn wsL_areGoods wsX0_breaches := goodIn_r _ [137, 6, 11, 26, 27, 28, 4, 29, 30, 31, 32, 33, 34, 35, 36, 37, 38, 39, 40, 41, 42, 43, 44, 45, 46, 47, 48, 49, 50, 51, 52, 53, 54, 55, 56, 57, 58, 59, 60, 61, 62, 63, 64, 65, 66, 67, 68, 69, 70, 71, 72, 73, 74, 75, 76, 77, 78, 146, 147, 148, 149, 150, 151, 152, 153, 154, 155] (by decide +kernel) (by decide +kernel)
set_option maxRecDepth 20000 in
theorem gL_areGoods_X0_breaches : GoodIn wsL_areGoods (wsV RL 88 RX0 yX0_breaches wsX0_breaches) := goodIn_app (goodIn_of _ (by decide +kernel)) ggL_areGoods_X0_breaches
set_option maxRecDepth 20000 in
theorem ggL_areGoods_X0_isClean : GoodIn wsL_areGoods wsX0_isClean := goodIn_r _ [141, 6, 11, 142, 143, 144, 4, 145, 83, 84, 85, 86, 64, 63, 53, 54, 55, 56, 57, 58, 59, 60, 61, 62, 43, 44, 45, 87, 88, 89, 90, 91, 22, 23, 24, 25, 26, 27, 28, 29, 30, 31, 32, 33, 34, 35, 36, 37, 38, 39, 40, 41, 42, 46, 47, 48, 49, 50, 51, 52, 65, 66, 67, 68, 69, 70, 71, 72, 73, 74, 75, 76, 77, 78, 146, 147, 148, 149, 150, 151, 152, 153, 154, 155] (by decide +kernel) (by decide +kernel)
set_option maxRecDepth 20000 in
theorem gL_areGoods_X0_isClean : GoodIn wsL_areGoods (wsV RL 109 RX0 yX0_isClean wsX0_isClean) := goodIn_app (goodIn_of _ (by decide +kernel)) ggL_areGoods_X0_isClean
set_option maxRecDepth 20000 in
theorem ggL_isPlaceFor_X0_placeOf : GoodIn wsL_isPlaceFor wsX0_placeOf := goodIn_ca (goodIn_r _ [5, 6, 7, 8, 9, 4, 10, 11, 12, 13, 112, 113, 114, 115, 116, 117, 118, 119, 120, 121] (by decide +kernel) (by decide +kernel)) (goodIn_sub (fun _ h => List.mem_cons_of_mem _ (List.mem_append_left _ (List.mem_append_right _ h))) (by decide +kernel))
set_option maxRecDepth 20000 in
theorem gL_isPlaceFor_X0_placeOf : GoodIn wsL_isPlaceFor (wsV RL 40 RX0 yX0_placeOf wsX0_placeOf) := goodIn_app (goodIn_of _ (by decide +kernel)) ggL_isPlaceFor_X0_placeOf
set_option maxRecDepth 20000 in
theorem ggL_isPlaceFor_X0_placeFor : GoodIn wsL_isPlaceFor wsX0_placeFor := goodIn_ca (goodIn_r _ [17, 7, 8, 9, 4, 10, 11, 12, 13, 18, 19, 20, 21, 22, 23, 24, 25, 26, 27, 28, 29, 30, 31, 32, 33, 34, 35, 36, 37, 38, 39, 40, 41, 42, 43, 44, 45, 46, 47, 48, 49, 50, 51, 52, 53, 6, 54, 55, 56, 57, 58, 59, 60, 61, 62, 63, 64, 65, 66, 67, 68, 69, 70, 71, 72, 73, 74, 75, 76, 77, 78, 79, 80, 81, 82, 83, 84, 85, 86, 87, 112, 113, 114, 115, 116, 117, 118, 119, 120, 121] (by decide +kernel) (by decide +kernel)) (goodIn_sub (fun _ h => List.mem_cons_of_mem _ (List.mem_append_left _ (List.mem_append_right _ h))) (by decide +kernel))
set_option maxRecDepth 20000 in
theorem gL_isPlaceFor_X0_placeFor : GoodIn wsL_isPlaceFor (wsV RL 67 RX0 yX0_placeFor wsX0_placeFor) := goodIn_app (goodIn_of _ (by decide +kernel)) ggL_isPlaceFor_X0_placeFor
set_option maxRecDepth 20000 in
theorem ggL_isPlaceFor_X0_canPut : GoodIn wsL_isPlaceFor wsX0_canPut := goodIn_ca (goodIn_ca (goodIn_r _ [91, 7, 8, 9, 4, 10, 11, 12, 13, 92, 93, 94, 95, 96, 97, 98, 99, 18, 19, 20, 21, 22, 23, 24, 25, 26, 27, 28, 29, 30, 31, 32, 33, 34, 35, 36, 37, 38, 39, 40, 41, 42, 43, 44, 45, 46, 47, 48, 49, 50, 51, 52, 53, 6, 54, 55, 56, 57, 58, 59, 60, 61, 62, 63, 64, 65, 66, 67, 68, 69, 70, 71, 72, 73, 74, 75, 76, 77, 78, 79, 80, 81, 82, 83, 84, 85, 86, 87, 112, 113, 114, 115, 116, 117, 118, 119, 120, 121] (by decide +kernel) (by decide +kernel)) (goodIn_sub (fun _ h => List.mem_cons_of_mem _ (List.mem_append_left _ (List.mem_append_right _ h))) (by decide +kernel))) (goodIn_sub (fun _ h => List.mem_cons_of_mem _ (List.mem_append_right _ h)) (by decide +kernel))
set_option maxRecDepth 20000 in
theorem gL_isPlaceFor_X0_canPut : GoodIn wsL_isPlaceFor (wsV RL 64 RX0 yX0_canPut wsX0_canPut) := goodIn_app (goodIn_of _ (by decide +kernel)) ggL_isPlaceFor_X0_canPut
set_option maxRecDepth 20000 in
theorem ggL_isPlaceFor_X0_put : GoodIn wsL_isPlaceFor wsX0_put := goodIn_ca (goodIn_ca (goodIn_r _ [103, 6, 7, 8, 9, 4, 10, 11, 12, 13, 92, 93, 94, 95, 96, 97, 98, 99, 112, 113, 114, 115, 116, 117, 118, 119, 120, 121] (by decide +kernel) (by decide +kernel)) (goodIn_sub (fun _ h => List.mem_cons_of_mem _ (List.mem_append_left _ (List.mem_append_right _ h))) (by decide +kernel))) (goodIn_sub (fun _ h => List.mem_cons_of_mem _ (List.mem_append_right _ h)) (by decide +kernel))
set_option maxRecDepth 20000 in
theorem gL_isPlaceFor_X0_put : GoodIn wsL_isPlaceFor (wsV RL 37 RX0 yX0_put wsX0_put) := goodIn_app (goodIn_of _ (by decide +kernel)) ggL_isPlaceFor_X0_put
set_option maxRecDepth 20000 in
theorem ggL_isPlaceFor_X0_inBreachWith : GoodIn wsL_isPlaceFor wsX0_inBreachWith := goodIn_ca (goodIn_r _ [107, 6, 7, 8, 9, 4, 10, 11, 12, 13, 46, 47, 48, 49, 50, 51, 52, 53, 54, 55, 56, 57, 58, 59, 60, 61, 62, 63, 64, 65, 66, 38, 39, 40, 67, 68, 69, 70, 71, 72, 73, 28, 29, 30, 31, 32, 33, 34, 35, 36, 37, 27, 26, 74, 75, 76, 77, 78, 79, 80, 81, 82, 83, 84, 85, 86, 87, 112, 113, 114, 115, 116, 117, 118, 119, 120, 121] (by decide +kernel) (by decide +kernel)) (goodIn_sub (fun _ h => List.mem_cons_of_mem _ (List.mem_append_left _ (List.mem_append_right _ h))) (by decide +kernel))
set_option maxRecDepth 20000 in
theorem gL_isPlaceFor_X0_inBreachWith : GoodIn wsL_isPlaceFor (wsV RL 61 RX0 yX0_inBreachWith wsX0_inBreachWith) := goodIn_app (goodIn_of _ (by decide +kernel)) ggL_isPlaceFor_X0_inBreachWith

set_option maxRecDepth 20000 in
theorem ggX0_setDistance_X0_checkClass : GoodIn wsX0_setDistance wsX0_checkClass := goodIn_ca (goodIn_r _ [5, 6, 7, 4, 8, 9, 10] (by decide +kernel) (by decide +kernel)) (goodIn_sub (fun _ h => List.mem_cons_of_mem _ (List.mem_append_right _ h)) (by decide +kernel))
set_option maxRecDepth 20000 in
theorem gX0_setDistance_X0_checkClass : GoodIn wsX0_setDistance (va_wsS RX0 42 yX0_checkClass wsX0_checkClass) := goodIn_app (goodIn_of _ (by decide +kernel)) ggX0_setDistance_X0_checkClass
set_option maxRecDepth 20000 in
theorem ggX0_setDistance_X0_checkRange : GoodIn wsX0_setDistance wsX0_checkRange := goodIn_ca (goodIn_r _ [8, 9, 10] (by decide +kernel) (by decide +kernel)) (goodIn_sub (fun _ h => List.mem_cons_of_mem _ (List.mem_append_right _ h)) (by decide +kernel))
set_option maxRecDepth 20000 in
theorem gX0_setDistance_X0_checkRange : GoodIn wsX0_setDistance (va_wsS RX0 46 yX0_checkRange wsX0_checkRange) := goodIn_app (goodIn_of _ (by decide +kernel)) ggX0_setDistance_X0_checkRange
set_option maxRecDepth 20000 in
theorem ggX0_setDistance_X0_tableDistance : GoodIn wsX0_setDistance wsX0_tableDistance := goodIn_r _ [14, 1, 15, 16, 17, 18, 19, 20, 21, 22, 23, 24] (by decide +kernel) (by decide +kernel)
set_option maxRecDepth 20000 in
theorem gX0_setDistance_X0_tableDistance : GoodIn wsX0_setDistance (wsV RX0 50 RX0 yX0_tableDistance wsX0_tableDistance) := goodIn_app (goodIn_of _ (by decide +kernel)) ggX0_setDistance_X0_tableDistance
set_option maxRecDepth 20000 in
theorem ggX0_setQuantities_X0_checkClass : GoodIn wsX0_setQuantities wsX0_checkClass := goodIn_ca (goodIn_r _ [6, 7, 8, 5, 9, 10, 11] (by decide +kernel) (by decide +kernel)) (goodIn_sub (fun _ h => List.mem_cons_of_mem _ (List.mem_append_right _ h)) (by decide +kernel))
set_option maxRecDepth 20000 in
theorem gX0_setQuantities_X0_checkClass : GoodIn wsX0_setQuantities (va_wsS RX0 42 yX0_checkClass wsX0_checkClass) := goodIn_app (goodIn_of _ (by decide +kernel)) ggX0_setQuantities_X0_checkClass
set_option maxRecDepth 20000 in
theorem ggX0_setQuantities_X0_checkRange : GoodIn wsX0_setQuantities wsX0_checkRange := goodIn_ca (goodIn_r _ [9, 10, 11] (by decide +kernel) (by decide +kernel)) (goodIn_sub (fun _ h => List.mem_cons_of_mem _ (List.mem_append_right _ h)) (by decide +kernel))
set_option maxRecDepth 20000 in
theorem gX0_setQuantities_X0_checkRange : GoodIn wsX0_setQuantities (va_wsS RX0 46 yX0_checkRange wsX0_checkRange) := goodIn_app (goodIn_of _ (by decide +kernel)) ggX0_setQuantities_X0_checkRange
set_option maxRecDepth 20000 in
theorem ggX0_bar_X0_checkClass : GoodIn wsX0_bar wsX0_checkClass := goodIn_ca (goodIn_r _ [5, 6, 7, 4, 8, 9, 10] (by decide +kernel) (by decide +kernel)) (goodIn_sub (fun _ h => List.mem_cons_of_mem _ (List.mem_append_right _ h)) (by decide +kernel))
set_option maxRecDepth 20000 in
theorem gX0_bar_X0_checkClass : GoodIn wsX0_bar (va_wsS RX0 42 yX0_checkClass wsX0_checkClass) := goodIn_app (goodIn_of _ (by decide +kernel)) ggX0_bar_X0_checkClass
set_option maxRecDepth 20000 in
theorem ggX0_bar_X0_checkRange : GoodIn wsX0_bar wsX0_checkRange := goodIn_ca (goodIn_r _ [8, 9, 10] (by decide +kernel) (by decide +kernel)) (goodIn_sub (fun _ h => List.mem_cons_of_mem _ (List.mem_append_right _ h)) (by decide +kernel))
set_option maxRecDepth 20000 in
theorem gX0_bar_X0_checkRange : GoodIn wsX0_bar (va_wsS RX0 46 yX0_checkRange wsX0_checkRange) := goodIn_app (goodIn_of _ (by decide +kernel)) ggX0_bar_X0_checkRange
set_option maxRecDepth 20000 in
theorem ggX0_distance_X0_checkPlace : GoodIn wsX0_distance wsX0_checkPlace := goodIn_ca (goodIn_r _ [4, 5, 6, 3, 7, 8, 9] (by decide +kernel) (by decide +kernel)) (goodIn_sub (fun _ h => List.mem_cons_of_mem _ (List.mem_append_right _ h)) (by decide +kernel))
set_option maxRecDepth 20000 in
theorem gX0_distance_X0_checkPlace : GoodIn wsX0_distance (va_wsS RX0 54 yX0_checkPlace wsX0_checkPlace) := goodIn_app (goodIn_of _ (by decide +kernel)) ggX0_distance_X0_checkPlace
set_option maxRecDepth 20000 in
theorem ggX0_distance_X0_distanceBetween : GoodIn wsX0_distance wsX0_distanceBetween := goodIn_r _ [12, 13, 14, 15, 16, 17, 18, 3, 19, 20, 21, 22, 23, 24, 25] (by decide +kernel) (by decide +kernel)
set_option maxRecDepth 20000 in
theorem gX0_distance_X0_distanceBetween : GoodIn wsX0_distance (va_wsS RX0 57 yX0_distanceBetween wsX0_distanceBetween) := goodIn_app (goodIn_of _ (by decide +kernel)) ggX0_distance_X0_distanceBetween
set_option maxRecDepth 20000 in
theorem ggX0_add_X0_checkClass : GoodIn wsX0_add wsX0_checkClass := goodIn_ca (goodIn_r _ [11, 12, 13, 10, 14, 15, 16] (by decide +kernel) (by decide +kernel)) (goodIn_sub (fun _ h => List.mem_cons_of_mem _ (List.mem_append_right _ h)) (by decide +kernel))
set_option maxRecDepth 20000 in
theorem gX0_add_X0_checkClass : GoodIn wsX0_add (va_wsS RX0 42 yX0_checkClass wsX0_checkClass) := goodIn_app (goodIn_of _ (by decide +kernel)) ggX0_add_X0_checkClass
set_option maxRecDepth 20000 in
theorem ggX0_add_X0_checkSubsidiary : GoodIn wsX0_add wsX0_checkSubsidiary := goodIn_ca (goodIn_r _ [19, 15, 16, 8, 9, 10, 11, 12, 13, 14] (by decide +kernel) (by decide +kernel)) (goodIn_sub (fun _ h => List.mem_cons_of_mem _ (List.mem_append_right _ h)) (by decide +kernel))
set_option maxRecDepth 20000 in
theorem gX0_add_X0_checkSubsidiary : GoodIn wsX0_add (va_wsS RX0 60 yX0_checkSubsidiary wsX0_checkSubsidiary) := goodIn_app (goodIn_of _ (by decide +kernel)) ggX0_add_X0_checkSubsidiary
set_option maxRecDepth 20000 in
theorem ggX0_add_X0_checkQuantity : GoodIn wsX0_add wsX0_checkQuantity := goodIn_ca (goodIn_r _ [22, 12, 13, 10, 14, 15, 16] (by decide +kernel) (by decide +kernel)) (goodIn_sub (fun _ h => List.mem_cons_of_mem _ (List.mem_append_right _ h)) (by decide +kernel))
set_option maxRecDepth 20000 in
theorem gX0_add_X0_checkQuantity : GoodIn wsX0_add (va_wsS RX0 64 yX0_checkQuantity wsX0_checkQuantity) := goodIn_app (goodIn_of _ (by decide +kernel)) ggX0_add_X0_checkQuantity
set_option maxRecDepth 20000 in
theorem ggX0_setQuantity_X0_checkGoods : GoodIn wsX0_setQuantity wsX0_checkGoods := goodIn_ca (goodIn_r _ [6, 7, 8, 9, 18, 19, 20, 21, 22, 23, 24, 25, 26, 27] (by decide +kernel) (by decide +kernel)) (goodIn_sub (fun _ h => List.mem_cons_of_mem _ (List.mem_append_left _ (List.mem_append_right _ h))) (by decide +kernel))
set_option maxRecDepth 20000 in
theorem gX0_setQuantity_X0_checkGoods : GoodIn wsX0_setQuantity (wsV RX0 74 RX0 yX0_checkGoods wsX0_checkGoods) := goodIn_app (goodIn_of _ (by decide +kernel)) ggX0_setQuantity_X0_checkGoods
set_option maxRecDepth 20000 in
theorem ggX0_setQuantity_X0_checkQuantity : GoodIn wsX0_setQuantity wsX0_checkQuantity := goodIn_ca (goodIn_r _ [12, 13, 14, 5, 15, 16, 17] (by decide +kernel) (by decide +kernel)) (goodIn_sub (fun _ h => List.mem_cons_of_mem _ (List.mem_append_right _ h)) (by decide +kernel))
set_option maxRecDepth 20000 in
theorem gX0_setQuantity_X0_checkQuantity : GoodIn wsX0_setQuantity (va_wsS RX0 64 yX0_checkQuantity wsX0_checkQuantity) := goodIn_app (goodIn_of _ (by decide +kernel)) ggX0_setQuantity_X0_checkQuantity
set_option maxRecDepth 20000 in
theorem ggX0_put_X0_checkGoods : GoodIn wsX0_put wsX0_checkGoods := goodIn_ca (goodIn_r _ [6, 7, 8, 9, 18, 19, 20, 21, 22, 23, 24, 25, 26, 27] (by decide +kernel) (by decide +kernel)) (goodIn_sub (fun _ h => List.mem_cons_of_mem _ (List.mem_append_left _ (List.mem_append_right _ h))) (by decide +kernel))
set_option maxRecDepth 20000 in
theorem gX0_put_X0_checkGoods : GoodIn wsX0_put (wsV RX0 74 RX0 yX0_checkGoods wsX0_checkGoods) := goodIn_app (goodIn_of _ (by decide +kernel)) ggX0_put_X0_checkGoods
set_option maxRecDepth 20000 in
theorem ggX0_put_X0_checkPlace : GoodIn wsX0_put wsX0_checkPlace := goodIn_ca (goodIn_r _ [12, 13, 14, 5, 15, 16, 17] (by decide +kernel) (by decide +kernel)) (goodIn_sub (fun _ h => List.mem_cons_of_mem _ (List.mem_append_right _ h)) (by decide +kernel))
set_option maxRecDepth 20000 in
theorem gX0_put_X0_checkPlace : GoodIn wsX0_put (va_wsS RX0 54 yX0_checkPlace wsX0_checkPlace) := goodIn_app (goodIn_of _ (by decide +kernel)) ggX0_put_X0_checkPlace
set_option maxRecDepth 20000 in
theorem ggX0_placeOf_X0_checkGoods : GoodIn wsX0_placeOf wsX0_checkGoods := goodIn_ca (goodIn_r _ [6, 7, 8, 9, 10, 11, 12, 13, 14, 15, 16, 17, 18, 19] (by decide +kernel) (by decide +kernel)) (goodIn_sub (fun _ h => List.mem_cons_of_mem _ (List.mem_append_right _ h)) (by decide +kernel))
set_option maxRecDepth 20000 in
theorem gX0_placeOf_X0_checkGoods : GoodIn wsX0_placeOf (wsV RX0 74 RX0 yX0_checkGoods wsX0_checkGoods) := goodIn_app (goodIn_of _ (by decide +kernel)) ggX0_placeOf_X0_checkGoods
set_option maxRecDepth 20000 in
theorem ggX0_isLimited_X0_checkGoods : GoodIn wsX0_isLimited wsX0_checkGoods := goodIn_ca (goodIn_r _ [5, 6, 7, 8, 22, 23, 24, 25, 26, 27, 28, 29, 30, 31] (by decide +kernel) (by decide +kernel)) (goodIn_sub (fun _ h => List.mem_cons_of_mem _ (List.mem_append_right _ h)) (by decide +kernel))
set_option maxRecDepth 20000 in
theorem gX0_isLimited_X0_checkGoods : GoodIn wsX0_isLimited (wsV RX0 74 RX0 yX0_checkGoods wsX0_checkGoods) := goodIn_app (goodIn_of _ (by decide +kernel)) ggX0_isLimited_X0_checkGoods
set_option maxRecDepth 20000 in
theorem ggX0_isLimited_X0_areLimited : GoodIn wsX0_isLimited wsX0_areLimited := goodIn_r _ [12, 13, 14, 15, 16, 17, 4, 18, 19, 20, 21, 22, 23, 24, 25, 26, 27, 28, 29, 30, 31] (by decide +kernel) (by decide +kernel)
set_option maxRecDepth 20000 in
theorem gX0_isLimited_X0_areLimited : GoodIn wsX0_isLimited (wsV RX0 77 RX0 yX0_areLimited wsX0_areLimited) := goodIn_app (goodIn_of _ (by decide +kernel)) ggX0_isLimited_X0_areLimited
set_option maxRecDepth 20000 in
theorem ggX0_isExcepted_X0_checkGoods : GoodIn wsX0_isExcepted wsX0_checkGoods := goodIn_ca (goodIn_r _ [5, 6, 7, 8, 21, 22, 23, 24, 25, 26, 27, 28, 29, 30] (by decide +kernel) (by decide +kernel)) (goodIn_sub (fun _ h => List.mem_cons_of_mem _ (List.mem_append_right _ h)) (by decide +kernel))
set_option maxRecDepth 20000 in
theorem gX0_isExcepted_X0_checkGoods : GoodIn wsX0_isExcepted (wsV RX0 74 RX0 yX0_checkGoods wsX0_checkGoods) := goodIn_app (goodIn_of _ (by decide +kernel)) ggX0_isExcepted_X0_checkGoods
set_option maxRecDepth 20000 in
theorem ggX0_isExcepted_X0_areExcepted : GoodIn wsX0_isExcepted wsX0_areExcepted := goodIn_r _ [12, 13, 14, 15, 16, 4, 17, 18, 19, 20, 21, 22, 23, 24, 25, 26, 27, 28, 29, 30] (by decide +kernel) (by decide +kernel)
set_option maxRecDepth 20000 in
theorem gX0_isExcepted_X0_areExcepted : GoodIn wsX0_isExcepted (wsV RX0 81 RX0 yX0_areExcepted wsX0_areExcepted) := goodIn_app (goodIn_of _ (by decide +kernel)) ggX0_isExcepted_X0_areExcepted
set_option maxRecDepth 20000 in
theorem ggX0_need_X0_checkPair : GoodIn wsX0_need wsX0_checkPair := goodIn_ca (goodIn_ca (goodIn_r _ [5, 6, 7, 8, 9, 10, 4, 11, 12, 13, 14, 49, 50, 51, 52, 53, 54, 55, 56, 57, 58] (by decide +kernel) (by decide +kernel)) (goodIn_sub (fun _ h => List.mem_cons_of_mem _ (List.mem_append_left _ (List.mem_append_right _ h))) (by decide +kernel))) (goodIn_sub (fun _ h => List.mem_cons_of_mem _ (List.mem_append_right _ h)) (by decide +kernel))
set_option maxRecDepth 20000 in
theorem gX0_need_X0_checkPair : GoodIn wsX0_need (wsV RX0 84 RX0 yX0_checkPair wsX0_checkPair) := goodIn_app (goodIn_of _ (by decide +kernel)) ggX0_need_X0_checkPair
set_option maxRecDepth 20000 in
theorem ggX0_need_X0_needOf : GoodIn wsX0_need wsX0_needOf := goodIn_r _ [18, 19, 20, 21, 22, 23, 24, 25, 4, 26, 27, 28, 29, 30, 31, 32, 33, 34, 35, 36, 37, 38, 39, 40, 41, 42, 43, 44, 45, 46, 47, 48, 49, 50, 51, 52, 53, 54, 55, 56, 57, 58] (by decide +kernel) (by decide +kernel)

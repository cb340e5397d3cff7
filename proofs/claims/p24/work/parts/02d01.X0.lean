set_option maxRecDepth 20000 in
theorem gX0_need_X0_needOf : GoodIn wsX0_need (wsV RX0 87 RX0 yX0_needOf wsX0_needOf) := goodIn_app (goodIn_of _ (by decide +kernel)) ggX0_need_X0_needOf
set_option maxRecDepth 20000 in
theorem ggX0_areInBreach_X0_checkPair : GoodIn wsX0_areInBreach wsX0_checkPair := goodIn_ca (goodIn_ca (goodIn_r _ [6, 7, 8, 9, 10, 11, 5, 12, 13, 14, 15, 69, 70, 71, 72, 73, 74, 75, 76, 77, 78] (by decide +kernel) (by decide +kernel)) (goodIn_sub (fun _ h => List.mem_cons_of_mem _ (List.mem_append_left _ (List.mem_append_right _ h))) (by decide +kernel))) (goodIn_sub (fun _ h => List.mem_cons_of_mem _ (List.mem_append_right _ h)) (by decide +kernel))
set_option maxRecDepth 20000 in
theorem gX0_areInBreach_X0_checkPair : GoodIn wsX0_areInBreach (wsV RX0 84 RX0 yX0_checkPair wsX0_checkPair) := goodIn_app (goodIn_of _ (by decide +kernel)) ggX0_areInBreach_X0_checkPair
set_option maxRecDepth 20000 in
theorem ggX0_areInBreach_X0_wouldBreach : GoodIn wsX0_areInBreach wsX0_wouldBreach := goodIn_r _ [19, 1, 20, 21, 5, 22, 23, 24, 25, 26, 27, 28, 29, 30, 31, 32, 33, 34, 35, 36, 37, 38, 39, 40, 41, 42, 43, 44, 45, 46, 47, 48, 49, 50, 51, 52, 53, 54, 55, 56, 57, 58, 59, 60, 61, 62, 63, 64, 65, 66, 67, 68, 69, 70, 71, 72, 73, 74, 75, 76, 77, 78] (by decide +kernel) (by decide +kernel)
set_option maxRecDepth 20000 in
theorem gX0_areInBreach_X0_wouldBreach : GoodIn wsX0_areInBreach (wsV RX0 90 RX0 yX0_wouldBreach wsX0_wouldBreach) := goodIn_app (goodIn_of _ (by decide +kernel)) ggX0_areInBreach_X0_wouldBreach
set_option maxRecDepth 20000 in
theorem ggX0_isMisplaced_X0_checkGoods : GoodIn wsX0_isMisplaced wsX0_checkGoods := goodIn_ca (goodIn_r _ [6, 7, 8, 9, 34, 35, 36, 37, 38, 39, 40, 41, 42, 43] (by decide +kernel) (by decide +kernel)) (goodIn_sub (fun _ h => List.mem_cons_of_mem _ (List.mem_append_right _ h)) (by decide +kernel))
set_option maxRecDepth 20000 in
theorem gX0_isMisplaced_X0_checkGoods : GoodIn wsX0_isMisplaced (wsV RX0 74 RX0 yX0_checkGoods wsX0_checkGoods) := goodIn_app (goodIn_of _ (by decide +kernel)) ggX0_isMisplaced_X0_checkGoods
set_option maxRecDepth 20000 in
theorem ggX0_isMisplaced_X0_wouldBeMisplaced : GoodIn wsX0_isMisplaced wsX0_wouldBeMisplaced := goodIn_r _ [13, 14, 15, 16, 17, 18, 5, 19, 20, 21, 22, 23, 24, 25, 26, 27, 28, 29, 30, 31, 32, 33, 34, 35, 36, 37, 38, 39, 40, 41, 42, 43] (by decide +kernel) (by decide +kernel)
set_option maxRecDepth 20000 in
theorem gX0_isMisplaced_X0_wouldBeMisplaced : GoodIn wsX0_isMisplaced (wsV RX0 94 RX0 yX0_wouldBeMisplaced wsX0_wouldBeMisplaced) := goodIn_app (goodIn_of _ (by decide +kernel)) ggX0_isMisplaced_X0_wouldBeMisplaced
set_option maxRecDepth 20000 in
theorem ggX0_breaches_X0_wouldBreach : GoodIn wsX0_breaches wsX0_wouldBreach := goodIn_r _ [7, 2, 8, 9, 6, 10, 11, 12, 13, 14, 15, 16, 17, 18, 19, 20, 21, 22, 23, 24, 25, 26, 27, 28, 29, 30, 31, 32, 33, 34, 35, 36, 37, 38, 39, 40, 41, 42, 43, 44, 45, 46, 47, 48, 49, 50, 51, 52, 53, 54, 55, 56, 57, 58, 59, 60, 61, 62, 63, 64, 65, 66] (by decide +kernel) (by decide +kernel)
set_option maxRecDepth 20000 in
theorem gX0_breaches_X0_wouldBreach : GoodIn wsX0_breaches (wsV RX0 90 RX0 yX0_wouldBreach wsX0_wouldBreach) := goodIn_app (goodIn_of _ (by decide +kernel)) ggX0_breaches_X0_wouldBreach
set_option maxRecDepth 20000 in
theorem ggX0_inBreachWith_X0_checkGoods : GoodIn wsX0_inBreachWith wsX0_checkGoods := goodIn_ca (goodIn_r _ [6, 7, 8, 9, 67, 68, 69, 70, 71, 72, 73, 74, 75, 76] (by decide +kernel) (by decide +kernel)) (goodIn_sub (fun _ h => List.mem_cons_of_mem _ (List.mem_append_right _ h)) (by decide +kernel))
set_option maxRecDepth 20000 in
theorem gX0_inBreachWith_X0_checkGoods : GoodIn wsX0_inBreachWith (wsV RX0 74 RX0 yX0_checkGoods wsX0_checkGoods) := goodIn_app (goodIn_of _ (by decide +kernel)) ggX0_inBreachWith_X0_checkGoods
set_option maxRecDepth 20000 in
theorem ggX0_inBreachWith_X0_breachesAt : GoodIn wsX0_inBreachWith wsX0_breachesAt := goodIn_r _ [13, 9, 14, 15, 16, 5, 17, 1, 18, 19, 20, 21, 22, 23, 24, 25, 26, 27, 28, 29, 30, 31, 32, 33, 34, 35, 36, 37, 38, 39, 40, 41, 42, 43, 44, 45, 46, 47, 48, 49, 50, 51, 52, 53, 54, 55, 56, 57, 58, 59, 60, 61, 62, 63, 64, 65, 66, 67, 68, 69, 70, 71, 72, 73, 74, 75, 76] (by decide +kernel) (by decide +kernel)
set_option maxRecDepth 20000 in
theorem gX0_inBreachWith_X0_breachesAt : GoodIn wsX0_inBreachWith (wsV RX0 98 RX0 yX0_breachesAt wsX0_breachesAt) := goodIn_app (goodIn_of _ (by decide +kernel)) ggX0_inBreachWith_X0_breachesAt
set_option maxRecDepth 20000 in
theorem ggX0_isClean_X0_wouldBeClean : GoodIn wsX0_isClean wsX0_wouldBeClean := goodIn_r _ [7, 8, 9, 10, 6, 11, 12, 13, 14, 15, 16, 17, 18, 19, 20, 21, 22, 23, 24, 25, 26, 27, 28, 29, 30, 31, 32, 33, 34, 35, 1, 36, 37, 38, 39, 2, 40, 41, 42, 43, 44, 45, 46, 47, 48, 49, 50, 51, 52, 53, 54, 55, 56, 57, 58, 59, 60, 61, 62, 63, 64, 65, 66, 67, 68, 69, 70, 71, 72, 73, 74, 75, 76, 77, 78, 79, 80, 81, 82, 83] (by decide +kernel) (by decide +kernel)
set_option maxRecDepth 20000 in
theorem gX0_isClean_X0_wouldBeClean : GoodIn wsX0_isClean (wsV RX0 101 RX0 yX0_wouldBeClean wsX0_wouldBeClean) := goodIn_app (goodIn_of _ (by decide +kernel)) ggX0_isClean_X0_wouldBeClean
set_option maxRecDepth 20000 in
theorem ggX0_canPut_X0_checkGoods : GoodIn wsX0_canPut wsX0_checkGoods := goodIn_ca (goodIn_r _ [5, 6, 7, 8, 88, 89, 90, 91, 92, 93, 94, 95, 96, 97] (by decide +kernel) (by decide +kernel)) (goodIn_sub (fun _ h => List.mem_cons_of_mem _ (List.mem_append_left _ (List.mem_append_right _ h))) (by decide +kernel))
set_option maxRecDepth 20000 in
theorem gX0_canPut_X0_checkGoods : GoodIn wsX0_canPut (wsV RX0 74 RX0 yX0_checkGoods wsX0_checkGoods) := goodIn_app (goodIn_of _ (by decide +kernel)) ggX0_canPut_X0_checkGoods
set_option maxRecDepth 20000 in
theorem ggX0_canPut_X0_checkPlace : GoodIn wsX0_canPut wsX0_checkPlace := goodIn_ca (goodIn_r _ [11, 12, 13, 4, 14, 15, 16] (by decide +kernel) (by decide +kernel)) (goodIn_sub (fun _ h => List.mem_cons_of_mem _ (List.mem_append_right _ h)) (by decide +kernel))
set_option maxRecDepth 20000 in
theorem gX0_canPut_X0_checkPlace : GoodIn wsX0_canPut (va_wsS RX0 54 yX0_checkPlace wsX0_checkPlace) := goodIn_app (goodIn_of _ (by decide +kernel)) ggX0_canPut_X0_checkPlace
set_option maxRecDepth 20000 in
theorem ggX0_canPut_X0_wouldBeClean : GoodIn wsX0_canPut wsX0_wouldBeClean := goodIn_r _ [20, 21, 22, 23, 4, 24, 25, 26, 27, 28, 29, 30, 31, 32, 33, 34, 35, 36, 37, 38, 39, 40, 41, 42, 43, 44, 45, 46, 47, 48, 8, 49, 50, 51, 52, 53, 54, 55, 56, 57, 58, 59, 60, 61, 62, 63, 64, 65, 66, 67, 68, 69, 70, 71, 72, 73, 74, 75, 76, 77, 78, 79, 80, 81, 82, 83, 84, 85, 86, 87, 88, 89, 90, 91, 92, 93, 94, 95, 96, 97] (by decide +kernel) (by decide +kernel)
set_option maxRecDepth 20000 in
theorem gX0_canPut_X0_wouldBeClean : GoodIn wsX0_canPut (wsV RX0 101 RX0 yX0_wouldBeClean wsX0_wouldBeClean) := goodIn_app (goodIn_of _ (by decide +kernel)) ggX0_canPut_X0_wouldBeClean
set_option maxRecDepth 20000 in
theorem ggX0_placeFor_X0_checkGoods : GoodIn wsX0_placeFor wsX0_checkGoods := goodIn_ca (goodIn_r _ [5, 6, 7, 8, 80, 81, 82, 83, 84, 85, 86, 87, 88, 89] (by decide +kernel) (by decide +kernel)) (goodIn_sub (fun _ h => List.mem_cons_of_mem _ (List.mem_append_right _ h)) (by decide +kernel))
set_option maxRecDepth 20000 in
theorem gX0_placeFor_X0_checkGoods : GoodIn wsX0_placeFor (wsV RX0 74 RX0 yX0_checkGoods wsX0_checkGoods) := goodIn_app (goodIn_of _ (by decide +kernel)) ggX0_placeFor_X0_checkGoods
set_option maxRecDepth 20000 in
theorem ggX0_placeFor_X0_wouldBeClean : GoodIn wsX0_placeFor wsX0_wouldBeClean := goodIn_r _ [12, 13, 14, 15, 4, 16, 17, 18, 19, 20, 21, 22, 23, 24, 25, 26, 27, 28, 29, 30, 31, 32, 33, 34, 35, 36, 37, 38, 39, 40, 8, 41, 42, 43, 44, 45, 46, 47, 48, 49, 50, 51, 52, 53, 54, 55, 56, 57, 58, 59, 60, 61, 62, 63, 64, 65, 66, 67, 68, 69, 70, 71, 72, 73, 74, 75, 76, 77, 78, 79, 80, 81, 82, 83, 84, 85, 86, 87, 88, 89] (by decide +kernel) (by decide +kernel)
set_option maxRecDepth 20000 in
theorem gX0_placeFor_X0_wouldBeClean : GoodIn wsX0_placeFor (wsV RX0 101 RX0 yX0_wouldBeClean wsX0_wouldBeClean) := goodIn_app (goodIn_of _ (by decide +kernel)) ggX0_placeFor_X0_wouldBeClean
set_option maxRecDepth 20000 in
theorem ggX0_fewest_X0_leastLeaving : GoodIn wsX0_fewest wsX0_leastLeaving := goodIn_r _ [5, 6, 7, 8, 9, 10, 11, 4, 12, 13, 14, 15, 16, 17, 18, 19, 20, 21, 22, 23, 24, 25, 26, 27, 28, 29, 30, 31, 32, 33, 34, 35, 36, 37, 38, 39, 40, 41, 42, 43, 44, 45, 46, 47, 48, 49, 50, 51, 52, 53, 54, 55, 56, 57, 58, 59, 60, 61, 62, 63, 64, 65, 66, 67, 68, 69, 70, 71, 72, 73, 74, 75, 76, 77, 78, 79, 80, 81, 82, 83, 84, 85, 86, 87, 88, 89, 90, 91, 92, 93, 94] (by decide +kernel) (by decide +kernel)
set_option maxRecDepth 20000 in
theorem gX0_fewest_X0_leastLeaving : GoodIn wsX0_fewest (wsV RX0 104 RX0 yX0_leastLeaving wsX0_leastLeaving) := goodIn_app (goodIn_of _ (by decide +kernel)) ggX0_fewest_X0_leastLeaving
set_option maxRecDepth 20000 in
theorem ggX0_fewest_J6_bitCount_0f7a4 : GoodIn wsX0_fewest wsJ6_bitCount_0f7a4 := goodIn_r _ [81, 82, 83, 84] (by decide +kernel) (by decide +kernel)
set_option maxRecDepth 20000 in
theorem gX0_fewest_J6_bitCount_0f7a4 : GoodIn wsX0_fewest (va_wsS RX0 108 yJ6_bitCount_0f7a4 wsJ6_bitCount_0f7a4) := goodIn_app (goodIn_of _ (by decide +kernel)) ggX0_fewest_J6_bitCount_0f7a4
set_option maxRecDepth 20000 in
theorem ggX0_leaving_X0_leastLeaving : GoodIn wsX0_leaving wsX0_leastLeaving := goodIn_r _ [5, 6, 7, 8, 9, 10, 11, 4, 12, 13, 14, 15, 16, 17, 18, 19, 20, 21, 22, 23, 24, 25, 26, 27, 28, 29, 30, 31, 32, 33, 34, 35, 36, 37, 38, 39, 40, 41, 42, 43, 44, 45, 46, 47, 48, 49, 50, 51, 52, 53, 54, 55, 56, 57, 58, 59, 60, 61, 62, 63, 64, 65, 66, 67, 68, 69, 70, 71, 72, 73, 74, 75, 76, 77, 78, 79, 80, 81, 82, 83, 84, 85, 86, 87, 88, 89, 90, 91, 92, 93, 94] (by decide +kernel) (by decide +kernel)
set_option maxRecDepth 20000 in
theorem gX0_leaving_X0_leastLeaving : GoodIn wsX0_leaving (wsV RX0 104 RX0 yX0_leastLeaving wsX0_leastLeaving) := goodIn_app (goodIn_of _ (by decide +kernel)) ggX0_leaving_X0_leastLeaving
set_option maxRecDepth 20000 in
theorem ggX0_checkClass_X0_checkRange : GoodIn wsX0_checkClass wsX0_checkRange := goodIn_ca (goodIn_r _ [4, 5, 6] (by decide +kernel) (by decide +kernel)) (goodIn_sub (fun _ h => List.mem_cons_of_mem _ (List.mem_append_right _ h)) (by decide +kernel))
set_option maxRecDepth 20000 in
theorem gX0_checkClass_X0_checkRange : GoodIn wsX0_checkClass (va_wsS RX0 46 yX0_checkRange wsX0_checkRange) := goodIn_app (goodIn_of _ (by decide +kernel)) ggX0_checkClass_X0_checkRange
set_option maxRecDepth 20000 in
theorem ggX0_checkSubsidiary_X0_checkClass : GoodIn wsX0_checkSubsidiary wsX0_checkClass := goodIn_ca (goodIn_r _ [6, 7, 8, 5, 9, 1, 2] (by decide +kernel) (by decide +kernel)) (goodIn_sub (fun _ h => List.mem_cons_of_mem _ (List.mem_append_right _ h)) (by decide +kernel))
set_option maxRecDepth 20000 in
theorem gX0_checkSubsidiary_X0_checkClass : GoodIn wsX0_checkSubsidiary (va_wsS RX0 42 yX0_checkClass wsX0_checkClass) := goodIn_app (goodIn_of _ (by decide +kernel)) ggX0_checkSubsidiary_X0_checkClass
set_option maxRecDepth 20000 in
theorem ggX0_checkPlace_X0_checkRange : GoodIn wsX0_checkPlace wsX0_checkRange := goodIn_ca (goodIn_r _ [4, 5, 6] (by decide +kernel) (by decide +kernel)) (goodIn_sub (fun _ h => List.mem_cons_of_mem _ (List.mem_append_right _ h)) (by decide +kernel))
set_option maxRecDepth 20000 in
theorem gX0_checkPlace_X0_checkRange : GoodIn wsX0_checkPlace (va_wsS RX0 46 yX0_checkRange wsX0_checkRange) := goodIn_app (goodIn_of _ (by decide +kernel)) ggX0_checkPlace_X0_checkRange
set_option maxRecDepth 20000 in
theorem ggX0_checkQuantity_X0_checkRange : GoodIn wsX0_checkQuantity wsX0_checkRange := goodIn_ca (goodIn_r _ [4, 5, 6] (by decide +kernel) (by decide +kernel)) (goodIn_sub (fun _ h => List.mem_cons_of_mem _ (List.mem_append_right _ h)) (by decide +kernel))
set_option maxRecDepth 20000 in
theorem gX0_checkQuantity_X0_checkRange : GoodIn wsX0_checkQuantity (va_wsS RX0 46 yX0_checkRange wsX0_checkRange) := goodIn_app (goodIn_of _ (by decide +kernel)) ggX0_checkQuantity_X0_checkRange
set_option maxRecDepth 20000 in
theorem ggX0_checkPair_X0_checkGoods : GoodIn wsX0_checkPair wsX0_checkGoods := goodIn_ca (goodIn_r _ [7, 8, 9, 10, 11, 12, 13, 14, 15, 16, 17, 18, 19, 20] (by decide +kernel) (by decide +kernel)) (goodIn_sub (fun _ h => List.mem_cons_of_mem _ (List.mem_append_right _ h)) (by decide +kernel))
set_option maxRecDepth 20000 in
theorem gX0_checkPair_X0_checkGoods : GoodIn wsX0_checkPair (wsV RX0 74 RX0 yX0_checkGoods wsX0_checkGoods) := goodIn_app (goodIn_of _ (by decide +kernel)) ggX0_checkPair_X0_checkGoods
set_option maxRecDepth 20000 in
theorem ggX0_distanceBetween_X0_holdOf : GoodIn wsX0_distanceBetween wsX0_holdOf := goodIn_r _ [8] (by decide +kernel) (by decide +kernel)
set_option maxRecDepth 20000 in
theorem gX0_distanceBetween_X0_holdOf : GoodIn wsX0_distanceBetween (va_wsS RX0 128 yX0_holdOf wsX0_holdOf) := goodIn_app (goodIn_of _ (by decide +kernel)) ggX0_distanceBetween_X0_holdOf

set_option maxRecDepth 20000 in
theorem ggX0_distanceBetween_X0_bayOf : GoodIn wsX0_distanceBetween wsX0_bayOf := goodIn_r _ [11] (by decide +kernel) (by decide +kernel)
set_option maxRecDepth 20000 in
theorem gX0_distanceBetween_X0_bayOf : GoodIn wsX0_distanceBetween (va_wsS RX0 136 yX0_bayOf wsX0_bayOf) := goodIn_app (goodIn_of _ (by decide +kernel)) ggX0_distanceBetween_X0_bayOf
set_option maxRecDepth 20000 in
theorem ggX0_distanceBetween_X0_deckOf : GoodIn wsX0_distanceBetween wsX0_deckOf := goodIn_r _ [14] (by decide +kernel) (by decide +kernel)
set_option maxRecDepth 20000 in
theorem gX0_distanceBetween_X0_deckOf : GoodIn wsX0_distanceBetween (va_wsS RX0 139 yX0_deckOf wsX0_deckOf) := goodIn_app (goodIn_of _ (by decide +kernel)) ggX0_distanceBetween_X0_deckOf
set_option maxRecDepth 20000 in
theorem ggX0_greatestTableDistance_X0_tableDistance : GoodIn wsX0_greatestTableDistance wsX0_tableDistance := goodIn_r _ [11, 12, 13, 14, 15, 16, 17, 18, 19, 20, 21, 22] (by decide +kernel) (by decide +kernel)
set_option maxRecDepth 20000 in
theorem gX0_greatestTableDistance_X0_tableDistance : GoodIn wsX0_greatestTableDistance (wsV RX0 50 RX0 yX0_tableDistance wsX0_tableDistance) := goodIn_app (goodIn_of _ (by decide +kernel)) ggX0_greatestTableDistance_X0_tableDistance
set_option maxRecDepth 20000 in
theorem ggX0_areExcepted_X0_areWithin : GoodIn wsX0_areExcepted wsX0_areWithin := goodIn_r _ [6, 7, 8, 9, 10, 11, 12, 13, 14, 15, 16, 17, 18, 19] (by decide +kernel) (by decide +kernel)
set_option maxRecDepth 20000 in
theorem gX0_areExcepted_X0_areWithin : GoodIn wsX0_areExcepted (wsV RX0 145 RX0 yX0_areWithin wsX0_areWithin) := goodIn_app (goodIn_of _ (by decide +kernel)) ggX0_areExcepted_X0_areWithin
set_option maxRecDepth 20000 in
theorem ggX0_areLimited_X0_areWithin : GoodIn wsX0_areLimited wsX0_areWithin := goodIn_r _ [7, 8, 9, 10, 11, 12, 13, 14, 15, 16, 17, 18, 19, 20] (by decide +kernel) (by decide +kernel)
set_option maxRecDepth 20000 in
theorem gX0_areLimited_X0_areWithin : GoodIn wsX0_areLimited (wsV RX0 145 RX0 yX0_areWithin wsX0_areWithin) := goodIn_app (goodIn_of _ (by decide +kernel)) ggX0_areLimited_X0_areWithin
set_option maxRecDepth 20000 in
theorem ggX0_needOf_X0_areExcepted : GoodIn wsX0_needOf wsX0_areExcepted := goodIn_r _ [9, 10, 11, 12, 13, 8, 14, 15, 16, 17, 32, 33, 34, 35, 36, 37, 38, 39, 40, 41] (by decide +kernel) (by decide +kernel)
set_option maxRecDepth 20000 in
theorem gX0_needOf_X0_areExcepted : GoodIn wsX0_needOf (wsV RX0 81 RX0 yX0_areExcepted wsX0_areExcepted) := goodIn_app (goodIn_of _ (by decide +kernel)) ggX0_needOf_X0_areExcepted
set_option maxRecDepth 20000 in
theorem ggX0_needOf_X0_greatestTableDistance : GoodIn wsX0_needOf wsX0_greatestTableDistance := goodIn_r _ [21, 17, 16, 1, 2, 3, 4, 22, 23, 24, 8, 25, 26, 32, 33, 34, 35, 36, 37, 38, 39, 40, 41] (by decide +kernel) (by decide +kernel)
set_option maxRecDepth 20000 in
theorem gX0_needOf_X0_greatestTableDistance : GoodIn wsX0_needOf (wsV RX0 149 RX0 yX0_greatestTableDistance wsX0_greatestTableDistance) := goodIn_app (goodIn_of _ (by decide +kernel)) ggX0_needOf_X0_greatestTableDistance
set_option maxRecDepth 20000 in
theorem ggX0_needOf_X0_areLimited : GoodIn wsX0_needOf wsX0_areLimited := goodIn_r _ [30, 10, 31, 11, 12, 13, 8, 14, 15, 16, 17, 32, 33, 34, 35, 36, 37, 38, 39, 40, 41] (by decide +kernel) (by decide +kernel)
set_option maxRecDepth 20000 in
theorem gX0_needOf_X0_areLimited : GoodIn wsX0_needOf (wsV RX0 77 RX0 yX0_areLimited wsX0_areLimited) := goodIn_app (goodIn_of _ (by decide +kernel)) ggX0_needOf_X0_areLimited
set_option maxRecDepth 20000 in
theorem ggX0_wouldBreach_X0_distanceBetween : GoodIn wsX0_wouldBreach wsX0_distanceBetween := goodIn_r _ [5, 6, 7, 8, 9, 10, 11, 4, 12, 13, 14, 15, 16, 17, 18] (by decide +kernel) (by decide +kernel)
set_option maxRecDepth 20000 in
theorem gX0_wouldBreach_X0_distanceBetween : GoodIn wsX0_wouldBreach (va_wsS RX0 57 yX0_distanceBetween wsX0_distanceBetween) := goodIn_app (goodIn_of _ (by decide +kernel)) ggX0_wouldBreach_X0_distanceBetween
set_option maxRecDepth 20000 in
theorem ggX0_wouldBreach_X0_needOf : GoodIn wsX0_wouldBreach wsX0_needOf := goodIn_r _ [22, 23, 24, 8, 25, 26, 27, 28, 4, 29, 30, 31, 32, 33, 34, 35, 36, 37, 38, 39, 40, 41, 42, 43, 44, 45, 46, 47, 48, 49, 50, 51, 52, 53, 54, 55, 56, 57, 58, 59, 60, 61] (by decide +kernel) (by decide +kernel)
set_option maxRecDepth 20000 in
theorem gX0_wouldBreach_X0_needOf : GoodIn wsX0_wouldBreach (wsV RX0 87 RX0 yX0_needOf wsX0_needOf) := goodIn_app (goodIn_of _ (by decide +kernel)) ggX0_wouldBreach_X0_needOf
set_option maxRecDepth 20000 in
theorem ggX0_breachesAt_X0_wouldBreach : GoodIn wsX0_breachesAt wsX0_wouldBreach := goodIn_r _ [6, 7, 8, 9, 5, 10, 11, 12, 13, 14, 15, 16, 17, 18, 19, 20, 21, 22, 23, 24, 25, 26, 27, 28, 29, 30, 31, 32, 33, 34, 35, 36, 37, 38, 39, 40, 41, 42, 43, 44, 45, 46, 47, 48, 49, 50, 51, 52, 53, 54, 55, 56, 57, 58, 59, 60, 61, 62, 63, 64, 65, 66] (by decide +kernel) (by decide +kernel)
set_option maxRecDepth 20000 in
theorem gX0_breachesAt_X0_wouldBreach : GoodIn wsX0_breachesAt (wsV RX0 90 RX0 yX0_wouldBreach wsX0_wouldBreach) := goodIn_app (goodIn_of _ (by decide +kernel)) ggX0_breachesAt_X0_wouldBreach
set_option maxRecDepth 20000 in
theorem ggX0_wouldBeMisplaced_X0_areExcepted : GoodIn wsX0_wouldBeMisplaced wsX0_areExcepted := goodIn_r _ [7, 8, 9, 10, 11, 6, 12, 13, 2, 1, 22, 23, 24, 25, 26, 27, 28, 29, 30, 31] (by decide +kernel) (by decide +kernel)
set_option maxRecDepth 20000 in
theorem gX0_wouldBeMisplaced_X0_areExcepted : GoodIn wsX0_wouldBeMisplaced (wsV RX0 81 RX0 yX0_areExcepted wsX0_areExcepted) := goodIn_app (goodIn_of _ (by decide +kernel)) ggX0_wouldBeMisplaced_X0_areExcepted
set_option maxRecDepth 20000 in
theorem ggX0_wouldBeMisplaced_X0_deckOf : GoodIn wsX0_wouldBeMisplaced wsX0_deckOf := goodIn_r _ [16] (by decide +kernel) (by decide +kernel)
set_option maxRecDepth 20000 in
theorem gX0_wouldBeMisplaced_X0_deckOf : GoodIn wsX0_wouldBeMisplaced (va_wsS RX0 139 yX0_deckOf wsX0_deckOf) := goodIn_app (goodIn_of _ (by decide +kernel)) ggX0_wouldBeMisplaced_X0_deckOf
set_option maxRecDepth 20000 in
theorem ggX0_wouldBeMisplaced_X0_isBarredFrom : GoodIn wsX0_wouldBeMisplaced wsX0_isBarredFrom := goodIn_r _ [20, 21, 22, 23, 24, 25, 26, 27, 28, 29, 30, 31] (by decide +kernel) (by decide +kernel)
set_option maxRecDepth 20000 in
theorem gX0_wouldBeMisplaced_X0_isBarredFrom : GoodIn wsX0_wouldBeMisplaced (wsV RX0 152 RX0 yX0_isBarredFrom wsX0_isBarredFrom) := goodIn_app (goodIn_of _ (by decide +kernel)) ggX0_wouldBeMisplaced_X0_isBarredFrom
set_option maxRecDepth 20000 in
theorem ggX0_wouldBeClean_X0_wouldBeMisplaced : GoodIn wsX0_wouldBeClean wsX0_wouldBeMisplaced := goodIn_r _ [5, 6, 7, 8, 9, 10, 4, 11, 12, 13, 14, 15, 16, 17, 18, 19, 20, 21, 22, 23, 24, 25, 70, 71, 72, 73, 74, 75, 76, 77, 78, 79] (by decide +kernel) (by decide +kernel)
set_option maxRecDepth 20000 in
theorem gX0_wouldBeClean_X0_wouldBeMisplaced : GoodIn wsX0_wouldBeClean (wsV RX0 94 RX0 yX0_wouldBeMisplaced wsX0_wouldBeMisplaced) := goodIn_app (goodIn_of _ (by decide +kernel)) ggX0_wouldBeClean_X0_wouldBeMisplaced
set_option maxRecDepth 20000 in
theorem ggX0_wouldBeClean_X0_breachesAt : GoodIn wsX0_wouldBeClean wsX0_breachesAt := goodIn_r _ [29, 30, 31, 32, 33, 4, 34, 35, 36, 37, 38, 39, 40, 41, 42, 43, 44, 45, 46, 47, 48, 18, 19, 20, 49, 50, 51, 52, 53, 54, 55, 8, 9, 10, 11, 12, 13, 14, 15, 16, 17, 7, 6, 56, 57, 58, 59, 60, 61, 62, 63, 64, 65, 66, 67, 68, 69, 70, 71, 72, 73, 74, 75, 76, 77, 78, 79] (by decide +kernel) (by decide +kernel)
set_option maxRecDepth 20000 in
theorem gX0_wouldBeClean_X0_breachesAt : GoodIn wsX0_wouldBeClean (wsV RX0 98 RX0 yX0_breachesAt wsX0_breachesAt) := goodIn_app (goodIn_of _ (by decide +kernel)) ggX0_wouldBeClean_X0_breachesAt
set_option maxRecDepth 20000 in
theorem ggX0_leastLeaving_X0_breachesAt : GoodIn wsX0_leastLeaving wsX0_breachesAt := goodIn_r _ [8, 1, 9, 10, 11, 7, 12, 3, 13, 14, 15, 16, 17, 18, 19, 20, 21, 22, 23, 24, 25, 26, 27, 28, 29, 30, 31, 32, 33, 34, 35, 36, 37, 38, 39, 40, 41, 42, 43, 44, 45, 46, 47, 48, 49, 50, 51, 52, 53, 54, 55, 56, 57, 58, 59, 60, 61, 81, 82, 83, 84, 85, 86, 87, 88, 89, 90] (by decide +kernel) (by decide +kernel)
set_option maxRecDepth 20000 in
theorem gX0_leastLeaving_X0_breachesAt : GoodIn wsX0_leastLeaving (wsV RX0 98 RX0 yX0_breachesAt wsX0_breachesAt) := goodIn_app (goodIn_of _ (by decide +kernel)) ggX0_leastLeaving_X0_breachesAt
set_option maxRecDepth 20000 in
theorem ggX0_leastLeaving_X0_wouldBeMisplaced : GoodIn wsX0_leastLeaving wsX0_wouldBeMisplaced := goodIn_r _ [65, 47, 46, 36, 37, 38, 7, 39, 40, 41, 42, 43, 44, 45, 26, 27, 28, 66, 67, 68, 69, 70, 81, 82, 83, 84, 85, 86, 87, 88, 89, 90] (by decide +kernel) (by decide +kernel)
set_option maxRecDepth 20000 in
theorem gX0_leastLeaving_X0_wouldBeMisplaced : GoodIn wsX0_leastLeaving (wsV RX0 94 RX0 yX0_wouldBeMisplaced wsX0_wouldBeMisplaced) := goodIn_app (goodIn_of _ (by decide +kernel)) ggX0_leastLeaving_X0_wouldBeMisplaced
set_option maxRecDepth 20000 in
theorem ggX0_leastLeaving_X0_searchLeaving : GoodIn wsX0_leastLeaving wsX0_searchLeaving := goodIn_r _ [73, 74, 75, 76, 77, 78, 79, 80, 71, 72, 7] (by decide +kernel) (by decide +kernel)
set_option maxRecDepth 20000 in
theorem gX0_leastLeaving_X0_searchLeaving : GoodIn wsX0_leastLeaving (va_wsS RX0 155 yX0_searchLeaving wsX0_searchLeaving) := goodIn_app (goodIn_of _ (by decide +kernel)) ggX0_leastLeaving_X0_searchLeaving
set_option maxRecDepth 20000 in
theorem ggX0_searchLeaving_J6_bitCount_0f7a4 : GoodIn wsX0_searchLeaving wsJ6_bitCount_0f7a4 := goodIn_r _ [4, 5, 6, 7] (by decide +kernel) (by decide +kernel)
set_option maxRecDepth 20000 in
theorem gX0_searchLeaving_J6_bitCount_0f7a4 : GoodIn wsX0_searchLeaving (va_wsS RX0 108 yJ6_bitCount_0f7a4 wsJ6_bitCount_0f7a4) := goodIn_app (goodIn_of _ (by decide +kernel)) ggX0_searchLeaving_J6_bitCount_0f7a4
set_option maxRecDepth 20000 in
theorem ggX0_searchLeaving_X0_searchLeaving : GoodIn wsX0_searchLeaving wsX0_searchLeaving := goodIn_r _ [0, 1, 2, 3, 4, 5, 6, 7, 8, 9, 10] (by decide +kernel) (by decide +kernel)
set_option maxRecDepth 20000 in
theorem gX0_searchLeaving_X0_searchLeaving : GoodIn wsX0_searchLeaving (va_wsS RX0 155 yX0_searchLeaving wsX0_searchLeaving) := goodIn_app (goodIn_of _ (by decide +kernel)) ggX0_searchLeaving_X0_searchLeaving

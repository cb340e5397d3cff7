set_option maxRecDepth 20000 in
theorem gX1_put_X1_isPlace : GoodIn wsX1_put (va_wsS RX1 56 yX1_isPlace wsX1_isPlace) := goodIn_app (goodIn_of _ (by decide +kernel)) ggX1_put_X1_isPlace
set_option maxRecDepth 20000 in
theorem ggX1_put_X1_goes : GoodIn wsX1_put wsX1_goes := goodIn_r _ [17, 18, 19, 20, 21, 22, 23, 24, 25, 26, 27, 28, 29] (by decide +kernel) (by decide +kernel)
set_option maxRecDepth 20000 in
theorem gX1_put_X1_goes : GoodIn wsX1_put (wsV RX1 53 RX1 yX1_goes wsX1_goes) := goodIn_app (goodIn_of _ (by decide +kernel)) ggX1_put_X1_goes
set_option maxRecDepth 20000 in
theorem ggX1_asks_X1_areGoods : GoodIn wsX1_asks wsX1_areGoods := goodIn_r _ [5, 6, 7, 8, 4, 9, 15, 16, 17, 18, 19, 20, 21, 22, 23, 24, 25] (by decide +kernel) (by decide +kernel)
set_option maxRecDepth 20000 in
theorem gX1_asks_X1_areGoods : GoodIn wsX1_asks (wsV RX1 63 RX1 yX1_areGoods wsX1_areGoods) := goodIn_app (goodIn_of _ (by decide +kernel)) ggX1_asks_X1_areGoods
set_option maxRecDepth 20000 in
theorem ggX1_asks_X1_goes : GoodIn wsX1_asks wsX1_goes := goodIn_r _ [13, 14, 15, 16, 17, 18, 19, 20, 21, 22, 23, 24, 25] (by decide +kernel) (by decide +kernel)
set_option maxRecDepth 20000 in
theorem gX1_asks_X1_goes : GoodIn wsX1_asks (wsV RX1 53 RX1 yX1_goes wsX1_goes) := goodIn_app (goodIn_of _ (by decide +kernel)) ggX1_asks_X1_goes
set_option maxRecDepth 20000 in
theorem ggX1_placeOf_X1_asks : GoodIn wsX1_placeOf wsX1_asks := goodIn_r _ [6, 7, 8, 9, 5, 10, 11, 12, 13, 14, 15, 16, 17, 18, 19, 20, 21, 22, 23, 24, 25, 26, 27, 28, 29, 30] (by decide +kernel) (by decide +kernel)
set_option maxRecDepth 20000 in
theorem gX1_placeOf_X1_asks : GoodIn wsX1_placeOf (wsV RX1 66 RX1 yX1_asks wsX1_asks) := goodIn_app (goodIn_of _ (by decide +kernel)) ggX1_placeOf_X1_asks
set_option maxRecDepth 20000 in
theorem ggX1_areExcepted_X1_isWithin : GoodIn wsX1_areExcepted wsX1_isWithin := goodIn_r _ [6, 7, 8, 9, 10, 11, 12, 13, 14, 15, 16, 17, 18, 19, 20] (by decide +kernel) (by decide +kernel)
set_option maxRecDepth 20000 in
theorem gX1_areExcepted_X1_isWithin : GoodIn wsX1_areExcepted (wsV RX1 69 RX1 yX1_isWithin wsX1_isWithin) := goodIn_app (goodIn_of _ (by decide +kernel)) ggX1_areExcepted_X1_isWithin
set_option maxRecDepth 20000 in
theorem ggX1_areLimited_X1_areExcepted : GoodIn wsX1_areLimited wsX1_areExcepted := goodIn_r _ [6, 7, 8, 9, 10, 5, 11, 12, 13, 14, 15, 16, 17, 18, 19, 20, 21, 22, 23, 24, 25] (by decide +kernel) (by decide +kernel)
set_option maxRecDepth 20000 in
theorem gX1_areLimited_X1_areExcepted : GoodIn wsX1_areLimited (wsV RX1 73 RX1 yX1_areExcepted wsX1_areExcepted) := goodIn_app (goodIn_of _ (by decide +kernel)) ggX1_areLimited_X1_areExcepted
set_option maxRecDepth 20000 in
theorem ggX1_areLimited_X1_isWithin : GoodIn wsX1_areLimited wsX1_isWithin := goodIn_r _ [11, 12, 13, 14, 15, 16, 17, 18, 19, 20, 21, 22, 23, 24, 25] (by decide +kernel) (by decide +kernel)
set_option maxRecDepth 20000 in
theorem gX1_areLimited_X1_isWithin : GoodIn wsX1_areLimited (wsV RX1 69 RX1 yX1_isWithin wsX1_isWithin) := goodIn_app (goodIn_of _ (by decide +kernel)) ggX1_areLimited_X1_isWithin
set_option maxRecDepth 20000 in
theorem ggX1_isLimited_X1_asks : GoodIn wsX1_isLimited wsX1_asks := goodIn_r _ [5, 6, 7, 8, 4, 9, 10, 11, 12, 13, 14, 15, 16, 17, 18, 36, 37, 38, 39, 40, 41, 42, 43, 44, 45, 46] (by decide +kernel) (by decide +kernel)
set_option maxRecDepth 20000 in
theorem gX1_isLimited_X1_asks : GoodIn wsX1_isLimited (wsV RX1 66 RX1 yX1_asks wsX1_asks) := goodIn_app (goodIn_of _ (by decide +kernel)) ggX1_isLimited_X1_asks
set_option maxRecDepth 20000 in
theorem ggX1_isLimited_X1_areLimited : GoodIn wsX1_isLimited wsX1_areLimited := goodIn_r _ [22, 23, 24, 25, 26, 4, 27, 28, 29, 30, 31, 32, 33, 34, 35, 36, 37, 38, 39, 40, 41, 42, 43, 44, 45, 46] (by decide +kernel) (by decide +kernel)
set_option maxRecDepth 20000 in
theorem gX1_isLimited_X1_areLimited : GoodIn wsX1_isLimited (wsV RX1 76 RX1 yX1_areLimited wsX1_areLimited) := goodIn_app (goodIn_of _ (by decide +kernel)) ggX1_isLimited_X1_areLimited
set_option maxRecDepth 20000 in
theorem ggX1_isExcepted_X1_asks : GoodIn wsX1_isExcepted wsX1_asks := goodIn_r _ [5, 6, 7, 8, 4, 9, 10, 11, 12, 13, 14, 15, 16, 17, 18, 31, 32, 33, 34, 35, 36, 37, 38, 39, 40, 41] (by decide +kernel) (by decide +kernel)
set_option maxRecDepth 20000 in
theorem gX1_isExcepted_X1_asks : GoodIn wsX1_isExcepted (wsV RX1 66 RX1 yX1_asks wsX1_asks) := goodIn_app (goodIn_of _ (by decide +kernel)) ggX1_isExcepted_X1_asks
set_option maxRecDepth 20000 in
theorem ggX1_isExcepted_X1_areExcepted : GoodIn wsX1_isExcepted wsX1_areExcepted := goodIn_r _ [22, 23, 24, 25, 26, 4, 27, 28, 29, 30, 31, 32, 33, 34, 35, 36, 37, 38, 39, 40, 41] (by decide +kernel) (by decide +kernel)
set_option maxRecDepth 20000 in
theorem gX1_isExcepted_X1_areExcepted : GoodIn wsX1_isExcepted (wsV RX1 73 RX1 yX1_areExcepted wsX1_areExcepted) := goodIn_app (goodIn_of _ (by decide +kernel)) ggX1_isExcepted_X1_areExcepted
set_option maxRecDepth 20000 in
theorem ggX1_needs_X1_ofTable : GoodIn wsX1_needs wsX1_ofTable := goodIn_r _ [7, 8, 27, 28, 29, 30, 31, 32, 33, 34, 35, 36, 37] (by decide +kernel) (by decide +kernel)
set_option maxRecDepth 20000 in
theorem gX1_needs_X1_ofTable : GoodIn wsX1_needs (wsV RX1 79 RX1 yX1_ofTable wsX1_ofTable) := goodIn_app (goodIn_of _ (by decide +kernel)) ggX1_needs_X1_ofTable
set_option maxRecDepth 20000 in
theorem ggX1_needs_X1_greater : GoodIn wsX1_needs wsX1_greater := goodIn_r _ [11] (by decide +kernel) (by decide +kernel)
set_option maxRecDepth 20000 in
theorem gX1_needs_X1_greater : GoodIn wsX1_needs (va_wsS RX1 82 yX1_greater wsX1_greater) := goodIn_app (goodIn_of _ (by decide +kernel)) ggX1_needs_X1_greater
set_option maxRecDepth 20000 in
theorem ggX1_needs_X1_areExcepted : GoodIn wsX1_needs wsX1_areExcepted := goodIn_r _ [15, 16, 17, 18, 19, 6, 20, 2, 21, 1, 27, 28, 29, 30, 31, 32, 33, 34, 35, 36, 37] (by decide +kernel) (by decide +kernel)
set_option maxRecDepth 20000 in
theorem gX1_needs_X1_areExcepted : GoodIn wsX1_needs (wsV RX1 73 RX1 yX1_areExcepted wsX1_areExcepted) := goodIn_app (goodIn_of _ (by decide +kernel)) ggX1_needs_X1_areExcepted
set_option maxRecDepth 20000 in
theorem ggX1_needs_X1_areLimited : GoodIn wsX1_needs wsX1_areLimited := goodIn_r _ [25, 26, 12, 13, 14, 6, 15, 16, 17, 18, 19, 20, 2, 21, 1, 27, 28, 29, 30, 31, 32, 33, 34, 35, 36, 37] (by decide +kernel) (by decide +kernel)
set_option maxRecDepth 20000 in
theorem gX1_needs_X1_areLimited : GoodIn wsX1_needs (wsV RX1 76 RX1 yX1_areLimited wsX1_areLimited) := goodIn_app (goodIn_of _ (by decide +kernel)) ggX1_needs_X1_areLimited
set_option maxRecDepth 20000 in
theorem ggX1_asksTwo_X1_areGoods : GoodIn wsX1_asksTwo wsX1_areGoods := goodIn_r _ [5, 6, 7, 8, 4, 9, 15, 16, 17, 18, 19, 20, 21, 22, 23, 24, 25] (by decide +kernel) (by decide +kernel)
set_option maxRecDepth 20000 in
theorem gX1_asksTwo_X1_areGoods : GoodIn wsX1_asksTwo (wsV RX1 63 RX1 yX1_areGoods wsX1_areGoods) := goodIn_app (goodIn_of _ (by decide +kernel)) ggX1_asksTwo_X1_areGoods
set_option maxRecDepth 20000 in
theorem ggX1_asksTwo_X1_goes : GoodIn wsX1_asksTwo wsX1_goes := goodIn_r _ [13, 14, 15, 16, 17, 18, 19, 20, 21, 22, 23, 24, 25] (by decide +kernel) (by decide +kernel)
set_option maxRecDepth 20000 in
theorem gX1_asksTwo_X1_goes : GoodIn wsX1_asksTwo (wsV RX1 53 RX1 yX1_goes wsX1_goes) := goodIn_app (goodIn_of _ (by decide +kernel)) ggX1_asksTwo_X1_goes
set_option maxRecDepth 20000 in
theorem ggX1_need_X1_asksTwo : GoodIn wsX1_need wsX1_asksTwo := goodIn_r _ [5, 6, 7, 8, 4, 9, 10, 11, 12, 13, 14, 15, 16, 17, 18, 48, 49, 50, 51, 52, 53, 54, 55, 56, 57, 58] (by decide +kernel) (by decide +kernel)
set_option maxRecDepth 20000 in
theorem gX1_need_X1_asksTwo : GoodIn wsX1_need (wsV RX1 85 RX1 yX1_asksTwo wsX1_asksTwo) := goodIn_app (goodIn_of _ (by decide +kernel)) ggX1_need_X1_asksTwo
set_option maxRecDepth 20000 in
theorem ggX1_need_X1_needs : GoodIn wsX1_need wsX1_needs := goodIn_r _ [22, 23, 24, 25, 26, 27, 4, 28, 29, 30, 31, 32, 33, 34, 35, 36, 37, 38, 39, 40, 41, 42, 43, 44, 45, 46, 47, 48, 49, 50, 51, 52, 53, 54, 55, 56, 57, 58] (by decide +kernel) (by decide +kernel)
set_option maxRecDepth 20000 in
theorem gX1_need_X1_needs : GoodIn wsX1_need (wsV RX1 89 RX1 yX1_needs wsX1_needs) := goodIn_app (goodIn_of _ (by decide +kernel)) ggX1_need_X1_needs
set_option maxRecDepth 20000 in
theorem ggX1_areFoes_X1_apart : GoodIn wsX1_areFoes wsX1_apart := goodIn_r _ [5] (by decide +kernel) (by decide +kernel)
set_option maxRecDepth 20000 in
theorem gX1_areFoes_X1_apart : GoodIn wsX1_areFoes (va_wsS RX1 59 yX1_apart wsX1_apart) := goodIn_app (goodIn_of _ (by decide +kernel)) ggX1_areFoes_X1_apart
set_option maxRecDepth 20000 in
theorem ggX1_areFoes_X1_needs : GoodIn wsX1_areFoes wsX1_needs := goodIn_r _ [9, 10, 11, 12, 13, 14, 4, 15, 16, 17, 18, 19, 20, 21, 22, 23, 24, 25, 26, 27, 28, 29, 30, 31, 32, 33, 34, 35, 36, 37, 38, 39, 40, 41, 42, 43, 44, 45] (by decide +kernel) (by decide +kernel)
set_option maxRecDepth 20000 in
theorem gX1_areFoes_X1_needs : GoodIn wsX1_areFoes (wsV RX1 89 RX1 yX1_needs wsX1_needs) := goodIn_app (goodIn_of _ (by decide +kernel)) ggX1_areFoes_X1_needs
set_option maxRecDepth 20000 in
theorem ggX1_areWrong_X1_areExcepted : GoodIn wsX1_areWrong wsX1_areExcepted := goodIn_r _ [8, 9, 10, 11, 12, 7, 13, 1, 14, 3, 15, 16, 17, 18, 19, 20, 21, 22, 23, 24, 25] (by decide +kernel) (by decide +kernel)
set_option maxRecDepth 20000 in
theorem gX1_areWrong_X1_areExcepted : GoodIn wsX1_areWrong (wsV RX1 73 RX1 yX1_areExcepted wsX1_areExcepted) := goodIn_app (goodIn_of _ (by decide +kernel)) ggX1_areWrong_X1_areExcepted

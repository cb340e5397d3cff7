set_option maxRecDepth 20000 in
theorem ggX1_areInBreach_X1_asksTwo : GoodIn wsX1_areInBreach wsX1_asksTwo := goodIn_r _ [6, 7, 8, 9, 5, 10, 11, 12, 13, 14, 15, 16, 17, 18, 19, 56, 57, 58, 59, 60, 61, 62, 63, 64, 65, 66] (by decide +kernel) (by decide +kernel)
set_option maxRecDepth 20000 in
theorem gX1_areInBreach_X1_asksTwo : GoodIn wsX1_areInBreach (wsV RX1 85 RX1 yX1_asksTwo wsX1_asksTwo) := goodIn_app (goodIn_of _ (by decide +kernel)) ggX1_areInBreach_X1_asksTwo
set_option maxRecDepth 20000 in
theorem ggX1_areInBreach_X1_areFoes : GoodIn wsX1_areInBreach wsX1_areFoes := goodIn_r _ [23, 1, 24, 25, 5, 26, 27, 28, 29, 30, 31, 32, 33, 34, 35, 36, 37, 38, 39, 40, 41, 42, 43, 44, 45, 46, 47, 48, 49, 50, 51, 52, 53, 54, 55, 56, 57, 58, 59, 60, 61, 62, 63, 64, 65, 66] (by decide +kernel) (by decide +kernel)
set_option maxRecDepth 20000 in
theorem gX1_areInBreach_X1_areFoes : GoodIn wsX1_areInBreach (wsV RX1 92 RX1 yX1_areFoes wsX1_areFoes) := goodIn_app (goodIn_of _ (by decide +kernel)) ggX1_areInBreach_X1_areFoes
set_option maxRecDepth 20000 in
theorem ggX1_isMisplaced_X1_asks : GoodIn wsX1_isMisplaced wsX1_asks := goodIn_r _ [6, 7, 8, 9, 5, 10, 11, 12, 13, 14, 15, 16, 17, 18, 19, 37, 38, 39, 40, 41, 42, 43, 44, 45, 46, 47] (by decide +kernel) (by decide +kernel)
set_option maxRecDepth 20000 in
theorem gX1_isMisplaced_X1_asks : GoodIn wsX1_isMisplaced (wsV RX1 66 RX1 yX1_asks wsX1_asks) := goodIn_app (goodIn_of _ (by decide +kernel)) ggX1_isMisplaced_X1_asks
set_option maxRecDepth 20000 in
theorem ggX1_isMisplaced_X1_areWrong : GoodIn wsX1_isMisplaced wsX1_areWrong := goodIn_r _ [23, 24, 25, 26, 27, 28, 29, 5, 30, 31, 32, 33, 34, 35, 36, 37, 38, 39, 40, 41, 42, 43, 44, 45, 46, 47] (by decide +kernel) (by decide +kernel)
set_option maxRecDepth 20000 in
theorem gX1_isMisplaced_X1_areWrong : GoodIn wsX1_isMisplaced (wsV RX1 95 RX1 yX1_areWrong wsX1_areWrong) := goodIn_app (goodIn_of _ (by decide +kernel)) ggX1_isMisplaced_X1_areWrong
set_option maxRecDepth 20000 in
theorem ggX1_foesOf_X1_areFoes : GoodIn wsX1_foesOf wsX1_areFoes := goodIn_r _ [7, 2, 8, 9, 6, 10, 11, 12, 13, 14, 15, 16, 17, 18, 19, 20, 21, 22, 23, 24, 25, 26, 27, 28, 29, 30, 31, 32, 33, 34, 35, 36, 37, 38, 39, 40, 41, 42, 43, 44, 45, 46, 47, 48, 49, 50] (by decide +kernel) (by decide +kernel)
set_option maxRecDepth 20000 in
theorem gX1_foesOf_X1_areFoes : GoodIn wsX1_foesOf (wsV RX1 92 RX1 yX1_areFoes wsX1_areFoes) := goodIn_app (goodIn_of _ (by decide +kernel)) ggX1_foesOf_X1_areFoes
set_option maxRecDepth 20000 in
theorem ggX1_breaches_X1_foesOf : GoodIn wsX1_breaches wsX1_foesOf := goodIn_r _ [7, 2, 8, 9, 10, 11, 6, 12, 13, 14, 15, 16, 17, 18, 19, 20, 21, 22, 23, 24, 25, 26, 27, 28, 29, 30, 31, 32, 33, 34, 35, 36, 37, 38, 39, 40, 41, 42, 43, 44, 45, 46, 47, 48, 49, 50, 51, 52, 53, 54, 55] (by decide +kernel) (by decide +kernel)
set_option maxRecDepth 20000 in
theorem gX1_breaches_X1_foesOf : GoodIn wsX1_breaches (wsV RX1 98 RX1 yX1_foesOf wsX1_foesOf) := goodIn_app (goodIn_of _ (by decide +kernel)) ggX1_breaches_X1_foesOf
set_option maxRecDepth 20000 in
theorem ggX1_inBreachWith_X1_asks : GoodIn wsX1_inBreachWith wsX1_asks := goodIn_r _ [5, 6, 7, 8, 4, 9, 10, 11, 12, 13, 14, 15, 16, 17, 18, 60, 61, 62, 63, 64, 65, 66, 67, 68, 69, 70] (by decide +kernel) (by decide +kernel)
set_option maxRecDepth 20000 in
theorem gX1_inBreachWith_X1_asks : GoodIn wsX1_inBreachWith (wsV RX1 66 RX1 yX1_asks wsX1_asks) := goodIn_app (goodIn_of _ (by decide +kernel)) ggX1_inBreachWith_X1_asks
set_option maxRecDepth 20000 in
theorem ggX1_inBreachWith_X1_foesOf : GoodIn wsX1_inBreachWith wsX1_foesOf := goodIn_r _ [22, 10, 23, 24, 25, 26, 4, 27, 28, 29, 30, 31, 32, 33, 34, 35, 36, 37, 38, 39, 40, 41, 42, 43, 44, 45, 46, 47, 48, 49, 50, 51, 52, 53, 54, 55, 56, 57, 58, 59, 60, 61, 62, 63, 64, 65, 66, 67, 68, 69, 70] (by decide +kernel) (by decide +kernel)
set_option maxRecDepth 20000 in
theorem gX1_inBreachWith_X1_foesOf : GoodIn wsX1_inBreachWith (wsV RX1 98 RX1 yX1_foesOf wsX1_foesOf) := goodIn_app (goodIn_of _ (by decide +kernel)) ggX1_inBreachWith_X1_foesOf
set_option maxRecDepth 20000 in
theorem ggX1_wrongs_X1_areWrong : GoodIn wsX1_wrongs wsX1_areWrong := goodIn_r _ [7, 8, 9, 10, 11, 12, 13, 6, 14, 15, 16, 17, 18, 19, 20, 21, 22, 23, 24, 25, 26, 27, 28, 29, 30, 31] (by decide +kernel) (by decide +kernel)
set_option maxRecDepth 20000 in
theorem gX1_wrongs_X1_areWrong : GoodIn wsX1_wrongs (wsV RX1 95 RX1 yX1_areWrong wsX1_areWrong) := goodIn_app (goodIn_of _ (by decide +kernel)) ggX1_wrongs_X1_areWrong
set_option maxRecDepth 20000 in
theorem ggX1_laysFoes_X1_foesOf : GoodIn wsX1_laysFoes wsX1_foesOf := goodIn_r _ [7, 1, 8, 9, 10, 11, 6, 12, 13, 14, 15, 16, 17, 18, 19, 20, 21, 22, 23, 24, 25, 26, 27, 28, 29, 30, 31, 32, 33, 34, 35, 36, 37, 38, 39, 40, 41, 42, 43, 44, 45, 46, 47, 48, 49, 50, 51, 52, 53, 54, 55] (by decide +kernel) (by decide +kernel)
set_option maxRecDepth 20000 in
theorem gX1_laysFoes_X1_foesOf : GoodIn wsX1_laysFoes (wsV RX1 98 RX1 yX1_foesOf wsX1_foesOf) := goodIn_app (goodIn_of _ (by decide +kernel)) ggX1_laysFoes_X1_foesOf
set_option maxRecDepth 20000 in
theorem ggX1_isClean_X1_laysFoes : GoodIn wsX1_isClean wsX1_laysFoes := goodIn_r _ [6, 7, 8, 9, 10, 11, 5, 12, 13, 14, 15, 16, 17, 18, 19, 20, 21, 22, 23, 24, 25, 26, 27, 28, 29, 30, 31, 32, 33, 34, 35, 36, 37, 38, 39, 40, 41, 42, 43, 44, 45, 46, 47, 48, 49, 63, 64, 65, 66, 67, 68, 69, 70, 71, 72, 73] (by decide +kernel) (by decide +kernel)
set_option maxRecDepth 20000 in
theorem gX1_isClean_X1_laysFoes : GoodIn wsX1_isClean (wsV RX1 102 RX1 yX1_laysFoes wsX1_laysFoes) := goodIn_app (goodIn_of _ (by decide +kernel)) ggX1_isClean_X1_laysFoes
set_option maxRecDepth 20000 in
theorem ggX1_isClean_X1_wrongs : GoodIn wsX1_isClean wsX1_wrongs := goodIn_r _ [53, 7, 13, 54, 55, 56, 5, 57, 26, 58, 25, 35, 36, 37, 38, 39, 40, 41, 42, 43, 44, 63, 64, 65, 66, 67, 68, 69, 70, 71, 72, 73] (by decide +kernel) (by decide +kernel)
set_option maxRecDepth 20000 in
theorem gX1_isClean_X1_wrongs : GoodIn wsX1_isClean (wsV RX1 105 RX1 yX1_wrongs wsX1_wrongs) := goodIn_app (goodIn_of _ (by decide +kernel)) ggX1_isClean_X1_wrongs
set_option maxRecDepth 20000 in
theorem ggX1_isClean_X1_isCleanWithout : GoodIn wsX1_isClean wsX1_isCleanWithout := goodIn_r _ [62, 7, 8, 63, 64, 65, 66, 67, 68, 69, 70, 71, 72, 73] (by decide +kernel) (by decide +kernel)
set_option maxRecDepth 20000 in
theorem gX1_isClean_X1_isCleanWithout : GoodIn wsX1_isClean (wsV RX1 109 RX1 yX1_isCleanWithout wsX1_isCleanWithout) := goodIn_app (goodIn_of _ (by decide +kernel)) ggX1_isClean_X1_isCleanWithout
set_option maxRecDepth 20000 in
theorem ggX1_isGood_X1_areWrong : GoodIn wsX1_isGood wsX1_areWrong := goodIn_r _ [6, 7, 8, 9, 10, 11, 12, 5, 13, 14, 15, 16, 17, 18, 19, 45, 46, 47, 48, 49, 50, 51, 52, 53, 54, 55] (by decide +kernel) (by decide +kernel)
set_option maxRecDepth 20000 in
theorem gX1_isGood_X1_areWrong : GoodIn wsX1_isGood (wsV RX1 95 RX1 yX1_areWrong wsX1_areWrong) := goodIn_app (goodIn_of _ (by decide +kernel)) ggX1_isGood_X1_areWrong
set_option maxRecDepth 20000 in
theorem ggX1_isGood_X1_areFoes : GoodIn wsX1_isGood wsX1_areFoes := goodIn_r _ [23, 24, 25, 26, 5, 27, 28, 29, 30, 31, 9, 7, 32, 33, 34, 35, 36, 37, 38, 39, 10, 11, 12, 13, 14, 15, 16, 17, 18, 19, 40, 41, 42, 43, 44, 45, 46, 47, 48, 49, 50, 51, 52, 53, 54, 55] (by decide +kernel) (by decide +kernel)
set_option maxRecDepth 20000 in
theorem gX1_isGood_X1_areFoes : GoodIn wsX1_isGood (wsV RX1 92 RX1 yX1_areFoes wsX1_areFoes) := goodIn_app (goodIn_of _ (by decide +kernel)) ggX1_isGood_X1_areFoes
set_option maxRecDepth 20000 in
theorem ggX1_canPut_X1_areGoods : GoodIn wsX1_canPut wsX1_areGoods := goodIn_r _ [5, 6, 7, 8, 4, 9, 64, 65, 66, 67, 68, 69, 70, 71, 72, 73, 74] (by decide +kernel) (by decide +kernel)
set_option maxRecDepth 20000 in
theorem gX1_canPut_X1_areGoods : GoodIn wsX1_canPut (wsV RX1 63 RX1 yX1_areGoods wsX1_areGoods) := goodIn_app (goodIn_of _ (by decide +kernel)) ggX1_canPut_X1_areGoods
set_option maxRecDepth 20000 in
theorem ggX1_canPut_X1_isPlace : GoodIn wsX1_canPut wsX1_isPlace := goodIn_r _ [12, 7, 8, 4, 9] (by decide +kernel) (by decide +kernel)
set_option maxRecDepth 20000 in
theorem gX1_canPut_X1_isPlace : GoodIn wsX1_canPut (va_wsS RX1 56 yX1_isPlace wsX1_isPlace) := goodIn_app (goodIn_of _ (by decide +kernel)) ggX1_canPut_X1_isPlace
set_option maxRecDepth 20000 in
theorem ggX1_canPut_X1_goes : GoodIn wsX1_canPut wsX1_goes := goodIn_r _ [16, 17, 64, 65, 66, 67, 68, 69, 70, 71, 72, 73, 74] (by decide +kernel) (by decide +kernel)
set_option maxRecDepth 20000 in
theorem gX1_canPut_X1_goes : GoodIn wsX1_canPut (wsV RX1 53 RX1 yX1_goes wsX1_goes) := goodIn_app (goodIn_of _ (by decide +kernel)) ggX1_canPut_X1_goes
set_option maxRecDepth 20000 in
theorem ggX1_canPut_X1_isGood : GoodIn wsX1_canPut wsX1_isGood := goodIn_r _ [21, 6, 22, 23, 24, 4, 25, 26, 27, 28, 29, 30, 31, 32, 33, 34, 35, 36, 37, 38, 39, 40, 41, 42, 43, 44, 45, 46, 47, 48, 49, 50, 51, 52, 53, 54, 55, 56, 57, 58, 59, 60, 61, 62, 63, 64, 65, 66, 67, 68, 69, 70, 71, 72, 73, 74] (by decide +kernel) (by decide +kernel)
set_option maxRecDepth 20000 in
theorem gX1_canPut_X1_isGood : GoodIn wsX1_canPut (wsV RX1 112 RX1 yX1_isGood wsX1_isGood) := goodIn_app (goodIn_of _ (by decide +kernel)) ggX1_canPut_X1_isGood
set_option maxRecDepth 20000 in
theorem ggX1_placeFor_X1_asks : GoodIn wsX1_placeFor wsX1_asks := goodIn_r _ [5, 6, 7, 8, 4, 9, 10, 11, 12, 13, 14, 15, 16, 17, 18, 65, 66, 67, 68, 69, 70, 71, 72, 73, 74, 75] (by decide +kernel) (by decide +kernel)
set_option maxRecDepth 20000 in
theorem gX1_placeFor_X1_asks : GoodIn wsX1_placeFor (wsV RX1 66 RX1 yX1_asks wsX1_asks) := goodIn_app (goodIn_of _ (by decide +kernel)) ggX1_placeFor_X1_asks
set_option maxRecDepth 20000 in
theorem ggX1_placeFor_X1_isGood : GoodIn wsX1_placeFor wsX1_isGood := goodIn_r _ [22, 10, 23, 24, 25, 4, 26, 27, 28, 29, 30, 31, 32, 33, 34, 35, 36, 37, 38, 39, 40, 41, 42, 43, 44, 45, 46, 47, 48, 49, 50, 51, 52, 53, 54, 55, 56, 57, 58, 59, 60, 61, 62, 63, 64, 65, 66, 67, 68, 69, 70, 71, 72, 73, 74, 75] (by decide +kernel) (by decide +kernel)
set_option maxRecDepth 20000 in
theorem gX1_placeFor_X1_isGood : GoodIn wsX1_placeFor (wsV RX1 112 RX1 yX1_isGood wsX1_isGood) := goodIn_app (goodIn_of _ (by decide +kernel)) ggX1_placeFor_X1_isGood
set_option maxRecDepth 20000 in
theorem ggX1_least_X1_laysFoes : GoodIn wsX1_least wsX1_laysFoes := goodIn_r _ [7, 1, 8, 9, 10, 11, 6, 12, 2, 13, 14, 15, 16, 17, 18, 19, 20, 21, 22, 23, 24, 25, 26, 27, 28, 29, 30, 31, 32, 33, 34, 35, 36, 37, 38, 39, 40, 41, 42, 43, 44, 45, 46, 47, 48, 65, 66, 67, 68, 69, 70, 71, 72, 73, 74, 75] (by decide +kernel) (by decide +kernel)
set_option maxRecDepth 20000 in
theorem gX1_least_X1_laysFoes : GoodIn wsX1_least (wsV RX1 102 RX1 yX1_laysFoes wsX1_laysFoes) := goodIn_app (goodIn_of _ (by decide +kernel)) ggX1_least_X1_laysFoes
set_option maxRecDepth 20000 in
theorem ggX1_least_X1_wrongs : GoodIn wsX1_least wsX1_wrongs := goodIn_r _ [52, 1, 2, 53, 54, 55, 6, 56, 25, 57, 24, 34, 35, 36, 37, 38, 39, 40, 41, 42, 43, 65, 66, 67, 68, 69, 70, 71, 72, 73, 74, 75] (by decide +kernel) (by decide +kernel)

set_option maxRecDepth 20000 in
theorem gX1_least_X1_wrongs : GoodIn wsX1_least (wsV RX1 105 RX1 yX1_wrongs wsX1_wrongs) := goodIn_app (goodIn_of _ (by decide +kernel)) ggX1_least_X1_wrongs
set_option maxRecDepth 20000 in
theorem ggX1_least_X1_count : GoodIn wsX1_least wsX1_count := goodIn_r _ [60] (by decide +kernel) (by decide +kernel)
set_option maxRecDepth 20000 in
theorem gX1_least_X1_count : GoodIn wsX1_least (va_wsS RX1 115 yX1_count wsX1_count) := goodIn_app (goodIn_of _ (by decide +kernel)) ggX1_least_X1_count
set_option maxRecDepth 20000 in
theorem ggX1_least_X1_isCleanWithout : GoodIn wsX1_least wsX1_isCleanWithout := goodIn_r _ [64, 1, 8, 65, 66, 67, 68, 69, 70, 71, 72, 73, 74, 75] (by decide +kernel) (by decide +kernel)
set_option maxRecDepth 20000 in
theorem gX1_least_X1_isCleanWithout : GoodIn wsX1_least (wsV RX1 109 RX1 yX1_isCleanWithout wsX1_isCleanWithout) := goodIn_app (goodIn_of _ (by decide +kernel)) ggX1_least_X1_isCleanWithout
set_option maxRecDepth 20000 in
theorem ggX1_fewest_X1_least : GoodIn wsX1_fewest wsX1_least := goodIn_r _ [6, 7, 8, 9, 10, 11, 5, 12, 13, 14, 15, 16, 17, 18, 19, 20, 21, 22, 23, 24, 25, 26, 27, 28, 29, 30, 31, 32, 33, 34, 35, 36, 37, 38, 39, 40, 41, 42, 43, 44, 45, 46, 47, 48, 49, 50, 51, 52, 53, 54, 55, 56, 57, 58, 59, 60, 61, 62, 63, 64, 65, 66, 67, 68, 69, 70, 71, 72, 73, 74, 75, 76, 77, 78, 79, 80] (by decide +kernel) (by decide +kernel)
set_option maxRecDepth 20000 in
theorem gX1_fewest_X1_least : GoodIn wsX1_fewest (wsV RX1 118 RX1 yX1_least wsX1_least) := goodIn_app (goodIn_of _ (by decide +kernel)) ggX1_fewest_X1_least
set_option maxRecDepth 20000 in
theorem ggX1_fewest_X1_count : GoodIn wsX1_fewest wsX1_count := goodIn_r _ [65] (by decide +kernel) (by decide +kernel)
set_option maxRecDepth 20000 in
theorem gX1_fewest_X1_count : GoodIn wsX1_fewest (va_wsS RX1 115 yX1_count wsX1_count) := goodIn_app (goodIn_of _ (by decide +kernel)) ggX1_fewest_X1_count
set_option maxRecDepth 20000 in
theorem ggX1_leaving_X1_least : GoodIn wsX1_leaving wsX1_least := goodIn_r _ [6, 7, 8, 9, 10, 11, 5, 12, 13, 14, 15, 16, 17, 18, 19, 20, 21, 22, 23, 24, 25, 26, 27, 28, 29, 30, 31, 32, 33, 34, 35, 36, 37, 38, 39, 40, 41, 42, 43, 44, 45, 46, 47, 48, 49, 50, 51, 52, 53, 54, 55, 56, 57, 58, 59, 60, 61, 62, 63, 64, 65, 66, 67, 68, 69, 70, 71, 72, 73, 74, 75, 76, 77, 78, 79, 80] (by decide +kernel) (by decide +kernel)
set_option maxRecDepth 20000 in
theorem gX1_leaving_X1_least : GoodIn wsX1_leaving (wsV RX1 118 RX1 yX1_least wsX1_least) := goodIn_app (goodIn_of _ (by decide +kernel)) ggX1_leaving_X1_least

set_option maxRecDepth 20000 in
theorem ggX1_isClass_X1_isIn : GoodIn wsX1_isClass wsX1_isIn := goodIn_r _ [4] (by decide +kernel) (by decide +kernel)
set_option maxRecDepth 20000 in
theorem gX1_isClass_X1_isIn : GoodIn wsX1_isClass (va_wsS RX1 42 yX1_isIn wsX1_isIn) := goodIn_app (goodIn_of _ (by decide +kernel)) ggX1_isClass_X1_isIn
set_option maxRecDepth 20000 in
theorem ggX1_isPlace_X1_isIn : GoodIn wsX1_isPlace wsX1_isIn := goodIn_r _ [4] (by decide +kernel) (by decide +kernel)
set_option maxRecDepth 20000 in
theorem gX1_isPlace_X1_isIn : GoodIn wsX1_isPlace (va_wsS RX1 42 yX1_isIn wsX1_isIn) := goodIn_app (goodIn_of _ (by decide +kernel)) ggX1_isPlace_X1_isIn
set_option maxRecDepth 20000 in
theorem ggX1_areGoods_X1_isIn : GoodIn wsX1_areGoods wsX1_isIn := goodIn_r _ [5] (by decide +kernel) (by decide +kernel)
set_option maxRecDepth 20000 in
theorem gX1_areGoods_X1_isIn : GoodIn wsX1_areGoods (va_wsS RX1 42 yX1_isIn wsX1_isIn) := goodIn_app (goodIn_of _ (by decide +kernel)) ggX1_areGoods_X1_isIn
set_option maxRecDepth 20000 in
theorem ggX1_setDistance_X1_isClass : GoodIn wsX1_setDistance wsX1_isClass := goodIn_r _ [5, 6, 7, 4, 8] (by decide +kernel) (by decide +kernel)
set_option maxRecDepth 20000 in
theorem gX1_setDistance_X1_isClass : GoodIn wsX1_setDistance (va_wsS RX1 49 yX1_isClass wsX1_isClass) := goodIn_app (goodIn_of _ (by decide +kernel)) ggX1_setDistance_X1_isClass
set_option maxRecDepth 20000 in
theorem ggX1_setDistance_X1_isIn : GoodIn wsX1_setDistance wsX1_isIn := goodIn_r _ [8] (by decide +kernel) (by decide +kernel)
set_option maxRecDepth 20000 in
theorem gX1_setDistance_X1_isIn : GoodIn wsX1_setDistance (va_wsS RX1 42 yX1_isIn wsX1_isIn) := goodIn_app (goodIn_of _ (by decide +kernel)) ggX1_setDistance_X1_isIn
set_option maxRecDepth 20000 in
theorem ggX1_setDistance_X1_goes : GoodIn wsX1_setDistance wsX1_goes := goodIn_r _ [12, 13, 14, 15, 16, 17, 18, 19, 20, 21, 22, 23, 24] (by decide +kernel) (by decide +kernel)
set_option maxRecDepth 20000 in
theorem gX1_setDistance_X1_goes : GoodIn wsX1_setDistance (wsV RX1 53 RX1 yX1_goes wsX1_goes) := goodIn_app (goodIn_of _ (by decide +kernel)) ggX1_setDistance_X1_goes
set_option maxRecDepth 20000 in
theorem ggX1_setQuantities_X1_isClass : GoodIn wsX1_setQuantities wsX1_isClass := goodIn_r _ [6, 7, 8, 5, 9] (by decide +kernel) (by decide +kernel)
set_option maxRecDepth 20000 in
theorem gX1_setQuantities_X1_isClass : GoodIn wsX1_setQuantities (va_wsS RX1 49 yX1_isClass wsX1_isClass) := goodIn_app (goodIn_of _ (by decide +kernel)) ggX1_setQuantities_X1_isClass
set_option maxRecDepth 20000 in
theorem ggX1_setQuantities_X1_isIn : GoodIn wsX1_setQuantities wsX1_isIn := goodIn_r _ [9] (by decide +kernel) (by decide +kernel)
set_option maxRecDepth 20000 in
theorem gX1_setQuantities_X1_isIn : GoodIn wsX1_setQuantities (va_wsS RX1 42 yX1_isIn wsX1_isIn) := goodIn_app (goodIn_of _ (by decide +kernel)) ggX1_setQuantities_X1_isIn
set_option maxRecDepth 20000 in
theorem ggX1_setQuantities_X1_goes : GoodIn wsX1_setQuantities wsX1_goes := goodIn_r _ [13, 14, 15, 16, 17, 18, 19, 20, 21, 22, 23, 24, 25] (by decide +kernel) (by decide +kernel)
set_option maxRecDepth 20000 in
theorem gX1_setQuantities_X1_goes : GoodIn wsX1_setQuantities (wsV RX1 53 RX1 yX1_goes wsX1_goes) := goodIn_app (goodIn_of _ (by decide +kernel)) ggX1_setQuantities_X1_goes
set_option maxRecDepth 20000 in
theorem ggX1_bar_X1_isClass : GoodIn wsX1_bar wsX1_isClass := goodIn_r _ [5, 6, 7, 4, 8] (by decide +kernel) (by decide +kernel)
set_option maxRecDepth 20000 in
theorem gX1_bar_X1_isClass : GoodIn wsX1_bar (va_wsS RX1 49 yX1_isClass wsX1_isClass) := goodIn_app (goodIn_of _ (by decide +kernel)) ggX1_bar_X1_isClass
set_option maxRecDepth 20000 in
theorem ggX1_bar_X1_isIn : GoodIn wsX1_bar wsX1_isIn := goodIn_r _ [8] (by decide +kernel) (by decide +kernel)
set_option maxRecDepth 20000 in
theorem gX1_bar_X1_isIn : GoodIn wsX1_bar (va_wsS RX1 42 yX1_isIn wsX1_isIn) := goodIn_app (goodIn_of _ (by decide +kernel)) ggX1_bar_X1_isIn
set_option maxRecDepth 20000 in
theorem ggX1_bar_X1_goes : GoodIn wsX1_bar wsX1_goes := goodIn_r _ [12, 13, 14, 15, 16, 17, 18, 19, 20, 21, 22, 23, 24] (by decide +kernel) (by decide +kernel)
set_option maxRecDepth 20000 in
theorem gX1_bar_X1_goes : GoodIn wsX1_bar (wsV RX1 53 RX1 yX1_goes wsX1_goes) := goodIn_app (goodIn_of _ (by decide +kernel)) ggX1_bar_X1_goes
set_option maxRecDepth 20000 in
theorem ggX1_distance_X1_isPlace : GoodIn wsX1_distance wsX1_isPlace := goodIn_r _ [4, 5, 6, 3, 7] (by decide +kernel) (by decide +kernel)
set_option maxRecDepth 20000 in
theorem gX1_distance_X1_isPlace : GoodIn wsX1_distance (va_wsS RX1 56 yX1_isPlace wsX1_isPlace) := goodIn_app (goodIn_of _ (by decide +kernel)) ggX1_distance_X1_isPlace
set_option maxRecDepth 20000 in
theorem ggX1_distance_X1_goes : GoodIn wsX1_distance wsX1_goes := goodIn_r _ [11, 12, 16, 17, 18, 19, 20, 21, 22, 23, 24, 25, 26] (by decide +kernel) (by decide +kernel)
set_option maxRecDepth 20000 in
theorem gX1_distance_X1_goes : GoodIn wsX1_distance (wsV RX1 53 RX1 yX1_goes wsX1_goes) := goodIn_app (goodIn_of _ (by decide +kernel)) ggX1_distance_X1_goes
set_option maxRecDepth 20000 in
theorem ggX1_distance_X1_apart : GoodIn wsX1_distance wsX1_apart := goodIn_r _ [15] (by decide +kernel) (by decide +kernel)
set_option maxRecDepth 20000 in
theorem gX1_distance_X1_apart : GoodIn wsX1_distance (va_wsS RX1 59 yX1_apart wsX1_apart) := goodIn_app (goodIn_of _ (by decide +kernel)) ggX1_distance_X1_apart
set_option maxRecDepth 20000 in
theorem ggX1_add_X1_isClass : GoodIn wsX1_add wsX1_isClass := goodIn_r _ [9, 10, 11, 8, 12] (by decide +kernel) (by decide +kernel)
set_option maxRecDepth 20000 in
theorem gX1_add_X1_isClass : GoodIn wsX1_add (va_wsS RX1 49 yX1_isClass wsX1_isClass) := goodIn_app (goodIn_of _ (by decide +kernel)) ggX1_add_X1_isClass
set_option maxRecDepth 20000 in
theorem ggX1_add_X1_isIn : GoodIn wsX1_add wsX1_isIn := goodIn_r _ [12] (by decide +kernel) (by decide +kernel)
set_option maxRecDepth 20000 in
theorem gX1_add_X1_isIn : GoodIn wsX1_add (va_wsS RX1 42 yX1_isIn wsX1_isIn) := goodIn_app (goodIn_of _ (by decide +kernel)) ggX1_add_X1_isIn
set_option maxRecDepth 20000 in
theorem ggX1_add_X1_goes : GoodIn wsX1_add wsX1_goes := goodIn_r _ [16, 17, 18, 19, 20, 21, 22, 23, 24, 25, 26, 27, 28] (by decide +kernel) (by decide +kernel)
set_option maxRecDepth 20000 in
theorem gX1_add_X1_goes : GoodIn wsX1_add (wsV RX1 53 RX1 yX1_goes wsX1_goes) := goodIn_app (goodIn_of _ (by decide +kernel)) ggX1_add_X1_goes
set_option maxRecDepth 20000 in
theorem ggX1_setQuantity_X1_areGoods : GoodIn wsX1_setQuantity wsX1_areGoods := goodIn_r _ [6, 7, 8, 9, 5, 10, 16, 17, 18, 19, 20, 21, 22, 23, 24, 25, 26] (by decide +kernel) (by decide +kernel)
set_option maxRecDepth 20000 in
theorem gX1_setQuantity_X1_areGoods : GoodIn wsX1_setQuantity (wsV RX1 63 RX1 yX1_areGoods wsX1_areGoods) := goodIn_app (goodIn_of _ (by decide +kernel)) ggX1_setQuantity_X1_areGoods
set_option maxRecDepth 20000 in
theorem ggX1_setQuantity_X1_isIn : GoodIn wsX1_setQuantity wsX1_isIn := goodIn_r _ [10] (by decide +kernel) (by decide +kernel)
set_option maxRecDepth 20000 in
theorem gX1_setQuantity_X1_isIn : GoodIn wsX1_setQuantity (va_wsS RX1 42 yX1_isIn wsX1_isIn) := goodIn_app (goodIn_of _ (by decide +kernel)) ggX1_setQuantity_X1_isIn
set_option maxRecDepth 20000 in
theorem ggX1_setQuantity_X1_goes : GoodIn wsX1_setQuantity wsX1_goes := goodIn_r _ [14, 15, 16, 17, 18, 19, 20, 21, 22, 23, 24, 25, 26] (by decide +kernel) (by decide +kernel)
set_option maxRecDepth 20000 in
theorem gX1_setQuantity_X1_goes : GoodIn wsX1_setQuantity (wsV RX1 53 RX1 yX1_goes wsX1_goes) := goodIn_app (goodIn_of _ (by decide +kernel)) ggX1_setQuantity_X1_goes
set_option maxRecDepth 20000 in
theorem ggX1_put_X1_areGoods : GoodIn wsX1_put wsX1_areGoods := goodIn_r _ [6, 7, 8, 9, 5, 10, 19, 20, 21, 22, 23, 24, 25, 26, 27, 28, 29] (by decide +kernel) (by decide +kernel)
set_option maxRecDepth 20000 in
theorem gX1_put_X1_areGoods : GoodIn wsX1_put (wsV RX1 63 RX1 yX1_areGoods wsX1_areGoods) := goodIn_app (goodIn_of _ (by decide +kernel)) ggX1_put_X1_areGoods
set_option maxRecDepth 20000 in
theorem ggX1_put_X1_isPlace : GoodIn wsX1_put wsX1_isPlace := goodIn_r _ [13, 8, 9, 5, 10] (by decide +kernel) (by decide +kernel)

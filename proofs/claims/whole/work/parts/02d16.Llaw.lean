set_option maxRecDepth 20000 in
theorem ggL_law_X0_init : GoodIn wsL_law wsX0_init := goodIn_r _ [9, 10, 11, 12, 13, 14, 15, 16, 17, 18, 19, 20, 21, 22, 23, 24, 456, 457, 458, 459, 460, 461, 462, 463, 464, 465] (by decide +kernel) (by decide +kernel)
set_option maxRecDepth 20000 in
theorem gL_law_X0_init : GoodIn wsL_law (wsX0_init) := ggL_law_X0_init
set_option maxRecDepth 20000 in
theorem ggL_law_X1_init : GoodIn wsL_law wsX1_init := goodIn_r _ [27, 28, 11, 12, 13, 29, 30, 31, 17, 32, 33, 34, 35, 36, 37, 466, 467, 468, 469, 470, 471, 472, 473, 474, 475, 476] (by decide +kernel) (by decide +kernel)
set_option maxRecDepth 20000 in
theorem gL_law_X1_init : GoodIn wsL_law (wsX1_init) := ggL_law_X1_init
set_option maxRecDepth 20000 in
theorem ggL_law_L_setDistance : GoodIn wsL_law wsL_setDistance := goodIn_ca (goodIn_r _ [41, 42, 43, 44, 45, 2, 46, 14, 47, 48, 49, 50, 51, 52, 53, 54, 55, 56, 57, 58, 456, 457, 458, 459, 460, 461, 462, 463, 464, 465] (by decide +kernel) (by decide +kernel)) (goodIn_sub (fun _ h => List.mem_append_left _ (List.mem_append_left _ (List.mem_append_right _ h))) (by decide +kernel))
set_option maxRecDepth 20000 in
theorem gL_law_L_setDistance : GoodIn wsL_law (va_wsS RL 74 yL_setDistance wsL_setDistance) := goodIn_app (goodIn_of _ (by decide +kernel)) ggL_law_L_setDistance
set_option maxRecDepth 20000 in
theorem ggL_law_X1_setDistance : GoodIn wsL_law wsX1_setDistance := goodIn_r _ [62, 29, 63, 64, 5, 65, 66, 67, 68, 69, 70, 71, 72, 73, 466, 467, 468, 469, 470, 471, 472, 473, 474, 475, 476] (by decide +kernel) (by decide +kernel)
set_option maxRecDepth 20000 in
theorem gL_law_X1_setDistance : GoodIn wsL_law (wsV RL 79 RX1 yX1_setDistance wsX1_setDistance) := goodIn_app (goodIn_of _ (by decide +kernel)) ggL_law_X1_setDistance
set_option maxRecDepth 20000 in
theorem ggL_law_X1_thrown : GoodIn wsL_law wsX1_thrown := goodIn_r _ [77, 73, 466, 467, 468, 469, 470, 471, 472, 473, 474, 475, 476] (by decide +kernel) (by decide +kernel)
set_option maxRecDepth 20000 in
theorem gL_law_X1_thrown : GoodIn wsL_law (wsV RL 80 RX1 yX1_thrown wsX1_thrown) := goodIn_app (goodIn_of _ (by decide +kernel)) ggL_law_X1_thrown
set_option maxRecDepth 20000 in
theorem ggL_law_L_setQuantities : GoodIn wsL_law wsL_setQuantities := goodIn_ca (goodIn_r _ [80, 42, 81, 82, 83, 2, 84, 15, 16, 47, 48, 49, 50, 51, 52, 53, 54, 456, 457, 458, 459, 460, 461, 462, 463, 464, 465] (by decide +kernel) (by decide +kernel)) (goodIn_sub (fun _ h => List.mem_append_left _ (List.mem_append_left _ (List.mem_append_right _ h))) (by decide +kernel))
set_option maxRecDepth 20000 in
theorem gL_law_L_setQuantities : GoodIn wsL_law (va_wsS RL 84 yL_setQuantities wsL_setQuantities) := goodIn_app (goodIn_of _ (by decide +kernel)) ggL_law_L_setQuantities
set_option maxRecDepth 20000 in
theorem ggL_law_X1_setQuantities : GoodIn wsL_law wsX1_setQuantities := goodIn_r _ [88, 30, 31, 63, 64, 5, 65, 66, 67, 68, 69, 70, 71, 72, 73, 466, 467, 468, 469, 470, 471, 472, 473, 474, 475, 476] (by decide +kernel) (by decide +kernel)
set_option maxRecDepth 20000 in
theorem gL_law_X1_setQuantities : GoodIn wsL_law (wsV RL 87 RX1 yX1_setQuantities wsX1_setQuantities) := goodIn_app (goodIn_of _ (by decide +kernel)) ggL_law_X1_setQuantities
set_option maxRecDepth 20000 in
theorem ggL_law_L_bar : GoodIn wsL_law wsL_bar := goodIn_ca (goodIn_r _ [91, 42, 92, 93, 94, 2, 95, 18, 47, 48, 49, 50, 51, 52, 53, 54, 456, 457, 458, 459, 460, 461, 462, 463, 464, 465] (by decide +kernel) (by decide +kernel)) (goodIn_sub (fun _ h => List.mem_append_left _ (List.mem_append_left _ (List.mem_append_right _ h))) (by decide +kernel))
set_option maxRecDepth 20000 in
theorem gL_law_L_bar : GoodIn wsL_law (va_wsS RL 88 yL_bar wsL_bar) := goodIn_app (goodIn_of _ (by decide +kernel)) ggL_law_L_bar
set_option maxRecDepth 20000 in
theorem ggL_law_X1_bar : GoodIn wsL_law wsX1_bar := goodIn_r _ [99, 32, 63, 64, 5, 65, 66, 67, 68, 69, 70, 71, 72, 73, 466, 467, 468, 469, 470, 471, 472, 473, 474, 475, 476] (by decide +kernel) (by decide +kernel)
set_option maxRecDepth 20000 in
theorem gL_law_X1_bar : GoodIn wsL_law (wsV RL 91 RX1 yX1_bar wsX1_bar) := goodIn_app (goodIn_of _ (by decide +kernel)) ggL_law_X1_bar
set_option maxRecDepth 20000 in
theorem ggL_law_L_distance : GoodIn wsL_law wsL_distance := goodIn_ca (goodIn_r _ [102, 42, 103, 104, 105, 2, 106, 107, 108, 109, 50, 51, 52, 53, 54, 110, 111, 112, 113, 114, 115, 116, 117, 118, 119, 120, 121, 122, 123, 124, 125] (by decide +kernel) (by decide +kernel)) (goodIn_sub (fun _ h => List.mem_append_left _ (List.mem_append_left _ (List.mem_append_right _ h))) (by decide +kernel))
set_option maxRecDepth 20000 in
theorem gL_law_L_distance : GoodIn wsL_law (va_wsS RL 92 yL_distance wsL_distance) := goodIn_app (goodIn_of _ (by decide +kernel)) ggL_law_L_distance
set_option maxRecDepth 20000 in
theorem ggL_law_X1_distance : GoodIn wsL_law wsX1_distance := goodIn_r _ [129, 130, 131, 5, 132, 66, 67, 68, 69, 70, 71, 72, 73, 133, 134, 135, 466, 467, 468, 469, 470, 471, 472, 473, 474, 475, 476] (by decide +kernel) (by decide +kernel)
set_option maxRecDepth 20000 in
theorem gL_law_X1_distance : GoodIn wsL_law (wsV RL 95 RX1 yX1_distance wsX1_distance) := goodIn_app (goodIn_of _ (by decide +kernel)) ggL_law_X1_distance
set_option maxRecDepth 20000 in
theorem ggL_law_L_add : GoodIn wsL_law wsL_add := goodIn_ca (goodIn_ca (goodIn_r _ [138, 42, 139, 140, 141, 142, 2, 143, 144, 145, 23, 19, 20, 21, 22, 47, 48, 49, 50, 51, 52, 53, 54, 146, 147, 148, 149, 150, 151, 456, 457, 458, 459, 460, 461, 462, 463, 464, 465] (by decide +kernel) (by decide +kernel)) (goodIn_sub (fun _ h => List.mem_append_left _ (List.mem_append_right _ h)) (by decide +kernel))) (goodIn_sub (fun _ h => List.mem_append_left _ (List.mem_append_left _ (List.mem_append_right _ h))) (by decide +kernel))
set_option maxRecDepth 20000 in
theorem gL_law_L_add : GoodIn wsL_law (va_wsS RL 96 yL_add wsL_add) := goodIn_app (goodIn_of _ (by decide +kernel)) ggL_law_L_add
set_option maxRecDepth 20000 in
theorem ggL_law_X1_add : GoodIn wsL_law wsX1_add := goodIn_r _ [155, 156, 33, 34, 35, 36, 63, 64, 5, 65, 66, 67, 68, 69, 70, 71, 72, 73, 466, 467, 468, 469, 470, 471, 472, 473, 474, 475, 476] (by decide +kernel) (by decide +kernel)
set_option maxRecDepth 20000 in
theorem gL_law_X1_add : GoodIn wsL_law (wsV RL 98 RX1 yX1_add wsX1_add) := goodIn_app (goodIn_of _ (by decide +kernel)) ggL_law_X1_add
set_option maxRecDepth 20000 in
theorem ggL_law_L_setQuantity : GoodIn wsL_law wsL_setQuantity := goodIn_ca (goodIn_ca (goodIn_r _ [159, 160, 42, 161, 162, 163, 2, 164, 21, 165, 166, 167, 168, 169, 170, 23, 149, 150, 151, 50, 51, 52, 53, 54, 456, 457, 458, 459, 460, 461, 462, 463, 464, 465] (by decide +kernel) (by decide +kernel)) (goodIn_sub (fun _ h => List.mem_append_right _ h) (by decide +kernel))) (goodIn_sub (fun _ h => List.mem_append_left _ (List.mem_append_left _ (List.mem_append_right _ h))) (by decide +kernel))
set_option maxRecDepth 20000 in
theorem gL_law_L_setQuantity : GoodIn wsL_law (va_wsS RL 99 yL_setQuantity wsL_setQuantity) := goodIn_app (goodIn_of _ (by decide +kernel)) ggL_law_L_setQuantity
set_option maxRecDepth 20000 in
theorem ggL_law_X1_setQuantity : GoodIn wsL_law wsX1_setQuantity := goodIn_r _ [174, 35, 175, 176, 177, 5, 178, 156, 66, 67, 68, 69, 70, 71, 72, 73, 466, 467, 468, 469, 470, 471, 472, 473, 474, 475, 476] (by decide +kernel) (by decide +kernel)
set_option maxRecDepth 20000 in
theorem gL_law_X1_setQuantity : GoodIn wsL_law (wsV RL 101 RX1 yX1_setQuantity wsX1_setQuantity) := goodIn_app (goodIn_of _ (by decide +kernel)) ggL_law_X1_setQuantity
set_option maxRecDepth 20000 in
theorem ggL_law_L_put : GoodIn wsL_law wsL_put := goodIn_ca (goodIn_ca (goodIn_r _ [181, 160, 42, 182, 183, 184, 2, 185, 22, 165, 166, 167, 168, 169, 170, 23, 107, 108, 109, 50, 51, 52, 53, 54, 456, 457, 458, 459, 460, 461, 462, 463, 464, 465] (by decide +kernel) (by decide +kernel)) (goodIn_sub (fun _ h => List.mem_append_right _ h) (by decide +kernel))) (goodIn_sub (fun _ h => List.mem_append_left _ (List.mem_append_left _ (List.mem_append_right _ h))) (by decide +kernel))
set_option maxRecDepth 20000 in
theorem gL_law_L_put : GoodIn wsL_law (va_wsS RL 102 yL_put wsL_put) := goodIn_app (goodIn_of _ (by decide +kernel)) ggL_law_L_put
set_option maxRecDepth 20000 in
theorem ggL_law_X1_put : GoodIn wsL_law wsX1_put := goodIn_r _ [189, 36, 175, 176, 177, 5, 178, 156, 66, 67, 68, 130, 131, 132, 69, 70, 71, 72, 73, 466, 467, 468, 469, 470, 471, 472, 473, 474, 475, 476] (by decide +kernel) (by decide +kernel)
set_option maxRecDepth 20000 in
theorem gL_law_X1_put : GoodIn wsL_law (wsV RL 104 RX1 yX1_put wsX1_put) := goodIn_app (goodIn_of _ (by decide +kernel)) ggL_law_X1_put
set_option maxRecDepth 20000 in
theorem ggL_law_X0_goods : GoodIn wsL_law wsX0_goods := goodIn_r _ [193, 23, 456, 457, 458, 459, 460, 461, 462, 463, 464, 465] (by decide +kernel) (by decide +kernel)
set_option maxRecDepth 20000 in
theorem gL_law_X0_goods : GoodIn wsL_law (wsV RL 105 RX0 yX0_goods wsX0_goods) := goodIn_app (goodIn_of _ (by decide +kernel)) ggL_law_X0_goods
set_option maxRecDepth 20000 in
theorem ggL_law_X1_goods : GoodIn wsL_law wsX1_goods := goodIn_r _ [197, 73, 156, 466, 467, 468, 469, 470, 471, 472, 473, 474, 475, 476] (by decide +kernel) (by decide +kernel)
set_option maxRecDepth 20000 in
theorem gL_law_X1_goods : GoodIn wsL_law (wsV RL 108 RX1 yX1_goods wsX1_goods) := goodIn_app (goodIn_of _ (by decide +kernel)) ggL_law_X1_goods
set_option maxRecDepth 20000 in
theorem ggL_law_L_placeOf : GoodIn wsL_law wsL_placeOf := goodIn_ca (goodIn_r _ [200, 160, 201, 202, 203, 2, 204, 22, 165, 166, 167, 168, 169, 170, 23, 456, 457, 458, 459, 460, 461, 462, 463, 464, 465] (by decide +kernel) (by decide +kernel)) (goodIn_sub (fun _ h => List.mem_append_right _ h) (by decide +kernel))
set_option maxRecDepth 20000 in
theorem gL_law_L_placeOf : GoodIn wsL_law (va_wsS RL 109 yL_placeOf wsL_placeOf) := goodIn_app (goodIn_of _ (by decide +kernel)) ggL_law_L_placeOf
set_option maxRecDepth 20000 in
theorem ggL_law_X1_placeOf : GoodIn wsL_law wsX1_placeOf := goodIn_r _ [208, 36, 209, 210, 211, 5, 212, 175, 176, 177, 178, 156, 66, 67, 68, 69, 70, 71, 72, 73, 466, 467, 468, 469, 470, 471, 472, 473, 474, 475, 476] (by decide +kernel) (by decide +kernel)
set_option maxRecDepth 20000 in
theorem gL_law_X1_placeOf : GoodIn wsL_law (wsV RL 112 RX1 yX1_placeOf wsX1_placeOf) := goodIn_app (goodIn_of _ (by decide +kernel)) ggL_law_X1_placeOf
set_option maxRecDepth 20000 in
theorem ggL_law_L_isLimited : GoodIn wsL_law wsL_isLimited := goodIn_ca (goodIn_r _ [215, 160, 216, 217, 218, 2, 219, 165, 166, 167, 168, 169, 170, 23, 220, 221, 222, 223, 16, 15, 224, 225, 226, 227, 21, 20, 19, 456, 457, 458, 459, 460, 461, 462, 463, 464, 465] (by decide +kernel) (by decide +kernel)) (goodIn_sub (fun _ h => List.mem_append_right _ h) (by decide +kernel))
set_option maxRecDepth 20000 in
theorem gL_law_L_isLimited : GoodIn wsL_law (va_wsS RL 113 yL_isLimited wsL_isLimited) := goodIn_app (goodIn_of _ (by decide +kernel)) ggL_law_L_isLimited
set_option maxRecDepth 20000 in
theorem ggL_law_X1_isLimited : GoodIn wsL_law wsX1_isLimited := goodIn_r _ [231, 209, 210, 211, 5, 212, 175, 176, 177, 178, 156, 66, 67, 68, 69, 70, 71, 72, 73, 232, 233, 234, 235, 30, 236, 237, 238, 239, 31, 240, 241, 242, 243, 34, 35, 33, 466, 467, 468, 469, 470, 471, 472, 473, 474, 475, 476] (by decide +kernel) (by decide +kernel)

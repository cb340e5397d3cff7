set_option maxRecDepth 20000 in
theorem wsL_isRefused_r1_g : GoodIn wsL_law wsL_isRefused_r1 := goodIn_r _ [93, 94, 91, 95, 96, 97, 98, 99, 100, 101, 102, 103, 104, 105, 2, 106, 20, 107, 108, 109, 110, 19, 53, 54] (by decide +kernel) (by decide +kernel)
set_option maxRecDepth 20000 in
theorem wsL_isRefused_r2_g : GoodIn wsL_law wsL_isRefused_r2 := goodIn_r _ [55, 56, 57, 58, 59, 60, 61, 62, 63, 64, 65, 66, 67, 68, 69, 42, 43, 44, 70, 71, 72, 73, 74, 75] (by decide +kernel) (by decide +kernel)
set_option maxRecDepth 20000 in
theorem wsL_isRefused_r3_g : GoodIn wsL_law wsL_isRefused_r3 := goodIn_r _ [76, 34, 35, 36, 37, 13, 38, 39, 40, 41, 18, 17, 16, 77, 78, 79, 80, 81, 82, 83, 84, 11, 85, 86] (by decide +kernel) (by decide +kernel)
set_option maxRecDepth 20000 in
theorem wsL_isRefused_r4_g : GoodIn wsL_law wsL_isRefused_r4 := goodIn_r _ [87, 88, 12, 111, 112, 113, 114, 115, 116, 117, 118, 21, 49, 50, 51, 52, 30, 31, 32, 33, 45, 46, 47, 48] (by decide +kernel) (by decide +kernel)
set_option maxRecDepth 20000 in
theorem wsL_isRefused_r5_g : GoodIn wsL_law wsL_isRefused_r5 := goodIn_r _ [15, 119, 120, 121, 122, 123, 124, 125, 126, 127, 128, 129, 130, 131, 132, 133, 134, 135, 136, 137, 138, 139, 140, 141] (by decide +kernel) (by decide +kernel)
set_option maxRecDepth 20000 in
theorem wsL_isRefused_r6_g : GoodIn wsL_law wsL_isRefused_r6 := goodIn_r _ [142, 143, 144, 145, 146, 147, 148, 149, 150, 151, 152, 153, 154, 155, 156, 157, 158, 159, 160, 161, 162, 163, 164, 165] (by decide +kernel) (by decide +kernel)
set_option maxRecDepth 20000 in
theorem wsL_isRefused_r7_g : GoodIn wsL_law wsL_isRefused_r7 := goodIn_r _ [166, 167, 168, 169, 170, 171, 172, 173, 174, 175, 176, 177, 178, 179, 180, 181, 182, 183, 184, 185, 186, 187, 188, 189] (by decide +kernel) (by decide +kernel)
set_option maxRecDepth 20000 in
theorem wsL_isRefused_r8_g : GoodIn wsL_law wsL_isRefused_r8 := goodIn_r _ [190, 191, 192, 193, 194, 195, 196, 197, 198, 199, 200, 201, 202, 203, 204, 205, 206, 207, 208, 209, 210, 211, 212, 213] (by decide +kernel) (by decide +kernel)
set_option maxRecDepth 20000 in
theorem wsL_isRefused_r9_g : GoodIn wsL_law wsL_isRefused_r9 := goodIn_r _ [214, 215, 216, 217, 218, 219, 220, 221, 222, 223, 224, 225, 226, 227, 228, 229, 26, 27, 28, 29, 230, 231, 232, 233] (by decide +kernel) (by decide +kernel)
set_option maxRecDepth 20000 in
theorem wsL_isRefused_x_g : GoodIn wsL_law wsX00 := goodIn_r _ [264, 265, 266, 267, 268, 269, 270, 271, 272, 273] (by decide +kernel) (by decide +kernel)
set_option maxRecDepth 100000 in
theorem ggL_law_L_isRefused : GoodIn wsL_law wsL_isRefused := goodIn_ca (goodIn_ca (goodIn_ca (goodIn_c (List.mem_of_getElem? (i := 92) (Eq.refl _)) (by decide +kernel) (goodIn_app (goodIn_app wsL_isRefused_r1_g (goodIn_app wsL_isRefused_r2_g (goodIn_app wsL_isRefused_r3_g (goodIn_app wsL_isRefused_r4_g (goodIn_app wsL_isRefused_r5_g (goodIn_app wsL_isRefused_r6_g (goodIn_app wsL_isRefused_r7_g (goodIn_app wsL_isRefused_r8_g wsL_isRefused_r9_g)))))))) wsL_isRefused_x_g)) (goodIn_sub (fun _ h => List.mem_append_left _ (List.mem_append_left _ (List.mem_append_right _ h))) (by decide +kernel))) (goodIn_sub (fun _ h => List.mem_append_left _ (List.mem_append_right _ h)) (by decide +kernel))) (goodIn_sub (fun _ h => List.mem_append_right _ h) (by decide +kernel))
set_option maxRecDepth 20000 in
theorem gL_law_L_isRefused : GoodIn wsL_law (va_wsS RL 131 yL_isRefused wsL_isRefused) := goodIn_app (goodIn_of _ (by decide +kernel)) ggL_law_L_isRefused
set_option maxRecDepth 20000 in
theorem ggL_law_L_dice : GoodIn wsL_law wsL_dice := goodIn_r _ [236, 237, 238] (by decide +kernel) (by decide +kernel)
set_option maxRecDepth 20000 in
theorem gL_law_L_dice : GoodIn wsL_law (va_wsS RL 135 yL_dice wsL_dice) := goodIn_app (goodIn_of _ (by decide +kernel)) ggL_law_L_dice
set_option maxRecDepth 20000 in
theorem ggL_law_L_rule : GoodIn wsL_law wsL_rule := goodIn_ca (goodIn_ca (goodIn_r _ [167, 168, 169, 170, 171, 172, 2, 173, 11, 174, 175, 176, 177, 178, 179, 163, 164, 81, 82, 83, 84, 180, 181, 182, 183, 15, 184, 185, 186, 187, 188, 189, 190, 57, 58, 59, 60, 61, 62, 63, 64, 65, 66, 67, 68, 69, 42, 43, 44, 191, 192, 193, 194, 195, 196, 20, 16, 17, 18, 19, 197, 198, 199, 200, 201, 202, 264, 265, 266, 267, 268, 269, 270, 271, 272, 273] (by decide +kernel) (by decide +kernel)) (goodIn_sub (fun _ h => List.mem_append_left _ (List.mem_append_right _ h)) (by decide +kernel))) (goodIn_sub (fun _ h => List.mem_append_right _ h) (by decide +kernel))
set_option maxRecDepth 20000 in
theorem gL_law_L_rule : GoodIn wsL_law (va_wsS RL 120 yL_rule wsL_rule) := goodIn_app (goodIn_of _ (by decide +kernel)) ggL_law_L_rule
set_option maxRecDepth 20000 in
theorem ggL_law_X0_placeOf : GoodIn wsL_law wsX0_placeOf := goodIn_ca (goodIn_r _ [132, 19, 133, 134, 135, 2, 136, 137, 138, 20, 264, 265, 266, 267, 268, 269, 270, 271, 272, 273] (by decide +kernel) (by decide +kernel)) (goodIn_sub (fun _ h => List.mem_append_left _ (List.mem_append_left _ (List.mem_append_right _ h))) (by decide +kernel))
set_option maxRecDepth 20000 in
theorem gL_law_X0_placeOf : GoodIn wsL_law (wsV RL 40 RX0 yX0_placeOf wsX0_placeOf) := goodIn_app (goodIn_of _ (by decide +kernel)) ggL_law_X0_placeOf
set_option maxRecDepth 20000 in
theorem ggL_law_L_table : GoodIn wsL_law wsL_table := goodIn_r _ [241] (by decide +kernel) (by decide +kernel)
set_option maxRecDepth 20000 in
theorem gL_law_L_table : GoodIn wsL_law (va_wsS RL 72 yL_table wsL_table) := goodIn_app (goodIn_of _ (by decide +kernel)) ggL_law_L_table
set_option maxRecDepth 20000 in
theorem ggL_law_L_sets : GoodIn wsL_law wsL_sets := goodIn_r _ [244] (by decide +kernel) (by decide +kernel)
set_option maxRecDepth 20000 in
theorem gL_law_L_sets : GoodIn wsL_law (va_wsS RL 139 yL_sets wsL_sets) := goodIn_app (goodIn_of _ (by decide +kernel)) ggL_law_L_sets
set_option maxRecDepth 20000 in
theorem ggL_law_L_setQuantities : GoodIn wsL_law wsL_setQuantities := goodIn_ca (goodIn_r _ [205, 168, 206, 207, 208, 2, 209, 12, 13, 174, 175, 176, 177, 178, 179, 163, 164, 264, 265, 266, 267, 268, 269, 270, 271, 272, 273] (by decide +kernel) (by decide +kernel)) (goodIn_sub (fun _ h => List.mem_append_left _ (List.mem_append_right _ h)) (by decide +kernel))
set_option maxRecDepth 20000 in
theorem gL_law_L_setQuantities : GoodIn wsL_law (va_wsS RL 124 yL_setQuantities wsL_setQuantities) := goodIn_app (goodIn_of _ (by decide +kernel)) ggL_law_L_setQuantities

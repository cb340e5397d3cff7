set_option maxRecDepth 20000 in
theorem gL_law_X1_isLimited : GoodIn wsL_law (wsV RL 115 RX1 yX1_isLimited wsX1_isLimited) := goodIn_app (goodIn_of _ (by decide +kernel)) ggL_law_X1_isLimited
set_option maxRecDepth 20000 in
theorem ggL_law_L_isExcepted : GoodIn wsL_law wsL_isExcepted := goodIn_ca (goodIn_r _ [246, 160, 247, 248, 249, 2, 250, 165, 166, 167, 168, 169, 170, 23, 251, 252, 253, 254, 16, 224, 225, 226, 227, 21, 20, 19, 456, 457, 458, 459, 460, 461, 462, 463, 464, 465] (by decide +kernel) (by decide +kernel)) (goodIn_sub (fun _ h => List.mem_append_right _ h) (by decide +kernel))
set_option maxRecDepth 20000 in
theorem gL_law_L_isExcepted : GoodIn wsL_law (va_wsS RL 116 yL_isExcepted wsL_isExcepted) := goodIn_app (goodIn_of _ (by decide +kernel)) ggL_law_L_isExcepted
set_option maxRecDepth 20000 in
theorem ggL_law_X1_isExcepted : GoodIn wsL_law wsX1_isExcepted := goodIn_r _ [258, 209, 210, 211, 5, 212, 175, 176, 177, 178, 156, 66, 67, 68, 69, 70, 71, 72, 73, 236, 237, 238, 239, 31, 240, 241, 242, 243, 34, 35, 33, 466, 467, 468, 469, 470, 471, 472, 473, 474, 475, 476] (by decide +kernel) (by decide +kernel)
set_option maxRecDepth 20000 in
theorem gL_law_X1_isExcepted : GoodIn wsL_law (wsV RL 118 RX1 yX1_isExcepted wsX1_isExcepted) := goodIn_app (goodIn_of _ (by decide +kernel)) ggL_law_X1_isExcepted
set_option maxRecDepth 20000 in
theorem ggL_law_L_need : GoodIn wsL_law wsL_need := goodIn_ca (goodIn_ca (goodIn_r _ [261, 160, 42, 262, 263, 264, 2, 265, 266, 267, 268, 269, 53, 54, 165, 166, 167, 168, 169, 170, 23, 270, 271, 272, 273, 274, 275, 115, 276, 251, 252, 253, 254, 16, 224, 225, 226, 227, 21, 20, 19, 277, 278, 279, 280, 55, 56, 57, 58, 14, 220, 221, 222, 223, 15, 456, 457, 458, 459, 460, 461, 462, 463, 464, 465] (by decide +kernel) (by decide +kernel)) (goodIn_sub (fun _ h => List.mem_append_left _ (List.mem_append_left _ (List.mem_append_right _ h))) (by decide +kernel))) (goodIn_sub (fun _ h => List.mem_append_right _ h) (by decide +kernel))
set_option maxRecDepth 20000 in
theorem gL_law_L_need : GoodIn wsL_law (va_wsS RL 119 yL_need wsL_need) := goodIn_app (goodIn_of _ (by decide +kernel)) ggL_law_L_need
set_option maxRecDepth 20000 in
theorem ggL_law_X1_need : GoodIn wsL_law wsX1_need := goodIn_r _ [284, 285, 286, 287, 5, 288, 175, 176, 177, 178, 156, 66, 67, 68, 69, 70, 71, 72, 73, 289, 290, 291, 292, 33, 34, 293, 294, 295, 296, 29, 297, 298, 299, 236, 237, 238, 239, 31, 240, 241, 242, 243, 35, 232, 233, 234, 235, 30, 466, 467, 468, 469, 470, 471, 472, 473, 474, 475, 476] (by decide +kernel) (by decide +kernel)
set_option maxRecDepth 20000 in
theorem gL_law_X1_need : GoodIn wsL_law (wsV RL 121 RX1 yX1_need wsX1_need) := goodIn_app (goodIn_of _ (by decide +kernel)) ggL_law_X1_need
set_option maxRecDepth 20000 in
theorem ggL_law_L_areInBreach : GoodIn wsL_law wsL_areInBreach := goodIn_ca (goodIn_ca (goodIn_r _ [302, 160, 42, 303, 304, 305, 2, 306, 22, 266, 267, 268, 269, 53, 54, 165, 166, 167, 168, 169, 170, 23, 307, 308, 309, 310, 110, 111, 112, 113, 114, 115, 116, 117, 118, 119, 120, 121, 122, 123, 124, 125, 270, 271, 272, 273, 274, 275, 276, 251, 252, 253, 254, 16, 224, 225, 226, 227, 21, 20, 19, 277, 278, 279, 280, 55, 56, 57, 58, 14, 220, 221, 222, 223, 15, 456, 457, 458, 459, 460, 461, 462, 463, 464, 465] (by decide +kernel) (by decide +kernel)) (goodIn_sub (fun _ h => List.mem_append_left _ (List.mem_append_left _ (List.mem_append_right _ h))) (by decide +kernel))) (goodIn_sub (fun _ h => List.mem_append_right _ h) (by decide +kernel))
set_option maxRecDepth 20000 in
theorem gL_law_L_areInBreach : GoodIn wsL_law (va_wsS RL 122 yL_areInBreach wsL_areInBreach) := goodIn_app (goodIn_of _ (by decide +kernel)) ggL_law_L_areInBreach
set_option maxRecDepth 20000 in
theorem ggL_law_X1_areInBreach : GoodIn wsL_law wsX1_areInBreach := goodIn_r _ [314, 36, 285, 286, 287, 5, 288, 175, 176, 177, 178, 156, 66, 67, 68, 69, 70, 71, 72, 73, 315, 316, 317, 318, 133, 134, 135, 289, 290, 291, 292, 33, 34, 293, 294, 295, 296, 29, 297, 298, 299, 236, 237, 238, 239, 31, 240, 241, 242, 243, 35, 232, 233, 234, 235, 30, 466, 467, 468, 469, 470, 471, 472, 473, 474, 475, 476] (by decide +kernel) (by decide +kernel)
set_option maxRecDepth 20000 in
theorem gL_law_X1_areInBreach : GoodIn wsL_law (wsV RL 124 RX1 yX1_areInBreach wsX1_areInBreach) := goodIn_app (goodIn_of _ (by decide +kernel)) ggL_law_X1_areInBreach
set_option maxRecDepth 20000 in
theorem ggL_law_L_isMisplaced : GoodIn wsL_law wsL_isMisplaced := goodIn_ca (goodIn_r _ [321, 160, 322, 323, 324, 2, 325, 22, 165, 166, 167, 168, 169, 170, 23, 326, 327, 328, 329, 19, 20, 251, 252, 253, 254, 16, 224, 225, 226, 227, 21, 123, 124, 125, 330, 331, 332, 333, 18, 456, 457, 458, 459, 460, 461, 462, 463, 464, 465] (by decide +kernel) (by decide +kernel)) (goodIn_sub (fun _ h => List.mem_append_right _ h) (by decide +kernel))
set_option maxRecDepth 20000 in
theorem gL_law_L_isMisplaced : GoodIn wsL_law (va_wsS RL 125 yL_isMisplaced wsL_isMisplaced) := goodIn_app (goodIn_of _ (by decide +kernel)) ggL_law_L_isMisplaced
set_option maxRecDepth 20000 in
theorem ggL_law_X1_isMisplaced : GoodIn wsL_law wsX1_isMisplaced := goodIn_r _ [337, 36, 209, 210, 211, 5, 212, 175, 176, 177, 178, 156, 66, 67, 68, 69, 70, 71, 72, 73, 338, 339, 340, 341, 34, 32, 33, 236, 237, 238, 239, 31, 240, 241, 242, 243, 35, 466, 467, 468, 469, 470, 471, 472, 473, 474, 475, 476] (by decide +kernel) (by decide +kernel)
set_option maxRecDepth 20000 in
theorem gL_law_X1_isMisplaced : GoodIn wsL_law (wsV RL 127 RX1 yX1_isMisplaced wsX1_isMisplaced) := goodIn_app (goodIn_of _ (by decide +kernel)) ggL_law_X1_isMisplaced
set_option maxRecDepth 20000 in
theorem ggL_law_X0_breaches : GoodIn wsL_law wsX0_breaches := goodIn_r _ [345, 23, 22, 307, 308, 309, 2, 310, 110, 111, 112, 113, 114, 115, 116, 117, 118, 119, 120, 121, 122, 123, 124, 125, 270, 271, 272, 273, 274, 275, 276, 251, 252, 253, 254, 16, 224, 225, 226, 227, 21, 20, 19, 277, 278, 279, 280, 55, 56, 57, 58, 14, 220, 221, 222, 223, 15, 456, 457, 458, 459, 460, 461, 462, 463, 464, 465] (by decide +kernel) (by decide +kernel)
set_option maxRecDepth 20000 in
theorem gL_law_X0_breaches : GoodIn wsL_law (wsV RL 128 RX0 yX0_breaches wsX0_breaches) := goodIn_app (goodIn_of _ (by decide +kernel)) ggL_law_X0_breaches
set_option maxRecDepth 20000 in
theorem ggL_law_X1_breaches : GoodIn wsL_law wsX1_breaches := goodIn_r _ [349, 73, 156, 350, 351, 352, 5, 353, 36, 315, 316, 317, 318, 133, 134, 135, 289, 290, 291, 292, 33, 34, 293, 294, 295, 296, 29, 297, 298, 299, 236, 237, 238, 239, 31, 240, 241, 242, 243, 35, 232, 233, 234, 235, 30, 466, 467, 468, 469, 470, 471, 472, 473, 474, 475, 476] (by decide +kernel) (by decide +kernel)
set_option maxRecDepth 20000 in
theorem gL_law_X1_breaches : GoodIn wsL_law (wsV RL 131 RX1 yX1_breaches wsX1_breaches) := goodIn_app (goodIn_of _ (by decide +kernel)) ggL_law_X1_breaches
set_option maxRecDepth 20000 in
theorem ggL_law_L_inBreachWith : GoodIn wsL_law wsL_inBreachWith := goodIn_ca (goodIn_r _ [356, 160, 357, 358, 359, 2, 360, 22, 165, 166, 167, 168, 169, 170, 23, 361, 362, 363, 364, 307, 308, 309, 310, 110, 111, 112, 113, 114, 115, 116, 117, 118, 119, 120, 121, 122, 123, 124, 125, 270, 271, 272, 273, 274, 275, 276, 251, 252, 253, 254, 16, 224, 225, 226, 227, 21, 20, 19, 277, 278, 279, 280, 55, 56, 57, 58, 14, 220, 221, 222, 223, 15, 456, 457, 458, 459, 460, 461, 462, 463, 464, 465] (by decide +kernel) (by decide +kernel)) (goodIn_sub (fun _ h => List.mem_append_right _ h) (by decide +kernel))
set_option maxRecDepth 20000 in
theorem gL_law_L_inBreachWith : GoodIn wsL_law (va_wsS RL 132 yL_inBreachWith wsL_inBreachWith) := goodIn_app (goodIn_of _ (by decide +kernel)) ggL_law_L_inBreachWith
set_option maxRecDepth 20000 in
theorem ggL_law_X1_inBreachWith : GoodIn wsL_law wsX1_inBreachWith := goodIn_r _ [368, 209, 210, 211, 5, 212, 175, 176, 177, 178, 156, 66, 67, 68, 69, 70, 71, 72, 73, 350, 351, 352, 353, 36, 315, 316, 317, 318, 133, 134, 135, 289, 290, 291, 292, 33, 34, 293, 294, 295, 296, 29, 297, 298, 299, 236, 237, 238, 239, 31, 240, 241, 242, 243, 35, 232, 233, 234, 235, 30, 466, 467, 468, 469, 470, 471, 472, 473, 474, 475, 476] (by decide +kernel) (by decide +kernel)
set_option maxRecDepth 20000 in
theorem gL_law_X1_inBreachWith : GoodIn wsL_law (wsV RL 134 RX1 yX1_inBreachWith wsX1_inBreachWith) := goodIn_app (goodIn_of _ (by decide +kernel)) ggL_law_X1_inBreachWith
set_option maxRecDepth 20000 in
theorem ggL_law_X0_isClean : GoodIn wsL_law wsX0_isClean := goodIn_r _ [372, 23, 22, 373, 374, 375, 2, 376, 326, 327, 328, 329, 19, 20, 251, 252, 253, 254, 16, 224, 225, 226, 227, 21, 123, 124, 125, 330, 331, 332, 333, 18, 361, 362, 363, 364, 307, 308, 309, 310, 110, 111, 112, 113, 114, 115, 116, 117, 118, 119, 120, 121, 122, 270, 271, 272, 273, 274, 275, 276, 277, 278, 279, 280, 55, 56, 57, 58, 14, 220, 221, 222, 223, 15, 456, 457, 458, 459, 460, 461, 462, 463, 464, 465] (by decide +kernel) (by decide +kernel)
set_option maxRecDepth 20000 in
theorem gL_law_X0_isClean : GoodIn wsL_law (wsV RL 135 RX0 yX0_isClean wsX0_isClean) := goodIn_app (goodIn_of _ (by decide +kernel)) ggL_law_X0_isClean
set_option maxRecDepth 20000 in
theorem ggL_law_X1_isClean : GoodIn wsL_law wsX1_isClean := goodIn_r _ [380, 73, 381, 382, 383, 5, 384, 156, 37, 350, 351, 352, 353, 36, 315, 316, 317, 318, 133, 134, 135, 289, 290, 291, 292, 33, 34, 293, 294, 295, 296, 29, 297, 298, 299, 236, 237, 238, 239, 31, 240, 241, 242, 243, 35, 232, 233, 234, 235, 30, 385, 386, 387, 388, 338, 339, 340, 341, 32, 389, 390, 391, 392, 466, 467, 468, 469, 470, 471, 472, 473, 474, 475, 476] (by decide +kernel) (by decide +kernel)
set_option maxRecDepth 20000 in
theorem gL_law_X1_isClean : GoodIn wsL_law (wsV RL 139 RX1 yX1_isClean wsX1_isClean) := goodIn_app (goodIn_of _ (by decide +kernel)) ggL_law_X1_isClean
set_option maxRecDepth 20000 in
theorem ggL_law_L_canPut : GoodIn wsL_law wsL_canPut := goodIn_ca (goodIn_ca (goodIn_r _ [395, 160, 42, 396, 397, 398, 2, 399, 165, 166, 167, 168, 169, 170, 23, 107, 108, 109, 50, 51, 52, 53, 54, 373, 374, 375, 376, 326, 327, 328, 329, 19, 20, 251, 252, 253, 254, 16, 224, 225, 226, 227, 21, 123, 124, 125, 330, 331, 332, 333, 18, 361, 362, 363, 364, 307, 308, 309, 310, 22, 110, 111, 112, 113, 114, 115, 116, 117, 118, 119, 120, 121, 122, 270, 271, 272, 273, 274, 275, 276, 277, 278, 279, 280, 55, 56, 57, 58, 14, 220, 221, 222, 223, 15, 456, 457, 458, 459, 460, 461, 462, 463, 464, 465] (by decide +kernel) (by decide +kernel)) (goodIn_sub (fun _ h => List.mem_append_right _ h) (by decide +kernel))) (goodIn_sub (fun _ h => List.mem_append_left _ (List.mem_append_left _ (List.mem_append_right _ h))) (by decide +kernel))
set_option maxRecDepth 20000 in
theorem gL_law_L_canPut : GoodIn wsL_law (va_wsS RL 140 yL_canPut wsL_canPut) := goodIn_app (goodIn_of _ (by decide +kernel)) ggL_law_L_canPut
set_option maxRecDepth 20000 in
theorem ggL_law_X1_canPut : GoodIn wsL_law wsX1_canPut := goodIn_r _ [403, 175, 176, 177, 5, 178, 156, 66, 67, 68, 130, 131, 132, 69, 70, 71, 72, 73, 404, 405, 406, 407, 338, 339, 340, 341, 34, 32, 33, 236, 237, 238, 239, 31, 240, 241, 242, 243, 35, 315, 316, 317, 318, 36, 133, 134, 135, 289, 290, 291, 292, 293, 294, 295, 296, 29, 297, 298, 299, 232, 233, 234, 235, 30, 466, 467, 468, 469, 470, 471, 472, 473, 474, 475, 476] (by decide +kernel) (by decide +kernel)
set_option maxRecDepth 20000 in
theorem gL_law_X1_canPut : GoodIn wsL_law (wsV RL 142 RX1 yX1_canPut wsX1_canPut) := goodIn_app (goodIn_of _ (by decide +kernel)) ggL_law_X1_canPut
set_option maxRecDepth 20000 in
theorem ggL_law_L_placeFor : GoodIn wsL_law wsL_placeFor := goodIn_ca (goodIn_r _ [410, 160, 411, 412, 413, 2, 414, 165, 166, 167, 168, 169, 170, 23, 373, 374, 375, 376, 326, 327, 328, 329, 19, 20, 251, 252, 253, 254, 16, 224, 225, 226, 227, 21, 123, 124, 125, 330, 331, 332, 333, 18, 361, 362, 363, 364, 307, 308, 309, 310, 22, 110, 111, 112, 113, 114, 115, 116, 117, 118, 119, 120, 121, 122, 270, 271, 272, 273, 274, 275, 276, 277, 278, 279, 280, 55, 56, 57, 58, 14, 220, 221, 222, 223, 15, 456, 457, 458, 459, 460, 461, 462, 463, 464, 465] (by decide +kernel) (by decide +kernel)) (goodIn_sub (fun _ h => List.mem_append_right _ h) (by decide +kernel))
set_option maxRecDepth 20000 in
theorem gL_law_L_placeFor : GoodIn wsL_law (va_wsS RL 143 yL_placeFor wsL_placeFor) := goodIn_app (goodIn_of _ (by decide +kernel)) ggL_law_L_placeFor
set_option maxRecDepth 20000 in
theorem ggL_law_X1_placeFor : GoodIn wsL_law wsX1_placeFor := goodIn_r _ [418, 209, 210, 211, 5, 212, 175, 176, 177, 178, 156, 66, 67, 68, 69, 70, 71, 72, 73, 404, 405, 406, 407, 338, 339, 340, 341, 34, 32, 33, 236, 237, 238, 239, 31, 240, 241, 242, 243, 35, 315, 316, 317, 318, 36, 133, 134, 135, 289, 290, 291, 292, 293, 294, 295, 296, 29, 297, 298, 299, 232, 233, 234, 235, 30, 466, 467, 468, 469, 470, 471, 472, 473, 474, 475, 476] (by decide +kernel) (by decide +kernel)
set_option maxRecDepth 20000 in
theorem gL_law_X1_placeFor : GoodIn wsL_law (wsV RL 145 RX1 yX1_placeFor wsX1_placeFor) := goodIn_app (goodIn_of _ (by decide +kernel)) ggL_law_X1_placeFor
set_option maxRecDepth 20000 in
theorem ggL_law_X0_fewest : GoodIn wsL_law wsX0_fewest := goodIn_r _ [422, 423, 424, 425, 2, 426, 23, 24, 22, 361, 362, 363, 364, 307, 308, 309, 310, 110, 111, 112, 113, 114, 115, 116, 117, 118, 119, 120, 121, 122, 123, 124, 125, 270, 271, 272, 273, 274, 275, 276, 251, 252, 253, 254, 16, 224, 225, 226, 227, 21, 20, 19, 277, 278, 279, 280, 55, 56, 57, 58, 14, 220, 221, 222, 223, 15, 326, 327, 328, 329, 330, 331, 332, 333, 18, 427, 428, 429, 430, 431, 432, 433, 434, 435, 436, 456, 457, 458, 459, 460, 461, 462, 463, 464, 465] (by decide +kernel) (by decide +kernel)
set_option maxRecDepth 20000 in
theorem gL_law_X0_fewest : GoodIn wsL_law (wsV RL 146 RX0 yX0_fewest wsX0_fewest) := goodIn_app (goodIn_of _ (by decide +kernel)) ggL_law_X0_fewest
set_option maxRecDepth 20000 in
theorem ggL_law_X1_fewest : GoodIn wsL_law wsX1_fewest := goodIn_r _ [440, 73, 441, 442, 443, 5, 444, 156, 36, 381, 382, 383, 384, 37, 350, 351, 352, 353, 315, 316, 317, 318, 133, 134, 135, 289, 290, 291, 292, 33, 34, 293, 294, 295, 296, 29, 297, 298, 299, 236, 237, 238, 239, 31, 240, 241, 242, 243, 35, 232, 233, 234, 235, 30, 385, 386, 387, 388, 338, 339, 340, 341, 32, 445, 446, 447, 389, 390, 391, 392, 466, 467, 468, 469, 470, 471, 472, 473, 474, 475, 476] (by decide +kernel) (by decide +kernel)
set_option maxRecDepth 20000 in
theorem gL_law_X1_fewest : GoodIn wsL_law (wsV RL 149 RX1 yX1_fewest wsX1_fewest) := goodIn_app (goodIn_of _ (by decide +kernel)) ggL_law_X1_fewest
set_option maxRecDepth 20000 in
theorem ggL_law_X0_leaving : GoodIn wsL_law wsX0_leaving := goodIn_r _ [451, 423, 424, 425, 2, 426, 23, 24, 22, 361, 362, 363, 364, 307, 308, 309, 310, 110, 111, 112, 113, 114, 115, 116, 117, 118, 119, 120, 121, 122, 123, 124, 125, 270, 271, 272, 273, 274, 275, 276, 251, 252, 253, 254, 16, 224, 225, 226, 227, 21, 20, 19, 277, 278, 279, 280, 55, 56, 57, 58, 14, 220, 221, 222, 223, 15, 326, 327, 328, 329, 330, 331, 332, 333, 18, 427, 428, 429, 430, 431, 432, 433, 434, 435, 436, 456, 457, 458, 459, 460, 461, 462, 463, 464, 465] (by decide +kernel) (by decide +kernel)
set_option maxRecDepth 20000 in
theorem gL_law_X0_leaving : GoodIn wsL_law (wsV RL 150 RX0 yX0_leaving wsX0_leaving) := goodIn_app (goodIn_of _ (by decide +kernel)) ggL_law_X0_leaving
set_option maxRecDepth 20000 in
theorem ggL_law_X1_leaving : GoodIn wsL_law wsX1_leaving := goodIn_r _ [455, 73, 441, 442, 443, 5, 444, 156, 36, 381, 382, 383, 384, 37, 350, 351, 352, 353, 315, 316, 317, 318, 133, 134, 135, 289, 290, 291, 292, 33, 34, 293, 294, 295, 296, 29, 297, 298, 299, 236, 237, 238, 239, 31, 240, 241, 242, 243, 35, 232, 233, 234, 235, 30, 385, 386, 387, 388, 338, 339, 340, 341, 32, 445, 446, 447, 389, 390, 391, 392, 466, 467, 468, 469, 470, 471, 472, 473, 474, 475, 476] (by decide +kernel) (by decide +kernel)
set_option maxRecDepth 20000 in
theorem gL_law_X1_leaving : GoodIn wsL_law (wsV RL 153 RX1 yX1_leaving wsX1_leaving) := goodIn_app (goodIn_of _ (by decide +kernel)) ggL_law_X1_leaving

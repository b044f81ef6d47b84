set_option maxRecDepth 20000 in
theorem ggL_law_X6_deliver : GoodIn wsL_law wsX6_deliver := goodIn_r _ [395, 221, 28, 396, 397, 398, 399, 2, 400, 116, 117, 118, 119, 38, 120, 121, 122, 401, 402, 403, 27, 404, 83, 352, 142, 143, 36, 144, 60, 405, 406, 407, 408, 84, 409, 410, 411, 412, 413, 56, 57, 58, 353, 168, 169, 170, 414, 415, 416, 417, 23, 37, 15, 418, 343, 344, 345, 22, 346, 77, 347, 222, 419, 420, 421, 14, 422, 45, 149, 299, 423, 192, 193, 354, 194, 195, 572, 573, 574, 575, 576, 577, 578, 579, 580, 595, 596, 601, 594, 581, 582, 583, 584, 585, 586, 587, 588] (by decide +kernel) (by decide +kernel)
set_option maxRecDepth 20000 in
theorem gL_law_X6_deliver : GoodIn wsL_law (wsV RL 86 RX6 yX6_deliver wsX6_deliver) := goodIn_app (goodIn_of _ (by decide +kernel)) ggL_law_X6_deliver
set_option maxRecDepth 20000 in
theorem ggL_law_X6_knows : GoodIn wsL_law wsX6_knows := goodIn_r _ [473, 221, 15, 396, 23, 116, 117, 118, 2, 119, 38, 120, 121, 122, 228, 229, 230, 14, 231, 43, 149, 142, 143, 36, 144, 60, 363, 308, 309, 436, 151, 152, 22, 153, 77, 154, 572, 573, 574, 575, 576, 577, 578, 579, 580, 581, 582, 583, 584, 585, 586, 587, 588, 601, 594] (by decide +kernel) (by decide +kernel)
set_option maxRecDepth 20000 in
theorem gL_law_X6_knows : GoodIn wsL_law (wsV RL 19 RX6 yX6_knows wsX6_knows) := goodIn_app (goodIn_of _ (by decide +kernel)) ggL_law_X6_knows
set_option maxRecDepth 20000 in
theorem ggL_law_L_repairs_c0 : GoodIn wsL_law [Cond.code yL_repairs cL_repairs 10 (some .boolean)] := goodIn_r _ [551] (by decide +kernel) (by decide +kernel)
set_option maxRecDepth 20000 in
theorem ggL_law_L_repairs_c1 : GoodIn wsL_law wsL_repairs_r1 := goodIn_r _ [5, 217, 218, 219, 2, 220, 221, 37, 23, 15, 32, 19, 116, 117, 118, 119, 38, 120, 121, 122, 222, 142, 143, 36] (by decide +kernel) (by decide +kernel)
set_option maxRecDepth 20000 in
theorem ggL_law_L_repairs_c2 : GoodIn wsL_law wsL_repairs_r2 := goodIn_r _ [144, 60, 223, 224, 225, 22, 226, 227, 151, 152, 153, 77, 154, 228, 229, 230, 14, 231, 43, 149, 123, 124, 125, 31] (by decide +kernel) (by decide +kernel)
set_option maxRecDepth 20000 in
theorem ggL_law_L_repairs_c3 : GoodIn wsL_law wsL_repairs_r3 := goodIn_r _ [126, 90, 91, 127, 128, 129, 130, 131, 132, 133, 134, 135, 136, 137, 138, 139, 140, 141, 145, 146, 147, 148, 48, 150] (by decide +kernel) (by decide +kernel)
set_option maxRecDepth 20000 in
theorem ggL_law_L_repairs_c4 : GoodIn wsL_law wsL_repairs_r4 := goodIn_r _ [155, 156, 157, 158, 159, 160, 161, 162, 46, 163, 164, 165, 166, 44, 167, 168, 169, 170, 171, 172, 173, 174, 47, 175] (by decide +kernel) (by decide +kernel)
set_option maxRecDepth 20000 in
theorem ggL_law_L_repairs_c5 : GoodIn wsL_law wsL_repairs_r5 := goodIn_r _ [176, 177, 178, 92, 179, 180, 181, 182, 183, 184, 185, 186, 187, 232, 233, 234, 235, 236, 206, 207, 18, 208, 66, 200] (by decide +kernel) (by decide +kernel)
set_option maxRecDepth 20000 in
theorem ggL_law_L_repairs_c6 : GoodIn wsL_law wsL_repairs_r6 := goodIn_r _ [513, 514, 515, 516, 396, 517, 518, 519, 520, 441, 442, 443, 444, 445, 446, 447, 448, 449, 450, 451, 452, 192, 193, 194] (by decide +kernel) (by decide +kernel)
set_option maxRecDepth 20000 in
theorem ggL_law_L_repairs_c7 : GoodIn wsL_law wsL_repairs_r7 := goodIn_r _ [195, 308, 309, 436, 437, 438, 439, 440, 397, 398, 399, 400, 414, 415, 416, 417, 418, 56, 57, 58, 343, 344, 345, 346] (by decide +kernel) (by decide +kernel)
set_option maxRecDepth 20000 in
theorem ggL_law_L_repairs_c8 : GoodIn wsL_law wsL_repairs_r8 := goodIn_r _ [347, 419, 420, 421, 422, 45, 299, 108, 109, 110, 111, 432, 433, 434, 435, 363, 470, 471, 472, 473] (by decide +kernel) (by decide +kernel)
set_option maxRecDepth 20000 in
theorem ggL_law_L_repairs_c9 : GoodIn wsL_law wsX60 := goodIn_r _ [572, 573, 574, 575, 576, 577, 578, 579, 580] (by decide +kernel) (by decide +kernel)
set_option maxRecDepth 20000 in
theorem ggL_law_L_repairs_c10 : GoodIn wsL_law wsX50 := goodIn_r _ [601] (by decide +kernel) (by decide +kernel)
set_option maxRecDepth 20000 in
theorem ggL_law_L_repairs_c11 : GoodIn wsL_law wsX20 := goodIn_r _ [594] (by decide +kernel) (by decide +kernel)
set_option maxRecDepth 20000 in
theorem ggL_law_L_repairs_c12 : GoodIn wsL_law wsX40 := goodIn_r _ [581, 582, 583, 584, 585, 586, 587, 588] (by decide +kernel) (by decide +kernel)
set_option maxRecDepth 20000 in
theorem ggL_law_L_repairs_c13 : GoodIn wsL_law wsX00 := goodIn_r _ [597, 598, 599, 600] (by decide +kernel) (by decide +kernel)
set_option maxRecDepth 20000 in
theorem ggL_law_L_repairs_c14 : GoodIn wsL_law wsX10 := goodIn_r _ [589, 590, 591, 592, 593] (by decide +kernel) (by decide +kernel)
set_option maxRecDepth 20000 in
theorem ggL_law_L_repairs : GoodIn wsL_law wsL_repairs := (goodIn_app ggL_law_L_repairs_c0 (goodIn_app (goodIn_app (goodIn_app (goodIn_app (goodIn_app (goodIn_app (goodIn_app ggL_law_L_repairs_c1 (goodIn_app ggL_law_L_repairs_c2 (goodIn_app ggL_law_L_repairs_c3 (goodIn_app ggL_law_L_repairs_c4 (goodIn_app ggL_law_L_repairs_c5 (goodIn_app ggL_law_L_repairs_c6 (goodIn_app ggL_law_L_repairs_c7 ggL_law_L_repairs_c8))))))) ggL_law_L_repairs_c9) ggL_law_L_repairs_c10) ggL_law_L_repairs_c11) ggL_law_L_repairs_c12) ggL_law_L_repairs_c13) ggL_law_L_repairs_c14) : GoodIn wsL_law ([Cond.code yL_repairs cL_repairs 10 (some .boolean)] ++ _))
set_option maxRecDepth 20000 in
theorem gL_law_L_repairs : GoodIn wsL_law (va_wsS RL 114 yL_repairs wsL_repairs) := goodIn_app (goodIn_of _ (by decide +kernel)) ggL_law_L_repairs
set_option maxRecDepth 20000 in
theorem ggL_law_L_transfers_c0 : GoodIn wsL_law [Cond.code yL_transfers cL_transfers 6 (some .boolean)] := goodIn_r _ [554] (by decide +kernel) (by decide +kernel)
set_option maxRecDepth 20000 in
theorem ggL_law_L_transfers_c1 : GoodIn wsL_law wsL_transfers_r1 := goodIn_r _ [108, 109, 110, 2, 111, 38, 217, 218, 219, 220, 221, 37, 23, 15, 32, 19, 116, 117, 118, 119, 120, 121, 122, 222] (by decide +kernel) (by decide +kernel)
set_option maxRecDepth 20000 in
theorem ggL_law_L_transfers_c2 : GoodIn wsL_law wsL_transfers_r2 := goodIn_r _ [142, 143, 36, 144, 60, 223, 224, 225, 22, 226, 227, 151, 152, 153, 77, 154, 228, 229, 230, 14, 231, 43, 149, 123] (by decide +kernel) (by decide +kernel)
set_option maxRecDepth 20000 in
theorem ggL_law_L_transfers_c3 : GoodIn wsL_law wsL_transfers_r3 := goodIn_r _ [124, 125, 31, 126, 90, 91, 127, 128, 129, 130, 131, 132, 133, 134, 135, 136, 137, 138, 139, 140, 141, 145, 146, 147] (by decide +kernel) (by decide +kernel)
set_option maxRecDepth 20000 in
theorem ggL_law_L_transfers_c4 : GoodIn wsL_law wsL_transfers_r4 := goodIn_r _ [148, 48, 150, 155, 156, 157, 158, 159, 160, 161, 162, 46, 163, 164, 165, 166, 44, 167, 168, 169, 170, 171, 172, 173] (by decide +kernel) (by decide +kernel)

set_option maxRecDepth 20000 in
theorem ggL_law_L_transfers_c5 : GoodIn wsL_law wsL_transfers_r5 := goodIn_r _ [174, 47, 175, 176, 177, 178, 92, 179, 180, 181, 182, 183, 184, 185, 186, 187, 232, 233, 234, 235, 236, 206, 207, 18] (by decide +kernel) (by decide +kernel)
set_option maxRecDepth 20000 in
theorem ggL_law_L_transfers_c6 : GoodIn wsL_law wsL_transfers_r6 := goodIn_r _ [208, 66, 200, 470, 471, 472, 473, 396, 363, 308, 309, 436, 465, 466, 467, 468, 382, 419, 420, 421, 422, 45, 457, 458] (by decide +kernel) (by decide +kernel)
set_option maxRecDepth 20000 in
theorem ggL_law_L_transfers_c7 : GoodIn wsL_law wsL_transfers_r7 := goodIn_r _ [459, 460, 50, 461, 462, 463, 464, 334, 210, 211, 212, 69, 335, 214, 215, 216, 70, 364, 383, 354, 194, 195, 423, 192] (by decide +kernel) (by decide +kernel)
set_option maxRecDepth 20000 in
theorem ggL_law_L_transfers_c8 : GoodIn wsL_law wsL_transfers_r8 := goodIn_r _ [193, 469, 453, 454, 455, 456, 418, 56, 57, 58, 397, 398, 399, 400, 414, 415, 416, 417, 343, 344, 345, 346, 347, 299] (by decide +kernel) (by decide +kernel)
set_option maxRecDepth 20000 in
theorem ggL_law_L_transfers_c9 : GoodIn wsL_law wsX60 := goodIn_r _ [572, 573, 574, 575, 576, 577, 578, 579, 580] (by decide +kernel) (by decide +kernel)
set_option maxRecDepth 20000 in
theorem ggL_law_L_transfers_c10 : GoodIn wsL_law wsX50 := goodIn_r _ [601] (by decide +kernel) (by decide +kernel)
set_option maxRecDepth 20000 in
theorem ggL_law_L_transfers_c11 : GoodIn wsL_law wsX20 := goodIn_r _ [594] (by decide +kernel) (by decide +kernel)
set_option maxRecDepth 20000 in
theorem ggL_law_L_transfers_c12 : GoodIn wsL_law wsX40 := goodIn_r _ [581, 582, 583, 584, 585, 586, 587, 588] (by decide +kernel) (by decide +kernel)
set_option maxRecDepth 20000 in
theorem ggL_law_L_transfers_c13 : GoodIn wsL_law wsX00 := goodIn_r _ [597, 598, 599, 600] (by decide +kernel) (by decide +kernel)
set_option maxRecDepth 20000 in
theorem ggL_law_L_transfers_c14 : GoodIn wsL_law wsX10 := goodIn_r _ [589, 590, 591, 592, 593] (by decide +kernel) (by decide +kernel)
set_option maxRecDepth 20000 in
theorem ggL_law_L_transfers : GoodIn wsL_law wsL_transfers := (goodIn_app ggL_law_L_transfers_c0 (goodIn_app (goodIn_app (goodIn_app (goodIn_app (goodIn_app (goodIn_app (goodIn_app ggL_law_L_transfers_c1 (goodIn_app ggL_law_L_transfers_c2 (goodIn_app ggL_law_L_transfers_c3 (goodIn_app ggL_law_L_transfers_c4 (goodIn_app ggL_law_L_transfers_c5 (goodIn_app ggL_law_L_transfers_c6 (goodIn_app ggL_law_L_transfers_c7 ggL_law_L_transfers_c8))))))) ggL_law_L_transfers_c9) ggL_law_L_transfers_c10) ggL_law_L_transfers_c11) ggL_law_L_transfers_c12) ggL_law_L_transfers_c13) ggL_law_L_transfers_c14) : GoodIn wsL_law ([Cond.code yL_transfers cL_transfers 6 (some .boolean)] ++ _))
set_option maxRecDepth 20000 in
theorem gL_law_L_transfers : GoodIn wsL_law (va_wsS RL 117 yL_transfers wsL_transfers) := goodIn_app (goodIn_of _ (by decide +kernel)) ggL_law_L_transfers
set_option maxRecDepth 20000 in
theorem ggL_law_X6_deliverAll : GoodIn wsL_law wsX6_deliverAll := goodIn_r _ [558, 38, 559, 560, 561, 2, 562, 28, 401, 402, 403, 27, 404, 83, 352, 142, 143, 36, 144, 60, 405, 406, 407, 408, 84, 414, 415, 416, 417, 23, 37, 15, 418, 56, 57, 58, 343, 344, 345, 22, 346, 77, 347, 168, 169, 170, 222, 419, 420, 421, 14, 422, 45, 149, 299, 409, 410, 411, 412, 413, 353, 572, 573, 574, 575, 576, 577, 578, 579, 580, 595, 596, 601, 594, 581, 582, 583, 584, 585, 586, 587, 588] (by decide +kernel) (by decide +kernel)
set_option maxRecDepth 20000 in
theorem gL_law_X6_deliverAll : GoodIn wsL_law (wsV RL 120 RX6 yX6_deliverAll wsX6_deliverAll) := goodIn_app (goodIn_of _ (by decide +kernel)) ggL_law_X6_deliverAll
set_option maxRecDepth 20000 in
theorem ggL_law_L_sound_c0 : GoodIn wsL_law [Cond.code yL_sound cL_sound 9 (some .boolean)] := goodIn_r _ [565] (by decide +kernel) (by decide +kernel)
set_option maxRecDepth 20000 in
theorem ggL_law_L_sound_c1 : GoodIn wsL_law wsL_sound_r1 := goodIn_r _ [5, 217, 218, 219, 2, 220, 221, 37, 23, 15, 32, 19, 116, 117, 118, 119, 38, 120, 121, 122, 222, 142, 143, 36] (by decide +kernel) (by decide +kernel)
set_option maxRecDepth 20000 in
theorem ggL_law_L_sound_c2 : GoodIn wsL_law wsL_sound_r2 := goodIn_r _ [144, 60, 223, 224, 225, 22, 226, 227, 151, 152, 153, 77, 154, 228, 229, 230, 14, 231, 43, 149, 123, 124, 125, 31] (by decide +kernel) (by decide +kernel)
set_option maxRecDepth 20000 in
theorem ggL_law_L_sound_c3 : GoodIn wsL_law wsL_sound_r3 := goodIn_r _ [126, 90, 91, 127, 128, 129, 130, 131, 132, 133, 134, 135, 136, 137, 138, 139, 140, 141, 145, 146, 147, 148, 48, 150] (by decide +kernel) (by decide +kernel)
set_option maxRecDepth 20000 in
theorem ggL_law_L_sound_c4 : GoodIn wsL_law wsL_sound_r4 := goodIn_r _ [155, 156, 157, 158, 159, 160, 161, 162, 46, 163, 164, 165, 166, 44, 167, 168, 169, 170, 171, 172, 173, 174, 47, 175] (by decide +kernel) (by decide +kernel)
set_option maxRecDepth 20000 in
theorem ggL_law_L_sound_c5 : GoodIn wsL_law wsL_sound_r5 := goodIn_r _ [176, 177, 178, 92, 179, 180, 181, 182, 183, 184, 185, 186, 187, 232, 233, 234, 235, 236, 206, 207, 18, 208, 66, 200] (by decide +kernel) (by decide +kernel)
set_option maxRecDepth 20000 in
theorem ggL_law_L_sound_c6 : GoodIn wsL_law wsL_sound_r6 := goodIn_r _ [465, 466, 467, 468, 396, 363, 308, 309, 382, 419, 420, 421, 422, 45, 457, 458, 459, 460, 50, 461, 462, 463, 464, 334] (by decide +kernel) (by decide +kernel)
set_option maxRecDepth 20000 in
theorem ggL_law_L_sound_c7 : GoodIn wsL_law wsL_sound_r7 := goodIn_r _ [210, 211, 212, 69, 335, 214, 215, 216, 70, 364, 383, 354, 194, 195, 423, 192, 193, 469, 470, 471, 472, 473, 436, 474] (by decide +kernel) (by decide +kernel)
set_option maxRecDepth 20000 in
theorem ggL_law_L_sound_c8 : GoodIn wsL_law wsL_sound_r8 := goodIn_r _ [475, 476, 477, 388, 389, 390, 391, 478, 479, 480, 481, 285, 286, 482, 483, 484, 485, 486, 487, 488, 489, 490, 197, 198] (by decide +kernel) (by decide +kernel)
set_option maxRecDepth 20000 in
theorem ggL_law_L_sound_c9 : GoodIn wsL_law wsL_sound_r9 := goodIn_r _ [199, 67, 521, 522, 523, 524, 28, 525, 526, 527, 528, 529, 530, 531, 27, 532, 83, 84, 352, 432, 433, 434, 435, 513] (by decide +kernel) (by decide +kernel)
set_option maxRecDepth 20000 in
theorem ggL_law_L_sound_c10 : GoodIn wsL_law wsL_sound_r10 := goodIn_r _ [514, 515, 516, 517, 518, 519, 520, 441, 442, 443, 444, 445, 446, 447, 448, 449, 450, 451, 452, 499, 500, 501, 502, 503] (by decide +kernel) (by decide +kernel)
set_option maxRecDepth 20000 in
theorem ggL_law_L_sound_c11 : GoodIn wsL_law wsL_sound_r11 := goodIn_r _ [504, 505, 506, 33, 507, 508, 509, 510, 511, 512] (by decide +kernel) (by decide +kernel)
set_option maxRecDepth 20000 in
theorem ggL_law_L_sound_c12 : GoodIn wsL_law wsX60 := goodIn_r _ [572, 573, 574, 575, 576, 577, 578, 579, 580] (by decide +kernel) (by decide +kernel)
set_option maxRecDepth 20000 in
theorem ggL_law_L_sound_c13 : GoodIn wsL_law wsX50 := goodIn_r _ [601] (by decide +kernel) (by decide +kernel)
set_option maxRecDepth 20000 in
theorem ggL_law_L_sound_c14 : GoodIn wsL_law wsX20 := goodIn_r _ [594] (by decide +kernel) (by decide +kernel)

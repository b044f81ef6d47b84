set_option maxRecDepth 20000 in
theorem ggL_law_L_sound_c15 : GoodIn wsL_law wsX40 := goodIn_r _ [581, 582, 583, 584, 585, 586, 587, 588] (by decide +kernel) (by decide +kernel)
set_option maxRecDepth 20000 in
theorem ggL_law_L_sound_c16 : GoodIn wsL_law wsX00 := goodIn_r _ [597, 598, 599, 600] (by decide +kernel) (by decide +kernel)
set_option maxRecDepth 20000 in
theorem ggL_law_L_sound_c17 : GoodIn wsL_law wsX10 := goodIn_r _ [589, 590, 591, 592, 593] (by decide +kernel) (by decide +kernel)
set_option maxRecDepth 20000 in
theorem ggL_law_L_sound_c18 : GoodIn wsL_law wsX30 := goodIn_r _ [595, 596] (by decide +kernel) (by decide +kernel)
set_option maxRecDepth 20000 in
theorem ggL_law_L_sound : GoodIn wsL_law wsL_sound := (goodIn_app ggL_law_L_sound_c0 (goodIn_app (goodIn_app (goodIn_app (goodIn_app (goodIn_app (goodIn_app (goodIn_app (goodIn_app ggL_law_L_sound_c1 (goodIn_app ggL_law_L_sound_c2 (goodIn_app ggL_law_L_sound_c3 (goodIn_app ggL_law_L_sound_c4 (goodIn_app ggL_law_L_sound_c5 (goodIn_app ggL_law_L_sound_c6 (goodIn_app ggL_law_L_sound_c7 (goodIn_app ggL_law_L_sound_c8 (goodIn_app ggL_law_L_sound_c9 (goodIn_app ggL_law_L_sound_c10 ggL_law_L_sound_c11)))))))))) ggL_law_L_sound_c12) ggL_law_L_sound_c13) ggL_law_L_sound_c14) ggL_law_L_sound_c15) ggL_law_L_sound_c16) ggL_law_L_sound_c17) ggL_law_L_sound_c18) : GoodIn wsL_law ([Cond.code yL_sound cL_sound 9 (some .boolean)] ++ _))
set_option maxRecDepth 20000 in
theorem gL_law_L_sound : GoodIn wsL_law (va_wsS RL 123 yL_sound wsL_sound) := goodIn_app (goodIn_of _ (by decide +kernel)) ggL_law_L_sound
set_option maxRecDepth 20000 in
theorem ggL_law_L_pairs_c0 : GoodIn wsL_law [Cond.code yL_pairs cL_pairs 4 (some .boolean)] := goodIn_r _ [568] (by decide +kernel) (by decide +kernel)
set_option maxRecDepth 20000 in
theorem ggL_law_L_pairs_c1 : GoodIn wsL_law wsL_pairs_r1 := goodIn_r _ [108, 109, 110, 2, 111, 38, 499, 500, 501, 502, 221, 23, 116, 117, 118, 119, 120, 121, 122, 503, 504, 505, 506, 32] (by decide +kernel) (by decide +kernel)
set_option maxRecDepth 20000 in
theorem ggL_law_L_pairs_c2 : GoodIn wsL_law wsL_pairs_r2 := goodIn_r _ [15, 33, 123, 124, 125, 31, 126, 90, 91, 127, 128, 129, 130, 14, 131, 132, 133, 134, 135, 36, 136, 60, 137, 138] (by decide +kernel) (by decide +kernel)
set_option maxRecDepth 20000 in
theorem ggL_law_L_pairs_c3 : GoodIn wsL_law wsL_pairs_r3 := goodIn_r _ [139, 140, 141, 142, 143, 144, 145, 146, 147, 148, 48, 149, 150, 151, 152, 22, 153, 77, 154, 155, 156, 157, 158, 159] (by decide +kernel) (by decide +kernel)
set_option maxRecDepth 20000 in
theorem ggL_law_L_pairs_c4 : GoodIn wsL_law wsL_pairs_r4 := goodIn_r _ [160, 161, 162, 46, 163, 164, 165, 166, 44, 167, 168, 169, 170, 171, 172, 173, 174, 47, 175, 176, 177, 178, 92, 179] (by decide +kernel) (by decide +kernel)
set_option maxRecDepth 20000 in
theorem ggL_law_L_pairs_c5 : GoodIn wsL_law wsL_pairs_r5 := goodIn_r _ [180, 181, 182, 183, 184, 185, 186, 187, 507, 508, 509, 510, 511, 389, 390, 391, 512, 487, 488, 489, 569, 570, 97, 571] (by decide +kernel) (by decide +kernel)
set_option maxRecDepth 20000 in
theorem ggL_law_L_pairs_c6 : GoodIn wsL_law wsL_pairs_r6 := goodIn_r _ [217, 218, 219, 220, 37, 19, 222, 223, 224, 225, 226, 227, 228, 229, 230, 231, 43, 232, 233, 234, 235, 236, 206, 207] (by decide +kernel) (by decide +kernel)
set_option maxRecDepth 20000 in
theorem ggL_law_L_pairs_c7 : GoodIn wsL_law wsL_pairs_r7 := goodIn_r _ [18, 208, 66, 200, 470, 471, 472, 473, 396, 363, 308, 309, 436, 112, 113, 114, 115, 188, 189, 190, 191, 192, 193, 194] (by decide +kernel) (by decide +kernel)
set_option maxRecDepth 20000 in
theorem ggL_law_L_pairs_c8 : GoodIn wsL_law wsL_pairs_r8 := goodIn_r _ [195, 196, 197, 198, 199, 67, 201, 202, 203, 204, 205, 209, 210, 211, 212, 69, 213, 214, 215, 216, 70, 428, 429, 430] (by decide +kernel) (by decide +kernel)
set_option maxRecDepth 20000 in
theorem ggL_law_L_pairs_c9 : GoodIn wsL_law wsL_pairs_r9 := goodIn_r _ [431, 28, 397, 398, 399, 400, 401, 402, 403, 27, 404, 83, 352] (by decide +kernel) (by decide +kernel)
set_option maxRecDepth 20000 in
theorem ggL_law_L_pairs_c10 : GoodIn wsL_law wsX60 := goodIn_r _ [572, 573, 574, 575, 576, 577, 578, 579, 580] (by decide +kernel) (by decide +kernel)
set_option maxRecDepth 20000 in
theorem ggL_law_L_pairs_c11 : GoodIn wsL_law wsX00 := goodIn_r _ [597, 598, 599, 600] (by decide +kernel) (by decide +kernel)
set_option maxRecDepth 20000 in
theorem ggL_law_L_pairs_c12 : GoodIn wsL_law wsX40 := goodIn_r _ [581, 582, 583, 584, 585, 586, 587, 588] (by decide +kernel) (by decide +kernel)
set_option maxRecDepth 20000 in
theorem ggL_law_L_pairs_c13 : GoodIn wsL_law wsX50 := goodIn_r _ [601] (by decide +kernel) (by decide +kernel)
set_option maxRecDepth 20000 in
theorem ggL_law_L_pairs_c14 : GoodIn wsL_law wsX20 := goodIn_r _ [594] (by decide +kernel) (by decide +kernel)
set_option maxRecDepth 20000 in
theorem ggL_law_L_pairs_c15 : GoodIn wsL_law wsX10 := goodIn_r _ [589, 590, 591, 592, 593] (by decide +kernel) (by decide +kernel)
set_option maxRecDepth 20000 in
theorem ggL_law_L_pairs_c16 : GoodIn wsL_law wsX30 := goodIn_r _ [595, 596] (by decide +kernel) (by decide +kernel)
set_option maxRecDepth 20000 in
theorem ggL_law_L_pairs : GoodIn wsL_law wsL_pairs := (goodIn_app ggL_law_L_pairs_c0 (goodIn_app (goodIn_app (goodIn_app (goodIn_app (goodIn_app (goodIn_app (goodIn_app (goodIn_app ggL_law_L_pairs_c1 (goodIn_app ggL_law_L_pairs_c2 (goodIn_app ggL_law_L_pairs_c3 (goodIn_app ggL_law_L_pairs_c4 (goodIn_app ggL_law_L_pairs_c5 (goodIn_app ggL_law_L_pairs_c6 (goodIn_app ggL_law_L_pairs_c7 (goodIn_app ggL_law_L_pairs_c8 ggL_law_L_pairs_c9)))))))) ggL_law_L_pairs_c10) ggL_law_L_pairs_c11) ggL_law_L_pairs_c12) ggL_law_L_pairs_c13) ggL_law_L_pairs_c14) ggL_law_L_pairs_c15) ggL_law_L_pairs_c16) : GoodIn wsL_law ([Cond.code yL_pairs cL_pairs 4 (some .boolean)] ++ _))
set_option maxRecDepth 20000 in
theorem gL_law_L_pairs : GoodIn wsL_law (va_wsS RL 126 yL_pairs wsL_pairs) := goodIn_app (goodIn_of _ (by decide +kernel)) ggL_law_L_pairs
set_option maxRecDepth 20000 in
theorem ggL_law_X6_areSame : GoodIn wsL_law wsX6_areSame := goodIn_r _ [502, 221, 23, 116, 117, 118, 2, 119, 38, 120, 121, 122, 503, 504, 505, 506, 32, 15, 33, 123, 124, 125, 31, 126, 90, 91, 127, 128, 129, 130, 14, 131, 132, 133, 134, 135, 36, 136, 60, 137, 138, 139, 140, 141, 142, 143, 144, 145, 146, 147, 148, 48, 149, 150, 151, 152, 22, 153, 77, 154, 155, 156, 157, 158, 159, 160, 161, 162, 46, 163, 164, 165, 166, 44, 167, 168, 169, 170, 171, 172, 173, 174, 47, 175, 176, 177, 178, 92, 179, 180, 181, 182, 183, 184, 185, 186, 187, 507, 508, 509, 510, 511, 389, 390, 391, 512, 487, 488, 489, 572, 573, 574, 575, 576, 577, 578, 579, 580, 597, 598, 599, 600, 581, 582, 583, 584, 585, 586, 587, 588, 601, 594] (by decide +kernel) (by decide +kernel)
set_option maxRecDepth 20000 in
theorem gL_law_X6_areSame : GoodIn wsL_law (wsV RL 38 RX6 yX6_areSame wsX6_areSame) := goodIn_app (goodIn_of _ (by decide +kernel)) ggL_law_X6_areSame
theorem dL_law_0 : decode cL_law 0 = .ok (.new 10, 3) := by decide +kernel
theorem dL_law_3 : decode cL_law 3 = .ok (.dup, 1) := by decide +kernel
theorem dL_law_4 : decode cL_law 4 = .ok (.invokespecial 95, 3) := by decide +kernel
theorem dL_law_7 : decode cL_law 7 = .ok (.astore_n 1, 1) := by decide +kernel

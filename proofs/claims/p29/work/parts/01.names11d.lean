set_option maxRecDepth 20000 in
theorem ggL_law_X6_penMove : GoodIn wsL_law wsX6_penMove := goodIn_r _ [282, 221, 19, 283, 284, 116, 117, 118, 2, 119, 38, 120, 121, 122, 236, 206, 207, 18, 208, 66, 200, 142, 143, 36, 144, 60, 285, 210, 211, 212, 69, 286, 214, 215, 216, 70, 275, 276, 277, 278, 274, 168, 169, 170, 572, 573, 574, 575, 576, 577, 578, 579, 580, 589, 590, 591, 592, 593, 601] (by decide +kernel) (by decide +kernel)
set_option maxRecDepth 20000 in
theorem gL_law_X6_penMove : GoodIn wsL_law (wsV RL 77 RX6 yX6_penMove wsX6_penMove) := goodIn_app (goodIn_of _ (by decide +kernel)) ggL_law_X6_penMove
set_option maxRecDepth 20000 in
theorem ggL_law_X6_penUp : GoodIn wsL_law wsX6_penUp := goodIn_r _ [290, 221, 19, 283, 284, 15, 116, 117, 118, 2, 119, 38, 120, 121, 122, 236, 206, 207, 18, 208, 66, 200, 142, 143, 36, 144, 60, 291, 292, 293, 294, 228, 229, 230, 14, 231, 43, 149, 295, 296, 297, 298, 37, 222, 299, 168, 169, 170, 300, 301, 302, 303, 50, 47, 304, 305, 306, 307, 45, 44, 308, 309, 310, 311, 312, 313, 314, 132, 48, 315, 316, 317, 318, 319, 320, 321, 322, 192, 193, 323, 324, 325, 326, 327, 328, 197, 198, 199, 67, 329, 330, 331, 332, 68, 333, 267, 268, 269, 270, 271, 272, 273, 274, 334, 210, 211, 212, 69, 335, 214, 215, 216, 70, 336, 276, 277, 278, 337, 338, 339, 340, 341, 342, 23, 28, 343, 344, 345, 22, 346, 77, 347, 348, 349, 350, 27, 351, 83, 84, 352, 353, 354, 194, 195, 572, 573, 574, 575, 576, 577, 578, 579, 580, 589, 590, 591, 592, 593, 601, 581, 582, 583, 584, 585, 586, 587, 588, 594, 595, 596] (by decide +kernel) (by decide +kernel)
set_option maxRecDepth 20000 in
theorem gL_law_X6_penUp : GoodIn wsL_law (wsV RL 80 RX6 yX6_penUp wsX6_penUp) := goodIn_app (goodIn_of _ (by decide +kernel)) ggL_law_X6_penUp
set_option maxRecDepth 20000 in
theorem ggL_law_L_turns_c0 : GoodIn wsL_law [Cond.code yL_turns cL_turns 7 (some .boolean)] := goodIn_r _ [548] (by decide +kernel) (by decide +kernel)
set_option maxRecDepth 20000 in
theorem ggL_law_L_turns_c1 : GoodIn wsL_law wsL_turns_r1 := goodIn_r _ [4, 3, 112, 113, 114, 2, 115, 32, 15, 23, 116, 117, 118, 119, 38, 120, 121, 122, 123, 124, 125, 31, 126, 90] (by decide +kernel) (by decide +kernel)
set_option maxRecDepth 20000 in
theorem ggL_law_L_turns_c2 : GoodIn wsL_law wsL_turns_r2 := goodIn_r _ [91, 127, 128, 129, 130, 14, 131, 132, 133, 134, 135, 36, 136, 60, 137, 138, 139, 140, 141, 142, 143, 144, 145, 146] (by decide +kernel) (by decide +kernel)
set_option maxRecDepth 20000 in
theorem ggL_law_L_turns_c3 : GoodIn wsL_law wsL_turns_r3 := goodIn_r _ [147, 148, 48, 149, 150, 151, 152, 22, 153, 77, 154, 155, 156, 157, 158, 159, 160, 161, 162, 46, 163, 164, 165, 166] (by decide +kernel) (by decide +kernel)
set_option maxRecDepth 20000 in
theorem ggL_law_L_turns_c4 : GoodIn wsL_law wsL_turns_r4 := goodIn_r _ [44, 167, 168, 169, 170, 171, 172, 173, 174, 47, 175, 176, 177, 178, 92, 179, 180, 181, 182, 183, 184, 185, 186, 187] (by decide +kernel) (by decide +kernel)
set_option maxRecDepth 20000 in
theorem ggL_law_L_turns_c5 : GoodIn wsL_law wsL_turns_r5 := goodIn_r _ [188, 189, 190, 191, 192, 193, 194, 195, 196, 197, 198, 18, 199, 67, 200, 201, 202, 203, 204, 205, 206, 207, 208, 66] (by decide +kernel) (by decide +kernel)
set_option maxRecDepth 20000 in
theorem ggL_law_L_turns_c6 : GoodIn wsL_law wsL_turns_r6 := goodIn_r _ [209, 210, 211, 212, 69, 213, 214, 215, 216, 70, 217, 218, 219, 220, 221, 37, 19, 222, 223, 224, 225, 226, 227, 228] (by decide +kernel) (by decide +kernel)
set_option maxRecDepth 20000 in
theorem ggL_law_L_turns_c7 : GoodIn wsL_law wsL_turns_r7 := goodIn_r _ [229, 230, 231, 43, 232, 233, 234, 235, 236, 355, 356, 357, 358, 359, 360, 361, 362, 363, 308, 309, 364, 365, 366, 367] (by decide +kernel) (by decide +kernel)
set_option maxRecDepth 20000 in
theorem ggL_law_L_turns_c8 : GoodIn wsL_law wsL_turns_r8 := goodIn_r _ [368, 369, 283, 284, 291, 292, 293, 294, 295, 296, 297, 298, 299, 370, 371, 372, 373, 304, 305, 306, 307, 45, 310, 311] (by decide +kernel) (by decide +kernel)
set_option maxRecDepth 20000 in
theorem ggL_law_L_turns_c9 : GoodIn wsL_law wsL_turns_r9 := goodIn_r _ [312, 313, 314, 315, 316, 317, 318, 319, 320, 321, 322, 339, 340, 341, 342, 28, 343, 344, 345, 346, 347, 348, 349, 350] (by decide +kernel) (by decide +kernel)
set_option maxRecDepth 20000 in
theorem ggL_law_L_turns_c10 : GoodIn wsL_law wsL_turns_r10 := goodIn_r _ [27, 351, 83, 84, 352, 353, 354, 465, 466, 467, 468, 396, 382, 419, 420, 421, 422, 457, 458, 459, 460, 50, 461, 462] (by decide +kernel) (by decide +kernel)
set_option maxRecDepth 20000 in
theorem ggL_law_L_turns_c11 : GoodIn wsL_law wsL_turns_r11 := goodIn_r _ [463, 464, 334, 335, 383, 423, 469, 374, 375, 376, 377, 378, 379, 380, 381] (by decide +kernel) (by decide +kernel)
set_option maxRecDepth 20000 in
theorem ggL_law_L_turns_c12 : GoodIn wsL_law wsX60 := goodIn_r _ [572, 573, 574, 575, 576, 577, 578, 579, 580] (by decide +kernel) (by decide +kernel)
set_option maxRecDepth 20000 in
theorem ggL_law_L_turns_c13 : GoodIn wsL_law wsX00 := goodIn_r _ [597, 598, 599, 600] (by decide +kernel) (by decide +kernel)
set_option maxRecDepth 20000 in
theorem ggL_law_L_turns_c14 : GoodIn wsL_law wsX40 := goodIn_r _ [581, 582, 583, 584, 585, 586, 587, 588] (by decide +kernel) (by decide +kernel)
set_option maxRecDepth 20000 in
theorem ggL_law_L_turns_c15 : GoodIn wsL_law wsX50 := goodIn_r _ [601] (by decide +kernel) (by decide +kernel)
set_option maxRecDepth 20000 in
theorem ggL_law_L_turns_c16 : GoodIn wsL_law wsX20 := goodIn_r _ [594] (by decide +kernel) (by decide +kernel)
set_option maxRecDepth 20000 in
theorem ggL_law_L_turns_c17 : GoodIn wsL_law wsX10 := goodIn_r _ [589, 590, 591, 592, 593] (by decide +kernel) (by decide +kernel)

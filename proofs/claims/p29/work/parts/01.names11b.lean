set_option maxRecDepth 20000 in
theorem ggL_law_L_refuses_c0 : GoodIn wsL_law [Cond.code yL_refuses cL_refuses 6 (some .boolean)] := goodIn_r _ [106] (by decide +kernel) (by decide +kernel)
set_option maxRecDepth 20000 in
theorem ggL_law_L_refuses_c1 : GoodIn wsL_law wsL_refuses_r1 := goodIn_r _ [107, 4, 5, 108, 109, 110, 2, 111, 38, 112, 113, 114, 115, 32, 15, 23, 116, 117, 118, 119, 120, 121, 122, 123] (by decide +kernel) (by decide +kernel)
set_option maxRecDepth 20000 in
theorem ggL_law_L_refuses_c2 : GoodIn wsL_law wsL_refuses_r2 := goodIn_r _ [124, 125, 31, 126, 90, 91, 127, 128, 129, 130, 14, 131, 132, 133, 134, 135, 36, 136, 60, 137, 138, 139, 140, 141] (by decide +kernel) (by decide +kernel)
set_option maxRecDepth 20000 in
theorem ggL_law_L_refuses_c3 : GoodIn wsL_law wsL_refuses_r3 := goodIn_r _ [142, 143, 144, 145, 146, 147, 148, 48, 149, 150, 151, 152, 22, 153, 77, 154, 155, 156, 157, 158, 159, 160, 161, 162] (by decide +kernel) (by decide +kernel)
set_option maxRecDepth 20000 in
theorem ggL_law_L_refuses_c4 : GoodIn wsL_law wsL_refuses_r4 := goodIn_r _ [46, 163, 164, 165, 166, 44, 167, 168, 169, 170, 171, 172, 173, 174, 47, 175, 176, 177, 178, 92, 179, 180, 181, 182] (by decide +kernel) (by decide +kernel)
set_option maxRecDepth 20000 in
theorem ggL_law_L_refuses_c5 : GoodIn wsL_law wsL_refuses_r5 := goodIn_r _ [183, 184, 185, 186, 187, 188, 189, 190, 191, 192, 193, 194, 195, 196, 197, 198, 18, 199, 67, 200, 201, 202, 203, 204] (by decide +kernel) (by decide +kernel)
set_option maxRecDepth 20000 in
theorem ggL_law_L_refuses_c6 : GoodIn wsL_law wsL_refuses_r6 := goodIn_r _ [205, 206, 207, 208, 66, 209, 210, 211, 212, 69, 213, 214, 215, 216, 70, 217, 218, 219, 220, 221, 37, 19, 222, 223] (by decide +kernel) (by decide +kernel)
set_option maxRecDepth 20000 in
theorem ggL_law_L_refuses_c7 : GoodIn wsL_law wsL_refuses_r7 := goodIn_r _ [224, 225, 226, 227, 228, 229, 230, 231, 43, 232, 233, 234, 235, 236, 237, 238, 239, 240, 28, 241, 242, 243, 244, 245] (by decide +kernel) (by decide +kernel)
set_option maxRecDepth 20000 in
theorem ggL_law_L_refuses_c8 : GoodIn wsL_law wsL_refuses_r8 := goodIn_r _ [246, 247, 248, 249, 250, 251, 252, 253, 254, 255, 256, 257, 258, 27, 259, 83, 260, 261, 262, 263, 264, 265, 266, 267] (by decide +kernel) (by decide +kernel)
set_option maxRecDepth 20000 in
theorem ggL_law_L_refuses_c9 : GoodIn wsL_law wsL_refuses_r9 := goodIn_r _ [268, 269, 68, 270, 271, 272, 273, 274, 275, 276, 277, 278, 279, 280, 281, 282, 283, 284, 285, 286, 287, 288, 289, 290] (by decide +kernel) (by decide +kernel)
set_option maxRecDepth 20000 in
theorem ggL_law_L_refuses_c10 : GoodIn wsL_law wsL_refuses_r10 := goodIn_r _ [291, 292, 293, 294, 295, 296, 297, 298, 299, 300, 301, 302, 303, 50, 304, 305, 306, 307, 45, 308, 309, 310, 311, 312] (by decide +kernel) (by decide +kernel)
set_option maxRecDepth 20000 in
theorem ggL_law_L_refuses_c11 : GoodIn wsL_law wsL_refuses_r11 := goodIn_r _ [313, 314, 315, 316, 317, 318, 319, 320, 321, 322, 323, 324, 325, 326, 327, 328, 329, 330, 331, 332, 333, 334, 335, 336] (by decide +kernel) (by decide +kernel)
set_option maxRecDepth 20000 in
theorem ggL_law_L_refuses_c12 : GoodIn wsL_law wsL_refuses_r12 := goodIn_r _ [337, 338, 339, 340, 341, 342, 343, 344, 345, 346, 347, 348, 349, 350, 351, 84, 352, 353, 354, 355, 356, 357, 358, 359] (by decide +kernel) (by decide +kernel)
set_option maxRecDepth 20000 in
theorem ggL_law_L_refuses_c13 : GoodIn wsL_law wsL_refuses_r13 := goodIn_r _ [360, 361, 362, 363, 364, 365, 366, 367, 368, 369, 370, 371, 372, 373, 374, 375, 376, 377, 378, 379, 380, 381, 382, 383] (by decide +kernel) (by decide +kernel)
set_option maxRecDepth 20000 in
theorem ggL_law_L_refuses_c14 : GoodIn wsL_law wsL_refuses_r14 := goodIn_r _ [384, 385, 386, 387, 388, 389, 390, 391, 392, 393, 394, 395, 396, 397, 398, 399, 400, 401, 402, 403, 404, 405, 406, 407] (by decide +kernel) (by decide +kernel)
set_option maxRecDepth 20000 in
theorem ggL_law_L_refuses_c15 : GoodIn wsL_law wsL_refuses_r15 := goodIn_r _ [408, 409, 410, 411, 412, 413, 56, 57, 58, 414, 415, 416, 417, 418, 419, 420, 421, 422, 423, 424, 425, 426, 427, 428] (by decide +kernel) (by decide +kernel)
set_option maxRecDepth 20000 in
theorem ggL_law_L_refuses_c16 : GoodIn wsL_law wsL_refuses_r16 := goodIn_r _ [429, 430, 431, 432, 433, 434, 435, 436, 437, 438, 439, 440, 441, 442, 443, 444, 445, 446, 447, 448, 449, 450, 451, 452] (by decide +kernel) (by decide +kernel)
set_option maxRecDepth 20000 in
theorem ggL_law_L_refuses_c17 : GoodIn wsL_law wsL_refuses_r17 := goodIn_r _ [453, 454, 455, 456, 457, 458, 459, 460, 461, 462, 463, 464, 465, 466, 467, 468, 469, 470, 471, 472, 473, 474, 475, 476] (by decide +kernel) (by decide +kernel)
set_option maxRecDepth 20000 in
theorem ggL_law_L_refuses_c18 : GoodIn wsL_law wsL_refuses_r18 := goodIn_r _ [477, 478, 479, 480, 481, 482, 483, 484, 485, 486, 487, 488, 489, 490, 491, 492, 493, 494, 495, 496, 497, 498, 499, 500] (by decide +kernel) (by decide +kernel)
set_option maxRecDepth 20000 in
theorem ggL_law_L_refuses_c19 : GoodIn wsL_law wsL_refuses_r19 := goodIn_r _ [501, 502, 503, 504, 505, 506, 33, 507, 508, 509, 510, 511, 512, 513, 514, 515, 516, 517, 518, 519, 520, 521, 522, 523] (by decide +kernel) (by decide +kernel)
set_option maxRecDepth 20000 in
theorem ggL_law_L_refuses_c20 : GoodIn wsL_law wsL_refuses_r20 := goodIn_r _ [524, 525, 526, 527, 528, 529, 530, 531, 532] (by decide +kernel) (by decide +kernel)
set_option maxRecDepth 20000 in
theorem ggL_law_L_refuses_c21 : GoodIn wsL_law wsX60 := goodIn_r _ [572, 573, 574, 575, 576, 577, 578, 579, 580] (by decide +kernel) (by decide +kernel)
set_option maxRecDepth 20000 in
theorem ggL_law_L_refuses_c22 : GoodIn wsL_law wsX00 := goodIn_r _ [597, 598, 599, 600] (by decide +kernel) (by decide +kernel)
set_option maxRecDepth 20000 in
theorem ggL_law_L_refuses_c23 : GoodIn wsL_law wsX40 := goodIn_r _ [581, 582, 583, 584, 585, 586, 587, 588] (by decide +kernel) (by decide +kernel)
set_option maxRecDepth 20000 in
theorem ggL_law_L_refuses_c24 : GoodIn wsL_law wsX50 := goodIn_r _ [601] (by decide +kernel) (by decide +kernel)
set_option maxRecDepth 20000 in
theorem ggL_law_L_refuses_c25 : GoodIn wsL_law wsX20 := goodIn_r _ [594] (by decide +kernel) (by decide +kernel)
set_option maxRecDepth 20000 in
theorem ggL_law_L_refuses_c26 : GoodIn wsL_law wsX10 := goodIn_r _ [589, 590, 591, 592, 593] (by decide +kernel) (by decide +kernel)
set_option maxRecDepth 20000 in
theorem ggL_law_L_refuses_c27 : GoodIn wsL_law wsX30 := goodIn_r _ [595, 596] (by decide +kernel) (by decide +kernel)

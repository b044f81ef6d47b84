theorem dL_refuses_424 : decode cL_refuses 424 = .ok (.bipush 7, 2) := by decide +kernel
theorem dL_refuses_426 : decode cL_refuses 426 = .ok (.aload_n 0, 1) := by decide +kernel
theorem dL_refuses_427 : decode cL_refuses 427 = .ok (.iload 5, 2) := by decide +kernel
theorem dL_refuses_429 : decode cL_refuses 429 = .ok (.iconst 0, 1) := by decide +kernel
theorem dL_refuses_430 : decode cL_refuses 430 = .ok (.invokevirtual 9, 3) := by decide +kernel
theorem dL_refuses_433 : decode cL_refuses 433 = .ok (.imul, 1) := by decide +kernel
theorem dL_refuses_434 : decode cL_refuses 434 = .ok (.iadd, 1) := by decide +kernel
theorem dL_refuses_435 : decode cL_refuses 435 = .ok (.aload_n 0, 1) := by decide +kernel
theorem dL_refuses_436 : decode cL_refuses 436 = .ok (.iload 5, 2) := by decide +kernel
theorem dL_refuses_438 : decode cL_refuses 438 = .ok (.iconst 1, 1) := by decide +kernel
theorem dL_refuses_439 : decode cL_refuses 439 = .ok (.invokevirtual 9, 3) := by decide +kernel
theorem dL_refuses_442 : decode cL_refuses 442 = .ok (.iadd, 1) := by decide +kernel
theorem dL_refuses_443 : decode cL_refuses 443 = .ok (.bipush 100, 2) := by decide +kernel
theorem dL_refuses_445 : decode cL_refuses 445 = .ok (.aload_n 0, 1) := by decide +kernel
theorem dL_refuses_446 : decode cL_refuses 446 = .ok (.iload 5, 2) := by decide +kernel
theorem dL_refuses_448 : decode cL_refuses 448 = .ok (.iconst 4, 1) := by decide +kernel
theorem dL_refuses_449 : decode cL_refuses 449 = .ok (.invokevirtual 9, 3) := by decide +kernel
theorem dL_refuses_452 : decode cL_refuses 452 = .ok (.imul, 1) := by decide +kernel
theorem dL_refuses_453 : decode cL_refuses 453 = .ok (.iadd, 1) := by decide +kernel
theorem dL_refuses_454 : decode cL_refuses 454 = .ok (.istore 4, 2) := by decide +kernel
theorem dL_refuses_456 : decode cL_refuses 456 = .ok (.iinc 5 1, 3) := by decide +kernel
theorem dL_refuses_459 : decode cL_refuses 459 = .ok (.goto (-53), 3) := by decide +kernel
theorem dL_refuses_462 : decode cL_refuses 462 = .ok (.iload_n 3, 1) := by decide +kernel
theorem dL_refuses_463 : decode cL_refuses 463 = .ok (.ifCond .eq 13, 3) := by decide +kernel
theorem dL_refuses_466 : decode cL_refuses 466 = .ok (.iload 4, 2) := by decide +kernel
theorem dL_refuses_468 : decode cL_refuses 468 = .ok (.iload_n 2, 1) := by decide +kernel
theorem dL_refuses_469 : decode cL_refuses 469 = .ok (.if_icmp .ne 7, 3) := by decide +kernel
theorem dL_refuses_472 : decode cL_refuses 472 = .ok (.iconst 1, 1) := by decide +kernel
theorem dL_refuses_473 : decode cL_refuses 473 = .ok (.goto 4, 3) := by decide +kernel
theorem dL_refuses_476 : decode cL_refuses 476 = .ok (.iconst 0, 1) := by decide +kernel
theorem dL_refuses_477 : decode cL_refuses 477 = .ok (.ireturn, 1) := by decide +kernel
set_option maxRecDepth 20000 in
theorem ggL_law_X6_init : GoodIn wsL_law wsX6_init := goodIn_r _ [8, 9, 10, 11, 12, 13, 14, 15, 16, 17, 18, 19, 20, 21, 22, 23, 24, 25, 26, 27, 28, 29, 30, 31, 32, 33, 34, 35, 36, 37, 38, 39, 40, 41, 42, 43, 44, 45, 46, 47, 48, 49, 50, 51, 52, 53, 54, 55, 56, 57, 58, 59, 60, 61, 62, 63, 64, 65, 66, 67, 68, 69, 70, 71, 72, 73, 74, 75, 76, 77, 78, 79, 80, 81, 82, 83, 84, 85, 86, 87, 88, 89, 90, 91, 92, 93, 94, 581, 582, 583, 584, 585, 586, 587, 588, 572, 573, 574, 575, 576, 577, 578, 579, 580, 589, 590, 591, 592, 593, 594, 595, 596, 597, 598, 599, 600, 601] (by decide +kernel) (by decide +kernel)
set_option maxRecDepth 20000 in
theorem gL_law_X6_init : GoodIn wsL_law (wsX6_init) := ggL_law_X6_init
set_option maxRecDepth 20000 in
theorem ggL_law_L_cell : GoodIn wsL_law wsL_cell := goodIn_r _ [98, 99] (by decide +kernel) (by decide +kernel)
set_option maxRecDepth 20000 in
theorem gL_law_L_cell : GoodIn wsL_law (va_wsS RL 96 yL_cell wsL_cell) := goodIn_app (goodIn_of _ (by decide +kernel)) ggL_law_L_cell
set_option maxRecDepth 20000 in
theorem ggL_law_L_low : GoodIn wsL_law wsL_low := goodIn_r _ [102, 103] (by decide +kernel) (by decide +kernel)
set_option maxRecDepth 20000 in
theorem gL_law_L_low : GoodIn wsL_law (va_wsS RL 100 yL_low wsL_low) := goodIn_app (goodIn_of _ (by decide +kernel)) ggL_law_L_low
set_option maxRecDepth 20000 in
theorem ggL_law_L_refuses : GoodIn wsL_law wsL_refuses := goodIn_r _ [106, 107, 4, 5, 108, 109, 110, 2, 111, 38, 112, 113, 114, 115, 32, 15, 23, 116, 117, 118, 119, 120, 121, 122, 123, 124, 125, 31, 126, 90, 91, 127, 128, 129, 130, 14, 131, 132, 133, 134, 135, 36, 136, 60, 137, 138, 139, 140, 141, 142, 143, 144, 145, 146, 147, 148, 48, 149, 150, 151, 152, 22, 153, 77, 154, 155, 156, 157, 158, 159, 160, 161, 162, 46, 163, 164, 165, 166, 44, 167, 168, 169, 170, 171, 172, 173, 174, 47, 175, 176, 177, 178, 92, 179, 180, 181, 182, 183, 184, 185, 186, 187, 188, 189, 190, 191, 192, 193, 194, 195, 196, 197, 198, 18, 199, 67, 200, 201, 202, 203, 204, 205, 206, 207, 208, 66, 209, 210, 211, 212, 69, 213, 214, 215, 216, 70, 217, 218, 219, 220, 221, 37, 19, 222, 223, 224, 225, 226, 227, 228, 229, 230, 231, 43, 232, 233, 234, 235, 236, 237, 238, 239, 240, 28, 241, 242, 243, 244, 245, 246, 247, 248, 249, 250, 251, 252, 253, 254, 255, 256, 257, 258, 27, 259, 83, 260, 261, 262, 263, 264, 265, 266, 267, 268, 269, 68, 270, 271, 272, 273, 274, 275, 276, 277, 278, 279, 280, 281, 282, 283, 284, 285, 286, 287, 288, 289, 290, 291, 292, 293, 294, 295, 296, 297, 298, 299, 300, 301, 302, 303, 50, 304, 305, 306, 307, 45, 308, 309, 310, 311, 312, 313, 314, 315, 316, 317, 318, 319, 320, 321, 322, 323, 324, 325, 326, 327, 328, 329, 330, 331, 332, 333, 334, 335, 336, 337, 338, 339, 340, 341, 342, 343, 344, 345, 346, 347, 348, 349, 350, 351, 84, 352, 353, 354, 355, 356, 357, 358, 359, 360, 361, 362, 363, 364, 365, 366, 367, 368, 369, 370, 371, 372, 373, 374, 375, 376, 377, 378, 379, 380, 381, 382, 383, 384, 385, 386, 387, 388, 389, 390, 391, 392, 393, 394, 395, 396, 397, 398, 399, 400, 401, 402, 403, 404, 405, 406, 407, 408, 409, 410, 411, 412, 413, 56, 57, 58, 414, 415, 416, 417, 418, 419, 420, 421, 422, 423, 424, 425, 426, 427, 428, 429, 430, 431, 432, 433, 434, 435, 436, 437, 438, 439, 440, 441, 442, 443, 444, 445, 446, 447, 448, 449, 450, 451, 452, 453, 454, 455, 456, 457, 458, 459, 460, 461, 462, 463, 464, 465, 466, 467, 468, 469, 470, 471, 472, 473, 474, 475, 476, 477, 478, 479, 480, 481, 482, 483, 484, 485, 486, 487, 488, 489, 490, 491, 492, 493, 494, 495, 496, 497, 498, 499, 500, 501, 502, 503, 504, 505, 506, 33, 507, 508, 509, 510, 511, 512, 513, 514, 515, 516, 517, 518, 519, 520, 521, 522, 523, 524, 525, 526, 527, 528, 529, 530, 531, 532, 572, 573, 574, 575, 576, 577, 578, 579, 580, 597, 598, 599, 600, 581, 582, 583, 584, 585, 586, 587, 588, 601, 594, 589, 590, 591, 592, 593, 595, 596] (by decide +kernel) (by decide +kernel)
set_option maxRecDepth 20000 in
theorem gL_law_L_refuses : GoodIn wsL_law (va_wsS RL 103 yL_refuses wsL_refuses) := goodIn_app (goodIn_of _ (by decide +kernel)) ggL_law_L_refuses
set_option maxRecDepth 20000 in
theorem ggL_law_X6_reset : GoodIn wsL_law wsX6_reset := goodIn_r _ [240, 221, 38, 15, 19, 23, 28, 37, 120, 121, 2, 122, 241, 242, 243, 14, 244, 43, 132, 245, 134, 135, 36, 136, 60, 246, 247, 248, 18, 249, 66, 250, 251, 252, 253, 22, 254, 77, 255, 256, 257, 258, 27, 259, 83, 260, 261, 572, 573, 574, 575, 576, 577, 578, 579, 580, 581, 582, 583, 584, 585, 586, 587, 588, 601, 589, 590, 591, 592, 593, 594, 595, 596] (by decide +kernel) (by decide +kernel)
set_option maxRecDepth 20000 in
theorem gL_law_X6_reset : GoodIn wsL_law (wsV RL 69 RX6 yX6_reset wsX6_reset) := goodIn_app (goodIn_of _ (by decide +kernel)) ggL_law_X6_reset
set_option maxRecDepth 20000 in
theorem ggL_law_X6_differing : GoodIn wsL_law wsX6_differing := goodIn_r _ [536, 38, 24, 537, 538, 539, 2, 540, 23, 28, 541, 542, 543, 22, 544, 77, 545, 138, 139, 36, 140, 60, 141, 142, 143, 144, 401, 402, 403, 27, 404, 83, 352, 405, 406, 407, 408, 84, 343, 344, 345, 346, 347, 168, 169, 170, 503, 504, 505, 506, 32, 15, 33, 123, 124, 125, 31, 126, 90, 91, 127, 128, 129, 130, 14, 131, 132, 133, 134, 135, 136, 137, 145, 146, 147, 148, 48, 149, 150, 151, 152, 153, 154, 155, 156, 157, 158, 159, 160, 161, 162, 46, 163, 164, 165, 166, 44, 167, 171, 172, 173, 174, 47, 175, 176, 177, 178, 92, 179, 180, 181, 182, 183, 184, 185, 186, 187, 507, 508, 509, 510, 511, 389, 390, 391, 512, 487, 488, 489, 572, 573, 574, 575, 576, 577, 578, 579, 580, 594, 601, 595, 596, 597, 598, 599, 600, 581, 582, 583, 584, 585, 586, 587, 588] (by decide +kernel) (by decide +kernel)
set_option maxRecDepth 20000 in
theorem gL_law_X6_differing : GoodIn wsL_law (wsV RL 107 RX6 yX6_differing wsX6_differing) := goodIn_app (goodIn_of _ (by decide +kernel)) ggL_law_X6_differing
set_option maxRecDepth 20000 in
theorem ggL_law_X6_siteInfo : GoodIn wsL_law wsX6_siteInfo := goodIn_r _ [220, 221, 37, 23, 15, 32, 19, 116, 117, 118, 2, 119, 38, 120, 121, 122, 222, 142, 143, 36, 144, 60, 223, 224, 225, 22, 226, 227, 151, 152, 153, 77, 154, 228, 229, 230, 14, 231, 43, 149, 123, 124, 125, 31, 126, 90, 91, 127, 128, 129, 130, 131, 132, 133, 134, 135, 136, 137, 138, 139, 140, 141, 145, 146, 147, 148, 48, 150, 155, 156, 157, 158, 159, 160, 161, 162, 46, 163, 164, 165, 166, 44, 167, 168, 169, 170, 171, 172, 173, 174, 47, 175, 176, 177, 178, 92, 179, 180, 181, 182, 183, 184, 185, 186, 187, 232, 233, 234, 235, 236, 206, 207, 18, 208, 66, 200, 572, 573, 574, 575, 576, 577, 578, 579, 580, 601, 594, 581, 582, 583, 584, 585, 586, 587, 588, 597, 598, 599, 600, 589, 590, 591, 592, 593] (by decide +kernel) (by decide +kernel)
set_option maxRecDepth 20000 in
theorem gL_law_X6_siteInfo : GoodIn wsL_law (wsV RL 9 RX6 yX6_siteInfo wsX6_siteInfo) := goodIn_app (goodIn_of _ (by decide +kernel)) ggL_law_X6_siteInfo
set_option maxRecDepth 20000 in
theorem ggL_law_X6_waiting : GoodIn wsL_law wsX6_waiting := goodIn_r _ [431, 28, 221, 397, 398, 399, 2, 400, 116, 117, 118, 119, 38, 120, 121, 122, 401, 402, 403, 27, 404, 83, 352, 142, 143, 36, 144, 60, 572, 573, 574, 575, 576, 577, 578, 579, 580, 595, 596, 601] (by decide +kernel) (by decide +kernel)
set_option maxRecDepth 20000 in
theorem gL_law_X6_waiting : GoodIn wsL_law (wsV RL 52 RX6 yX6_waiting wsX6_waiting) := goodIn_app (goodIn_of _ (by decide +kernel)) ggL_law_X6_waiting
set_option maxRecDepth 20000 in
theorem ggL_law_X6_penDown : GoodIn wsL_law wsX6_penDown := goodIn_r _ [265, 221, 19, 116, 117, 118, 2, 119, 38, 120, 121, 122, 266, 267, 268, 18, 269, 67, 68, 270, 271, 272, 273, 66, 274, 168, 169, 36, 170, 60, 275, 276, 277, 278, 69, 70, 200, 142, 143, 144, 236, 206, 207, 208, 572, 573, 574, 575, 576, 577, 578, 579, 580, 589, 590, 591, 592, 593, 601] (by decide +kernel) (by decide +kernel)
set_option maxRecDepth 20000 in
theorem gL_law_X6_penDown : GoodIn wsL_law (wsV RL 73 RX6 yX6_penDown wsX6_penDown) := goodIn_app (goodIn_of _ (by decide +kernel)) ggL_law_X6_penDown
set_option maxRecDepth 20000 in
theorem ggL_law_X6_penMove : GoodIn wsL_law wsX6_penMove := goodIn_r _ [282, 221, 19, 283, 284, 116, 117, 118, 2, 119, 38, 120, 121, 122, 236, 206, 207, 18, 208, 66, 200, 142, 143, 36, 144, 60, 285, 210, 211, 212, 69, 286, 214, 215, 216, 70, 275, 276, 277, 278, 274, 168, 169, 170, 572, 573, 574, 575, 576, 577, 578, 579, 580, 589, 590, 591, 592, 593, 601] (by decide +kernel) (by decide +kernel)
set_option maxRecDepth 20000 in
theorem gL_law_X6_penMove : GoodIn wsL_law (wsV RL 77 RX6 yX6_penMove wsX6_penMove) := goodIn_app (goodIn_of _ (by decide +kernel)) ggL_law_X6_penMove
set_option maxRecDepth 20000 in
theorem ggL_law_X6_penUp : GoodIn wsL_law wsX6_penUp := goodIn_r _ [290, 221, 19, 283, 284, 15, 116, 117, 118, 2, 119, 38, 120, 121, 122, 236, 206, 207, 18, 208, 66, 200, 142, 143, 36, 144, 60, 291, 292, 293, 294, 228, 229, 230, 14, 231, 43, 149, 295, 296, 297, 298, 37, 222, 299, 168, 169, 170, 300, 301, 302, 303, 50, 47, 304, 305, 306, 307, 45, 44, 308, 309, 310, 311, 312, 313, 314, 132, 48, 315, 316, 317, 318, 319, 320, 321, 322, 192, 193, 323, 324, 325, 326, 327, 328, 197, 198, 199, 67, 329, 330, 331, 332, 68, 333, 267, 268, 269, 270, 271, 272, 273, 274, 334, 210, 211, 212, 69, 335, 214, 215, 216, 70, 336, 276, 277, 278, 337, 338, 339, 340, 341, 342, 23, 28, 343, 344, 345, 22, 346, 77, 347, 348, 349, 350, 27, 351, 83, 84, 352, 353, 354, 194, 195, 572, 573, 574, 575, 576, 577, 578, 579, 580, 589, 590, 591, 592, 593, 601, 581, 582, 583, 584, 585, 586, 587, 588, 594, 595, 596] (by decide +kernel) (by decide +kernel)
set_option maxRecDepth 20000 in
theorem gL_law_X6_penUp : GoodIn wsL_law (wsV RL 80 RX6 yX6_penUp wsX6_penUp) := goodIn_app (goodIn_of _ (by decide +kernel)) ggL_law_X6_penUp
set_option maxRecDepth 20000 in
theorem ggL_law_L_turns : GoodIn wsL_law wsL_turns := goodIn_r _ [548, 4, 3, 112, 113, 114, 2, 115, 32, 15, 23, 116, 117, 118, 119, 38, 120, 121, 122, 123, 124, 125, 31, 126, 90, 91, 127, 128, 129, 130, 14, 131, 132, 133, 134, 135, 36, 136, 60, 137, 138, 139, 140, 141, 142, 143, 144, 145, 146, 147, 148, 48, 149, 150, 151, 152, 22, 153, 77, 154, 155, 156, 157, 158, 159, 160, 161, 162, 46, 163, 164, 165, 166, 44, 167, 168, 169, 170, 171, 172, 173, 174, 47, 175, 176, 177, 178, 92, 179, 180, 181, 182, 183, 184, 185, 186, 187, 188, 189, 190, 191, 192, 193, 194, 195, 196, 197, 198, 18, 199, 67, 200, 201, 202, 203, 204, 205, 206, 207, 208, 66, 209, 210, 211, 212, 69, 213, 214, 215, 216, 70, 217, 218, 219, 220, 221, 37, 19, 222, 223, 224, 225, 226, 227, 228, 229, 230, 231, 43, 232, 233, 234, 235, 236, 355, 356, 357, 358, 359, 360, 361, 362, 363, 308, 309, 364, 365, 366, 367, 368, 369, 283, 284, 291, 292, 293, 294, 295, 296, 297, 298, 299, 370, 371, 372, 373, 304, 305, 306, 307, 45, 310, 311, 312, 313, 314, 315, 316, 317, 318, 319, 320, 321, 322, 339, 340, 341, 342, 28, 343, 344, 345, 346, 347, 348, 349, 350, 27, 351, 83, 84, 352, 353, 354, 465, 466, 467, 468, 396, 382, 419, 420, 421, 422, 457, 458, 459, 460, 50, 461, 462, 463, 464, 334, 335, 383, 423, 469, 374, 375, 376, 377, 378, 379, 380, 381, 572, 573, 574, 575, 576, 577, 578, 579, 580, 597, 598, 599, 600, 581, 582, 583, 584, 585, 586, 587, 588, 601, 594, 589, 590, 591, 592, 593, 595, 596] (by decide +kernel) (by decide +kernel)
set_option maxRecDepth 20000 in
theorem gL_law_L_turns : GoodIn wsL_law (va_wsS RL 110 yL_turns wsL_turns) := goodIn_app (goodIn_of _ (by decide +kernel)) ggL_law_L_turns
set_option maxRecDepth 20000 in
theorem ggL_law_X6_lift : GoodIn wsL_law wsX6_lift := goodIn_r _ [387, 221, 32, 15, 23, 283, 284, 116, 117, 118, 2, 119, 38, 120, 121, 122, 123, 124, 125, 31, 126, 90, 91, 127, 128, 129, 130, 14, 131, 132, 133, 134, 135, 36, 136, 60, 137, 138, 139, 140, 141, 142, 143, 144, 145, 146, 147, 148, 48, 149, 150, 151, 152, 22, 153, 77, 154, 155, 156, 157, 158, 159, 160, 161, 162, 46, 163, 164, 165, 166, 44, 167, 168, 169, 170, 171, 172, 173, 174, 47, 175, 176, 177, 178, 92, 179, 180, 181, 182, 183, 184, 185, 186, 187, 232, 233, 234, 235, 291, 292, 293, 294, 228, 229, 230, 231, 43, 295, 296, 297, 298, 37, 222, 299, 388, 389, 390, 391, 370, 371, 372, 373, 304, 305, 306, 307, 45, 308, 309, 310, 311, 312, 313, 314, 315, 316, 317, 318, 319, 320, 321, 322, 192, 193, 339, 340, 341, 342, 28, 343, 344, 345, 346, 347, 348, 349, 350, 27, 351, 83, 84, 352, 353, 354, 194, 195, 572, 573, 574, 575, 576, 577, 578, 579, 580, 597, 598, 599, 600, 581, 582, 583, 584, 585, 586, 587, 588, 601, 594, 595, 596] (by decide +kernel) (by decide +kernel)
set_option maxRecDepth 20000 in
theorem gL_law_X6_lift : GoodIn wsL_law (wsV RL 83 RX6 yX6_lift wsX6_lift) := goodIn_app (goodIn_of _ (by decide +kernel)) ggL_law_X6_lift
set_option maxRecDepth 20000 in
theorem ggL_law_X6_redo : GoodIn wsL_law wsX6_redo := goodIn_r _ [377, 221, 116, 117, 118, 2, 119, 38, 120, 121, 122, 378, 379, 380, 381, 32, 15, 23, 123, 124, 125, 31, 126, 90, 91, 127, 128, 129, 130, 14, 131, 132, 133, 134, 135, 36, 136, 60, 137, 138, 139, 140, 141, 142, 143, 144, 145, 146, 147, 148, 48, 149, 150, 151, 152, 22, 153, 77, 154, 155, 156, 157, 158, 159, 160, 161, 162, 46, 163, 164, 165, 166, 44, 167, 168, 169, 170, 171, 172, 173, 174, 47, 175, 176, 177, 178, 92, 179, 180, 181, 182, 183, 184, 185, 186, 187, 228, 229, 230, 231, 43, 363, 308, 309, 382, 383, 365, 366, 367, 368, 369, 283, 284, 291, 292, 293, 294, 295, 296, 297, 298, 37, 222, 299, 370, 371, 372, 373, 304, 305, 306, 307, 45, 310, 311, 312, 313, 314, 315, 316, 317, 318, 319, 320, 321, 322, 192, 193, 339, 340, 341, 342, 28, 343, 344, 345, 346, 347, 348, 349, 350, 27, 351, 83, 84, 352, 353, 354, 194, 195, 572, 573, 574, 575, 576, 577, 578, 579, 580, 597, 598, 599, 600, 581, 582, 583, 584, 585, 586, 587, 588, 601, 594, 595, 596] (by decide +kernel) (by decide +kernel)
set_option maxRecDepth 20000 in
theorem gL_law_X6_redo : GoodIn wsL_law (wsV RL 66 RX6 yX6_redo wsX6_redo) := goodIn_app (goodIn_of _ (by decide +kernel)) ggL_law_X6_redo
set_option maxRecDepth 20000 in
theorem ggL_law_X6_lose : GoodIn wsL_law wsX6_lose := goodIn_r _ [427, 221, 28, 396, 397, 398, 399, 2, 400, 116, 117, 118, 119, 38, 120, 121, 122, 401, 402, 403, 27, 404, 83, 352, 142, 143, 36, 144, 60, 409, 410, 411, 412, 84, 413, 56, 57, 58, 353, 168, 169, 170, 572, 573, 574, 575, 576, 577, 578, 579, 580, 595, 596, 601] (by decide +kernel) (by decide +kernel)
set_option maxRecDepth 20000 in
theorem gL_law_X6_lose : GoodIn wsL_law (wsV RL 89 RX6 yX6_lose wsX6_lose) := goodIn_app (goodIn_of _ (by decide +kernel)) ggL_law_X6_lose
set_option maxRecDepth 20000 in
theorem ggL_law_X6_deliver : GoodIn wsL_law wsX6_deliver := goodIn_r _ [395, 221, 28, 396, 397, 398, 399, 2, 400, 116, 117, 118, 119, 38, 120, 121, 122, 401, 402, 403, 27, 404, 83, 352, 142, 143, 36, 144, 60, 405, 406, 407, 408, 84, 409, 410, 411, 412, 413, 56, 57, 58, 353, 168, 169, 170, 414, 415, 416, 417, 23, 37, 15, 418, 343, 344, 345, 22, 346, 77, 347, 222, 419, 420, 421, 14, 422, 45, 149, 299, 423, 192, 193, 354, 194, 195, 572, 573, 574, 575, 576, 577, 578, 579, 580, 595, 596, 601, 594, 581, 582, 583, 584, 585, 586, 587, 588] (by decide +kernel) (by decide +kernel)
set_option maxRecDepth 20000 in
theorem gL_law_X6_deliver : GoodIn wsL_law (wsV RL 86 RX6 yX6_deliver wsX6_deliver) := goodIn_app (goodIn_of _ (by decide +kernel)) ggL_law_X6_deliver
set_option maxRecDepth 20000 in
theorem ggL_law_X6_knows : GoodIn wsL_law wsX6_knows := goodIn_r _ [473, 221, 15, 396, 23, 116, 117, 118, 2, 119, 38, 120, 121, 122, 228, 229, 230, 14, 231, 43, 149, 142, 143, 36, 144, 60, 363, 308, 309, 436, 151, 152, 22, 153, 77, 154, 572, 573, 574, 575, 576, 577, 578, 579, 580, 581, 582, 583, 584, 585, 586, 587, 588, 601, 594] (by decide +kernel) (by decide +kernel)
set_option maxRecDepth 20000 in
theorem gL_law_X6_knows : GoodIn wsL_law (wsV RL 19 RX6 yX6_knows wsX6_knows) := goodIn_app (goodIn_of _ (by decide +kernel)) ggL_law_X6_knows
set_option maxRecDepth 20000 in
theorem ggL_law_L_repairs : GoodIn wsL_law wsL_repairs := goodIn_r _ [551, 5, 217, 218, 219, 2, 220, 221, 37, 23, 15, 32, 19, 116, 117, 118, 119, 38, 120, 121, 122, 222, 142, 143, 36, 144, 60, 223, 224, 225, 22, 226, 227, 151, 152, 153, 77, 154, 228, 229, 230, 14, 231, 43, 149, 123, 124, 125, 31, 126, 90, 91, 127, 128, 129, 130, 131, 132, 133, 134, 135, 136, 137, 138, 139, 140, 141, 145, 146, 147, 148, 48, 150, 155, 156, 157, 158, 159, 160, 161, 162, 46, 163, 164, 165, 166, 44, 167, 168, 169, 170, 171, 172, 173, 174, 47, 175, 176, 177, 178, 92, 179, 180, 181, 182, 183, 184, 185, 186, 187, 232, 233, 234, 235, 236, 206, 207, 18, 208, 66, 200, 513, 514, 515, 516, 396, 517, 518, 519, 520, 441, 442, 443, 444, 445, 446, 447, 448, 449, 450, 451, 452, 192, 193, 194, 195, 308, 309, 436, 437, 438, 439, 440, 397, 398, 399, 400, 414, 415, 416, 417, 418, 56, 57, 58, 343, 344, 345, 346, 347, 419, 420, 421, 422, 45, 299, 108, 109, 110, 111, 432, 433, 434, 435, 363, 470, 471, 472, 473, 572, 573, 574, 575, 576, 577, 578, 579, 580, 601, 594, 581, 582, 583, 584, 585, 586, 587, 588, 597, 598, 599, 600, 589, 590, 591, 592, 593] (by decide +kernel) (by decide +kernel)
set_option maxRecDepth 20000 in
theorem gL_law_L_repairs : GoodIn wsL_law (va_wsS RL 114 yL_repairs wsL_repairs) := goodIn_app (goodIn_of _ (by decide +kernel)) ggL_law_L_repairs
set_option maxRecDepth 20000 in
theorem ggL_law_L_transfers : GoodIn wsL_law wsL_transfers := goodIn_r _ [554, 108, 109, 110, 2, 111, 38, 217, 218, 219, 220, 221, 37, 23, 15, 32, 19, 116, 117, 118, 119, 120, 121, 122, 222, 142, 143, 36, 144, 60, 223, 224, 225, 22, 226, 227, 151, 152, 153, 77, 154, 228, 229, 230, 14, 231, 43, 149, 123, 124, 125, 31, 126, 90, 91, 127, 128, 129, 130, 131, 132, 133, 134, 135, 136, 137, 138, 139, 140, 141, 145, 146, 147, 148, 48, 150, 155, 156, 157, 158, 159, 160, 161, 162, 46, 163, 164, 165, 166, 44, 167, 168, 169, 170, 171, 172, 173, 174, 47, 175, 176, 177, 178, 92, 179, 180, 181, 182, 183, 184, 185, 186, 187, 232, 233, 234, 235, 236, 206, 207, 18, 208, 66, 200, 470, 471, 472, 473, 396, 363, 308, 309, 436, 465, 466, 467, 468, 382, 419, 420, 421, 422, 45, 457, 458, 459, 460, 50, 461, 462, 463, 464, 334, 210, 211, 212, 69, 335, 214, 215, 216, 70, 364, 383, 354, 194, 195, 423, 192, 193, 469, 453, 454, 455, 456, 418, 56, 57, 58, 397, 398, 399, 400, 414, 415, 416, 417, 343, 344, 345, 346, 347, 299, 572, 573, 574, 575, 576, 577, 578, 579, 580, 601, 594, 581, 582, 583, 584, 585, 586, 587, 588, 597, 598, 599, 600, 589, 590, 591, 592, 593] (by decide +kernel) (by decide +kernel)
set_option maxRecDepth 20000 in
theorem gL_law_L_transfers : GoodIn wsL_law (va_wsS RL 117 yL_transfers wsL_transfers) := goodIn_app (goodIn_of _ (by decide +kernel)) ggL_law_L_transfers
set_option maxRecDepth 20000 in
theorem ggL_law_X6_deliverAll : GoodIn wsL_law wsX6_deliverAll := goodIn_r _ [558, 38, 559, 560, 561, 2, 562, 28, 401, 402, 403, 27, 404, 83, 352, 142, 143, 36, 144, 60, 405, 406, 407, 408, 84, 414, 415, 416, 417, 23, 37, 15, 418, 56, 57, 58, 343, 344, 345, 22, 346, 77, 347, 168, 169, 170, 222, 419, 420, 421, 14, 422, 45, 149, 299, 409, 410, 411, 412, 413, 353, 572, 573, 574, 575, 576, 577, 578, 579, 580, 595, 596, 601, 594, 581, 582, 583, 584, 585, 586, 587, 588] (by decide +kernel) (by decide +kernel)
set_option maxRecDepth 20000 in
theorem gL_law_X6_deliverAll : GoodIn wsL_law (wsV RL 120 RX6 yX6_deliverAll wsX6_deliverAll) := goodIn_app (goodIn_of _ (by decide +kernel)) ggL_law_X6_deliverAll
set_option maxRecDepth 20000 in
theorem ggL_law_L_sound : GoodIn wsL_law wsL_sound := goodIn_r _ [565, 5, 217, 218, 219, 2, 220, 221, 37, 23, 15, 32, 19, 116, 117, 118, 119, 38, 120, 121, 122, 222, 142, 143, 36, 144, 60, 223, 224, 225, 22, 226, 227, 151, 152, 153, 77, 154, 228, 229, 230, 14, 231, 43, 149, 123, 124, 125, 31, 126, 90, 91, 127, 128, 129, 130, 131, 132, 133, 134, 135, 136, 137, 138, 139, 140, 141, 145, 146, 147, 148, 48, 150, 155, 156, 157, 158, 159, 160, 161, 162, 46, 163, 164, 165, 166, 44, 167, 168, 169, 170, 171, 172, 173, 174, 47, 175, 176, 177, 178, 92, 179, 180, 181, 182, 183, 184, 185, 186, 187, 232, 233, 234, 235, 236, 206, 207, 18, 208, 66, 200, 465, 466, 467, 468, 396, 363, 308, 309, 382, 419, 420, 421, 422, 45, 457, 458, 459, 460, 50, 461, 462, 463, 464, 334, 210, 211, 212, 69, 335, 214, 215, 216, 70, 364, 383, 354, 194, 195, 423, 192, 193, 469, 470, 471, 472, 473, 436, 474, 475, 476, 477, 388, 389, 390, 391, 478, 479, 480, 481, 285, 286, 482, 483, 484, 485, 486, 487, 488, 489, 490, 197, 198, 199, 67, 521, 522, 523, 524, 28, 525, 526, 527, 528, 529, 530, 531, 27, 532, 83, 84, 352, 432, 433, 434, 435, 513, 514, 515, 516, 517, 518, 519, 520, 441, 442, 443, 444, 445, 446, 447, 448, 449, 450, 451, 452, 499, 500, 501, 502, 503, 504, 505, 506, 33, 507, 508, 509, 510, 511, 512, 572, 573, 574, 575, 576, 577, 578, 579, 580, 601, 594, 581, 582, 583, 584, 585, 586, 587, 588, 597, 598, 599, 600, 589, 590, 591, 592, 593, 595, 596] (by decide +kernel) (by decide +kernel)
set_option maxRecDepth 20000 in
theorem gL_law_L_sound : GoodIn wsL_law (va_wsS RL 123 yL_sound wsL_sound) := goodIn_app (goodIn_of _ (by decide +kernel)) ggL_law_L_sound
set_option maxRecDepth 20000 in
theorem ggL_law_L_pairs : GoodIn wsL_law wsL_pairs := goodIn_r _ [568, 108, 109, 110, 2, 111, 38, 499, 500, 501, 502, 221, 23, 116, 117, 118, 119, 120, 121, 122, 503, 504, 505, 506, 32, 15, 33, 123, 124, 125, 31, 126, 90, 91, 127, 128, 129, 130, 14, 131, 132, 133, 134, 135, 36, 136, 60, 137, 138, 139, 140, 141, 142, 143, 144, 145, 146, 147, 148, 48, 149, 150, 151, 152, 22, 153, 77, 154, 155, 156, 157, 158, 159, 160, 161, 162, 46, 163, 164, 165, 166, 44, 167, 168, 169, 170, 171, 172, 173, 174, 47, 175, 176, 177, 178, 92, 179, 180, 181, 182, 183, 184, 185, 186, 187, 507, 508, 509, 510, 511, 389, 390, 391, 512, 487, 488, 489, 569, 570, 97, 571, 217, 218, 219, 220, 37, 19, 222, 223, 224, 225, 226, 227, 228, 229, 230, 231, 43, 232, 233, 234, 235, 236, 206, 207, 18, 208, 66, 200, 470, 471, 472, 473, 396, 363, 308, 309, 436, 112, 113, 114, 115, 188, 189, 190, 191, 192, 193, 194, 195, 196, 197, 198, 199, 67, 201, 202, 203, 204, 205, 209, 210, 211, 212, 69, 213, 214, 215, 216, 70, 428, 429, 430, 431, 28, 397, 398, 399, 400, 401, 402, 403, 27, 404, 83, 352, 572, 573, 574, 575, 576, 577, 578, 579, 580, 597, 598, 599, 600, 581, 582, 583, 584, 585, 586, 587, 588, 601, 594, 589, 590, 591, 592, 593, 595, 596] (by decide +kernel) (by decide +kernel)
set_option maxRecDepth 20000 in
theorem gL_law_L_pairs : GoodIn wsL_law (va_wsS RL 126 yL_pairs wsL_pairs) := goodIn_app (goodIn_of _ (by decide +kernel)) ggL_law_L_pairs
set_option maxRecDepth 20000 in
theorem ggL_law_X6_areSame : GoodIn wsL_law wsX6_areSame := goodIn_r _ [502, 221, 23, 116, 117, 118, 2, 119, 38, 120, 121, 122, 503, 504, 505, 506, 32, 15, 33, 123, 124, 125, 31, 126, 90, 91, 127, 128, 129, 130, 14, 131, 132, 133, 134, 135, 36, 136, 60, 137, 138, 139, 140, 141, 142, 143, 144, 145, 146, 147, 148, 48, 149, 150, 151, 152, 22, 153, 77, 154, 155, 156, 157, 158, 159, 160, 161, 162, 46, 163, 164, 165, 166, 44, 167, 168, 169, 170, 171, 172, 173, 174, 47, 175, 176, 177, 178, 92, 179, 180, 181, 182, 183, 184, 185, 186, 187, 507, 508, 509, 510, 511, 389, 390, 391, 512, 487, 488, 489, 572, 573, 574, 575, 576, 577, 578, 579, 580, 597, 598, 599, 600, 581, 582, 583, 584, 585, 586, 587, 588, 601, 594] (by decide +kernel) (by decide +kernel)
set_option maxRecDepth 20000 in
theorem gL_law_X6_areSame : GoodIn wsL_law (wsV RL 38 RX6 yX6_areSame wsX6_areSame) := goodIn_app (goodIn_of _ (by decide +kernel)) ggL_law_X6_areSame
theorem dL_law_0 : decode cL_law 0 = .ok (.new 10, 3) := by decide +kernel
theorem dL_law_3 : decode cL_law 3 = .ok (.dup, 1) := by decide +kernel
theorem dL_law_4 : decode cL_law 4 = .ok (.invokespecial 95, 3) := by decide +kernel
theorem dL_law_7 : decode cL_law 7 = .ok (.astore_n 1, 1) := by decide +kernel
theorem dL_law_8 : decode cL_law 8 = .ok (.iconst 1, 1) := by decide +kernel
theorem dL_law_9 : decode cL_law 9 = .ok (.aload_n 0, 1) := by decide +kernel
theorem dL_law_10 : decode cL_law 10 = .ok (.iconst 0, 1) := by decide +kernel
theorem dL_law_11 : decode cL_law 11 = .ok (.invokestatic 96, 3) := by decide +kernel
theorem dL_law_14 : decode cL_law 14 = .ok (.iconst 5, 1) := by decide +kernel
theorem dL_law_15 : decode cL_law 15 = .ok (.invokestatic 100, 3) := by decide +kernel
theorem dL_law_18 : decode cL_law 18 = .ok (.iadd, 1) := by decide +kernel
theorem dL_law_19 : decode cL_law 19 = .ok (.istore_n 2, 1) := by decide +kernel
theorem dL_law_20 : decode cL_law 20 = .ok (.aload_n 1, 1) := by decide +kernel
theorem dL_law_21 : decode cL_law 21 = .ok (.invokestatic 103, 3) := by decide +kernel
theorem dL_law_24 : decode cL_law 24 = .ok (.ifCond .eq 26, 3) := by decide +kernel
theorem dL_law_27 : decode cL_law 27 = .ok (.aload_n 1, 1) := by decide +kernel
theorem dL_law_28 : decode cL_law 28 = .ok (.iload_n 2, 1) := by decide +kernel
theorem dL_law_29 : decode cL_law 29 = .ok (.invokevirtual 69, 3) := by decide +kernel
theorem dL_law_32 : decode cL_law 32 = .ok (.iconst 2, 1) := by decide +kernel
theorem dL_law_33 : decode cL_law 33 = .ok (.if_icmp .ne 17, 3) := by decide +kernel
theorem dL_law_36 : decode cL_law 36 = .ok (.aload_n 1, 1) := by decide +kernel
theorem dL_law_37 : decode cL_law 37 = .ok (.invokevirtual 107, 3) := by decide +kernel
theorem dL_law_40 : decode cL_law 40 = .ok (.ifCond .ne 10, 3) := by decide +kernel
theorem dL_law_43 : decode cL_law 43 = .ok (.aload_n 1, 1) := by decide +kernel
theorem dL_law_44 : decode cL_law 44 = .ok (.invokestatic 103, 3) := by decide +kernel
theorem dL_law_47 : decode cL_law 47 = .ok (.ifCond .ne 5, 3) := by decide +kernel
theorem dL_law_50 : decode cL_law 50 = .ok (.iconst 0, 1) := by decide +kernel
theorem dL_law_51 : decode cL_law 51 = .ok (.ireturn, 1) := by decide +kernel
theorem dL_law_52 : decode cL_law 52 = .ok (.iconst 0, 1) := by decide +kernel
theorem dL_law_53 : decode cL_law 53 = .ok (.istore_n 3, 1) := by decide +kernel
theorem dL_law_54 : decode cL_law 54 = .ok (.iconst 0, 1) := by decide +kernel
theorem dL_law_55 : decode cL_law 55 = .ok (.istore 4, 2) := by decide +kernel
theorem dL_law_57 : decode cL_law 57 = .ok (.iload 4, 2) := by decide +kernel
theorem dL_law_59 : decode cL_law 59 = .ok (.bipush 26, 2) := by decide +kernel
theorem dL_law_61 : decode cL_law 61 = .ok (.if_icmp .ge 747, 3) := by decide +kernel
theorem dL_law_64 : decode cL_law 64 = .ok (.aload_n 0, 1) := by decide +kernel
theorem dL_law_65 : decode cL_law 65 = .ok (.iconst 1, 1) := by decide +kernel
theorem dL_law_66 : decode cL_law 66 = .ok (.iload 4, 2) := by decide +kernel
theorem dL_law_68 : decode cL_law 68 = .ok (.iadd, 1) := by decide +kernel
theorem dL_law_69 : decode cL_law 69 = .ok (.invokestatic 96, 3) := by decide +kernel
theorem dL_law_72 : decode cL_law 72 = .ok (.istore 5, 2) := by decide +kernel
theorem dL_law_74 : decode cL_law 74 = .ok (.iload 5, 2) := by decide +kernel
theorem dL_law_76 : decode cL_law 76 = .ok (.iconst 4, 1) := by decide +kernel
theorem dL_law_77 : decode cL_law 77 = .ok (.ishr, 1) := by decide +kernel
theorem dL_law_78 : decode cL_law 78 = .ok (.iload_n 2, 1) := by decide +kernel
theorem dL_law_79 : decode cL_law 79 = .ok (.invokestatic 100, 3) := by decide +kernel
theorem dL_law_82 : decode cL_law 82 = .ok (.istore 6, 2) := by decide +kernel
theorem dL_law_84 : decode cL_law 84 = .ok (.iload 6, 2) := by decide +kernel
theorem dL_law_86 : decode cL_law 86 = .ok (.iconst 1, 1) := by decide +kernel
theorem dL_law_87 : decode cL_law 87 = .ok (.iadd, 1) := by decide +kernel
theorem dL_law_88 : decode cL_law 88 = .ok (.iload 5, 2) := by decide +kernel
theorem dL_law_90 : decode cL_law 90 = .ok (.bipush 7, 2) := by decide +kernel
theorem dL_law_92 : decode cL_law 92 = .ok (.ishr, 1) := by decide +kernel
theorem dL_law_93 : decode cL_law 93 = .ok (.iconst 4, 1) := by decide +kernel
theorem dL_law_94 : decode cL_law 94 = .ok (.invokestatic 100, 3) := by decide +kernel

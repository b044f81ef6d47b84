set_option maxRecDepth 20000 in
theorem ggL_law_X7_lift : GoodIn wsL_law wsX7_lift := goodIn_r _ [481, 149, 267, 349, 101, 166, 107, 268, 269, 270, 5, 271, 99, 150, 151, 152, 276, 277, 278, 279, 108, 280, 281, 282, 283, 284, 285, 286, 287, 103, 288, 289, 290, 291, 100, 292, 293, 294, 295, 296, 297, 298, 299, 300, 301, 302, 303, 304, 305, 306, 307, 308, 309, 310, 429, 430, 431, 432, 102, 106, 105, 770, 771, 772, 773, 774, 775, 776, 777, 778, 779, 780, 781, 782, 783] (by decide +kernel) (by decide +kernel)
set_option maxRecDepth 20000 in
theorem gL_law_X7_lift : GoodIn wsL_law (wsV RL 57 RX7 yX7_lift wsX7_lift) := goodIn_app (goodIn_of _ (by decide +kernel)) ggL_law_X7_lift
set_option maxRecDepth 20000 in
theorem ggL_law_X6_deliver : GoodIn wsL_law wsX6_deliver := goodIn_r _ [485, 116, 28, 486, 487, 488, 489, 2, 490, 179, 180, 181, 182, 38, 117, 118, 119, 491, 492, 493, 27, 494, 83, 420, 184, 185, 36, 186, 60, 495, 496, 497, 498, 84, 499, 500, 501, 502, 503, 56, 57, 58, 421, 234, 235, 236, 504, 505, 506, 507, 23, 37, 15, 508, 411, 412, 413, 22, 414, 77, 415, 183, 509, 510, 511, 14, 512, 45, 200, 362, 513, 386, 387, 422, 423, 424, 761, 762, 763, 764, 765, 766, 767, 768, 769, 798, 799, 804, 797, 784, 785, 786, 787, 788, 789, 790, 791] (by decide +kernel) (by decide +kernel)
set_option maxRecDepth 20000 in
theorem gL_law_X6_deliver : GoodIn wsL_law (wsV RL 58 RX6 yX6_deliver wsX6_deliver) := goodIn_app (goodIn_of _ (by decide +kernel)) ggL_law_X6_deliver
set_option maxRecDepth 20000 in
theorem ggL_law_X7_deliver : GoodIn wsL_law wsX7_deliver := goodIn_r _ [517, 149, 106, 518, 519, 520, 521, 5, 522, 268, 269, 270, 271, 99, 150, 151, 152, 523, 524, 525, 526, 105, 300, 301, 302, 527, 528, 529, 530, 103, 102, 288, 289, 290, 291, 100, 770, 771, 772, 773, 774, 775, 776, 777, 778, 779, 780, 781, 782, 783] (by decide +kernel) (by decide +kernel)
set_option maxRecDepth 20000 in
theorem gL_law_X7_deliver : GoodIn wsL_law (wsV RL 61 RX7 yX7_deliver wsX7_deliver) := goodIn_app (goodIn_of _ (by decide +kernel)) ggL_law_X7_deliver
set_option maxRecDepth 20000 in
theorem ggL_law_X6_lose : GoodIn wsL_law wsX6_lose := goodIn_r _ [534, 116, 28, 486, 487, 488, 489, 2, 490, 179, 180, 181, 182, 38, 117, 118, 119, 491, 492, 493, 27, 494, 83, 420, 184, 185, 36, 186, 60, 499, 500, 501, 502, 84, 503, 56, 57, 58, 421, 234, 235, 236, 761, 762, 763, 764, 765, 766, 767, 768, 769, 798, 799, 804] (by decide +kernel) (by decide +kernel)
set_option maxRecDepth 20000 in
theorem gL_law_X6_lose : GoodIn wsL_law (wsV RL 62 RX6 yX6_lose wsX6_lose) := goodIn_app (goodIn_of _ (by decide +kernel)) ggL_law_X6_lose
set_option maxRecDepth 20000 in
theorem ggL_law_X7_lose : GoodIn wsL_law wsX7_lose := goodIn_r _ [538, 149, 106, 518, 519, 520, 521, 5, 522, 268, 269, 270, 271, 99, 150, 151, 152, 523, 524, 525, 526, 105, 770, 771, 772, 773, 774, 775, 776, 777, 778, 779, 780, 781, 782, 783] (by decide +kernel) (by decide +kernel)
set_option maxRecDepth 20000 in
theorem gL_law_X7_lose : GoodIn wsL_law (wsV RL 65 RX7 yX7_lose wsX7_lose) := goodIn_app (goodIn_of _ (by decide +kernel)) ggL_law_X7_lose
set_option maxRecDepth 20000 in
theorem ggL_law_X6_deliverAll : GoodIn wsL_law wsX6_deliverAll := goodIn_r _ [542, 38, 543, 544, 545, 2, 546, 28, 491, 492, 493, 27, 494, 83, 420, 184, 185, 36, 186, 60, 495, 496, 497, 498, 84, 504, 505, 506, 507, 23, 37, 15, 508, 56, 57, 58, 411, 412, 413, 22, 414, 77, 415, 234, 235, 236, 183, 509, 510, 511, 14, 512, 45, 200, 362, 499, 500, 501, 502, 503, 421, 761, 762, 763, 764, 765, 766, 767, 768, 769, 798, 799, 804, 797, 784, 785, 786, 787, 788, 789, 790, 791] (by decide +kernel) (by decide +kernel)
set_option maxRecDepth 20000 in
theorem gL_law_X6_deliverAll : GoodIn wsL_law (wsV RL 66 RX6 yX6_deliverAll wsX6_deliverAll) := goodIn_app (goodIn_of _ (by decide +kernel)) ggL_law_X6_deliverAll
set_option maxRecDepth 20000 in
theorem ggL_law_X7_deliverAll : GoodIn wsL_law wsX7_deliverAll := goodIn_r _ [550, 106, 523, 524, 525, 5, 526, 105, 300, 301, 302, 527, 528, 529, 530, 103, 102, 288, 289, 290, 291, 100, 770, 771, 772, 773, 774, 775, 776, 777, 778, 779, 780, 781, 782, 783] (by decide +kernel) (by decide +kernel)
set_option maxRecDepth 20000 in
theorem gL_law_X7_deliverAll : GoodIn wsL_law (wsV RL 69 RX7 yX7_deliverAll wsX7_deliverAll) := goodIn_app (goodIn_of _ (by decide +kernel)) ggL_law_X7_deliverAll
set_option maxRecDepth 20000 in
theorem ggL_law_X6_waiting : GoodIn wsL_law wsX6_waiting := goodIn_r _ [554, 28, 116, 487, 488, 489, 2, 490, 179, 180, 181, 182, 38, 117, 118, 119, 491, 492, 493, 27, 494, 83, 420, 184, 185, 36, 186, 60, 761, 762, 763, 764, 765, 766, 767, 768, 769, 798, 799, 804] (by decide +kernel) (by decide +kernel)
set_option maxRecDepth 20000 in
theorem gL_law_X6_waiting : GoodIn wsL_law (wsV RL 70 RX6 yX6_waiting wsX6_waiting) := goodIn_app (goodIn_of _ (by decide +kernel)) ggL_law_X6_waiting
set_option maxRecDepth 20000 in
theorem ggL_law_X7_waiting : GoodIn wsL_law wsX7_waiting := goodIn_r _ [558, 106, 149, 519, 520, 521, 5, 522, 268, 269, 270, 271, 99, 150, 151, 152, 770, 771, 772, 773, 774, 775, 776, 777, 778, 779, 780, 781, 782, 783] (by decide +kernel) (by decide +kernel)
set_option maxRecDepth 20000 in
theorem gL_law_X7_waiting : GoodIn wsL_law (wsV RL 73 RX7 yX7_waiting wsX7_waiting) := goodIn_app (goodIn_of _ (by decide +kernel)) ggL_law_X7_waiting
set_option maxRecDepth 20000 in
theorem ggL_law_X6_gap : GoodIn wsL_law wsX6_gap := goodIn_r _ [562, 116, 23, 486, 179, 180, 181, 2, 182, 38, 117, 118, 119, 441, 371, 372, 563, 192, 193, 22, 194, 77, 195, 184, 185, 36, 186, 60, 761, 762, 763, 764, 765, 766, 767, 768, 769, 797, 804] (by decide +kernel) (by decide +kernel)
set_option maxRecDepth 20000 in
theorem gL_law_X6_gap : GoodIn wsL_law (wsV RL 74 RX6 yX6_gap wsX6_gap) := goodIn_app (goodIn_of _ (by decide +kernel)) ggL_law_X6_gap
set_option maxRecDepth 20000 in
theorem ggL_law_X7_gap : GoodIn wsL_law wsX7_gap := goodIn_r _ [567, 149, 518, 268, 269, 270, 5, 271, 99, 150, 151, 152, 568, 569, 570, 571, 101, 300, 301, 302, 284, 285, 286, 287, 103, 770, 771, 772, 773, 774, 775, 776, 777, 778, 779, 780, 781, 782, 783] (by decide +kernel) (by decide +kernel)
set_option maxRecDepth 20000 in
theorem gL_law_X7_gap : GoodIn wsL_law (wsV RL 77 RX7 yX7_gap wsX7_gap) := goodIn_app (goodIn_of _ (by decide +kernel)) ggL_law_X7_gap
set_option maxRecDepth 20000 in
theorem ggL_law_X6_repair : GoodIn wsL_law wsX6_repair := goodIn_r _ [575, 116, 487, 488, 489, 2, 490, 179, 180, 181, 182, 38, 117, 118, 119, 576, 577, 578, 579, 23, 580, 581, 582, 22, 583, 191, 192, 193, 194, 77, 195, 184, 185, 36, 186, 60, 584, 585, 586, 587, 386, 387, 423, 424, 371, 372, 563, 504, 505, 506, 507, 37, 15, 508, 56, 57, 58, 411, 412, 413, 414, 415, 234, 235, 236, 183, 509, 510, 511, 14, 512, 45, 200, 362, 761, 762, 763, 764, 765, 766, 767, 768, 769, 797, 804, 784, 785, 786, 787, 788, 789, 790, 791] (by decide +kernel) (by decide +kernel)
set_option maxRecDepth 20000 in
theorem gL_law_X6_repair : GoodIn wsL_law (wsV RL 78 RX6 yX6_repair wsX6_repair) := goodIn_app (goodIn_of _ (by decide +kernel)) ggL_law_X6_repair
set_option maxRecDepth 20000 in
theorem ggL_law_X7_repair : GoodIn wsL_law wsX7_repair := goodIn_r _ [591, 149, 519, 520, 521, 5, 522, 268, 269, 270, 271, 99, 150, 151, 152, 592, 593, 594, 595, 284, 285, 286, 287, 103, 568, 569, 570, 571, 101, 300, 301, 302, 527, 528, 529, 530, 102, 288, 289, 290, 291, 100, 770, 771, 772, 773, 774, 775, 776, 777, 778, 779, 780, 781, 782, 783] (by decide +kernel) (by decide +kernel)
set_option maxRecDepth 20000 in
theorem gL_law_X7_repair : GoodIn wsL_law (wsV RL 81 RX7 yX7_repair wsX7_repair) := goodIn_app (goodIn_of _ (by decide +kernel)) ggL_law_X7_repair
set_option maxRecDepth 20000 in
theorem ggL_law_X6_transfer : GoodIn wsL_law wsX6_transfer := goodIn_r _ [599, 116, 23, 15, 37, 508, 56, 57, 58, 487, 488, 489, 2, 490, 179, 180, 181, 182, 38, 117, 118, 119, 563, 192, 193, 22, 194, 77, 195, 184, 185, 36, 186, 60, 504, 505, 506, 507, 411, 412, 413, 414, 415, 234, 235, 236, 183, 509, 510, 511, 14, 512, 45, 200, 362, 600, 601, 602, 603, 44, 50, 604, 605, 606, 18, 607, 66, 262, 402, 338, 339, 340, 69, 403, 342, 343, 344, 70, 761, 762, 763, 764, 765, 766, 767, 768, 769, 797, 804, 784, 785, 786, 787, 788, 789, 790, 791, 792, 793, 794, 795, 796] (by decide +kernel) (by decide +kernel)
set_option maxRecDepth 20000 in
theorem gL_law_X6_transfer : GoodIn wsL_law (wsV RL 82 RX6 yX6_transfer wsX6_transfer) := goodIn_app (goodIn_of _ (by decide +kernel)) ggL_law_X6_transfer
set_option maxRecDepth 20000 in
theorem ggL_law_X7_transfer : GoodIn wsL_law wsX7_transfer := goodIn_r _ [611, 149, 102, 519, 520, 521, 5, 522, 268, 269, 270, 271, 99, 150, 151, 152, 284, 285, 286, 287, 103, 527, 528, 529, 530, 288, 289, 290, 291, 100, 612, 613, 614, 615, 770, 771, 772, 773, 774, 775, 776, 777, 778, 779, 780, 781, 782, 783] (by decide +kernel) (by decide +kernel)
set_option maxRecDepth 20000 in
theorem gL_law_X7_transfer : GoodIn wsL_law (wsV RL 85 RX7 yX7_transfer wsX7_transfer) := goodIn_app (goodIn_of _ (by decide +kernel)) ggL_law_X7_transfer
set_option maxRecDepth 20000 in
theorem ggL_law_X6_operation : GoodIn wsL_law wsX6_operation := goodIn_r _ [619, 116, 15, 486, 179, 180, 181, 2, 182, 38, 117, 118, 119, 196, 197, 198, 14, 199, 43, 200, 184, 185, 36, 186, 60, 441, 371, 372, 464, 230, 231, 232, 44, 509, 510, 511, 512, 45, 600, 601, 602, 603, 50, 604, 605, 606, 18, 607, 66, 262, 402, 338, 339, 340, 69, 403, 342, 343, 344, 70, 442, 246, 247, 248, 258, 259, 260, 261, 465, 226, 227, 228, 46, 422, 423, 424, 513, 386, 387, 620, 238, 239, 240, 47, 761, 762, 763, 764, 765, 766, 767, 768, 769, 784, 785, 786, 787, 788, 789, 790, 791, 804, 792, 793, 794, 795, 796] (by decide +kernel) (by decide +kernel)
set_option maxRecDepth 20000 in
theorem gL_law_X6_operation : GoodIn wsL_law (wsV RL 86 RX6 yX6_operation wsX6_operation) := goodIn_app (goodIn_of _ (by decide +kernel)) ggL_law_X6_operation
set_option maxRecDepth 20000 in
theorem ggL_law_X7_operation : GoodIn wsL_law wsX7_operation := goodIn_r _ [624, 149, 101, 518, 268, 269, 270, 5, 271, 99, 150, 151, 152, 300, 301, 302, 288, 289, 290, 291, 100, 612, 613, 614, 615, 770, 771, 772, 773, 774, 775, 776, 777, 778, 779, 780, 781, 782, 783] (by decide +kernel) (by decide +kernel)
set_option maxRecDepth 20000 in
theorem gL_law_X7_operation : GoodIn wsL_law (wsV RL 89 RX7 yX7_operation wsX7_operation) := goodIn_app (goodIn_of _ (by decide +kernel)) ggL_law_X7_operation
set_option maxRecDepth 20000 in
theorem ggL_law_X6_knows : GoodIn wsL_law wsX6_knows := goodIn_r _ [628, 116, 15, 486, 23, 179, 180, 181, 2, 182, 38, 117, 118, 119, 196, 197, 198, 14, 199, 43, 200, 184, 185, 36, 186, 60, 441, 371, 372, 563, 192, 193, 22, 194, 77, 195, 761, 762, 763, 764, 765, 766, 767, 768, 769, 784, 785, 786, 787, 788, 789, 790, 791, 804, 797] (by decide +kernel) (by decide +kernel)
set_option maxRecDepth 20000 in
theorem gL_law_X6_knows : GoodIn wsL_law (wsV RL 90 RX6 yX6_knows wsX6_knows) := goodIn_app (goodIn_of _ (by decide +kernel)) ggL_law_X6_knows
set_option maxRecDepth 20000 in
theorem ggL_law_X7_knows : GoodIn wsL_law wsX7_knows := goodIn_r _ [632, 149, 101, 518, 103, 268, 269, 270, 5, 271, 99, 150, 151, 152, 300, 301, 302, 770, 771, 772, 773, 774, 775, 776, 777, 778, 779, 780, 781, 782, 783] (by decide +kernel) (by decide +kernel)
set_option maxRecDepth 20000 in
theorem gL_law_X7_knows : GoodIn wsL_law (wsV RL 93 RX7 yX7_knows wsX7_knows) := goodIn_app (goodIn_of _ (by decide +kernel)) ggL_law_X7_knows
set_option maxRecDepth 20000 in
theorem ggL_law_X6_stroke : GoodIn wsL_law wsX6_stroke := goodIn_r _ [636, 116, 32, 15, 23, 486, 117, 118, 2, 119, 179, 180, 181, 182, 38, 201, 202, 203, 31, 204, 90, 91, 205, 206, 207, 208, 14, 209, 124, 210, 126, 127, 36, 128, 60, 211, 212, 213, 214, 215, 184, 185, 186, 216, 217, 218, 219, 48, 200, 220, 192, 193, 22, 194, 77, 195, 221, 222, 223, 224, 225, 226, 227, 228, 46, 229, 230, 231, 232, 44, 233, 234, 235, 236, 237, 238, 239, 240, 47, 241, 242, 243, 244, 92, 245, 246, 247, 248, 249, 250, 251, 252, 253, 254, 255, 256, 257, 474, 475, 476, 477, 637, 638, 639, 640, 258, 259, 260, 18, 261, 66, 262, 337, 338, 339, 340, 69, 341, 342, 343, 344, 70, 641, 642, 643, 644, 513, 386, 387, 422, 423, 424, 645, 646, 647, 648, 649, 394, 395, 396, 67, 761, 762, 763, 764, 765, 766, 767, 768, 769, 800, 801, 802, 803, 784, 785, 786, 787, 788, 789, 790, 791, 804, 797, 792, 793, 794, 795, 796] (by decide +kernel) (by decide +kernel)
set_option maxRecDepth 20000 in
theorem gL_law_X6_stroke : GoodIn wsL_law (wsV RL 94 RX6 yX6_stroke wsX6_stroke) := goodIn_app (goodIn_of _ (by decide +kernel)) ggL_law_X6_stroke
set_option maxRecDepth 20000 in
theorem ggL_law_X7_stroke : GoodIn wsL_law wsX7_stroke := goodIn_r _ [653, 149, 267, 518, 107, 108, 268, 269, 270, 5, 271, 99, 150, 151, 152, 276, 277, 278, 279, 280, 281, 282, 283, 284, 285, 286, 287, 103, 288, 289, 290, 291, 100, 292, 293, 294, 295, 296, 297, 298, 299, 300, 301, 302, 303, 304, 305, 306, 307, 308, 309, 310, 770, 771, 772, 773, 774, 775, 776, 777, 778, 779, 780, 781, 782, 783] (by decide +kernel) (by decide +kernel)
set_option maxRecDepth 20000 in
theorem gL_law_X7_stroke : GoodIn wsL_law (wsV RL 97 RX7 yX7_stroke wsX7_stroke) := goodIn_app (goodIn_of _ (by decide +kernel)) ggL_law_X7_stroke
set_option maxRecDepth 20000 in
theorem ggL_law_X6_strokeAt : GoodIn wsL_law wsX6_strokeAt := goodIn_r _ [657, 116, 32, 15, 23, 486, 179, 180, 181, 2, 182, 38, 117, 118, 119, 201, 202, 203, 31, 204, 90, 91, 205, 206, 207, 208, 14, 209, 124, 210, 126, 127, 36, 128, 60, 211, 212, 213, 214, 215, 184, 185, 186, 216, 217, 218, 219, 48, 200, 220, 192, 193, 22, 194, 77, 195, 221, 222, 223, 224, 225, 226, 227, 228, 46, 229, 230, 231, 232, 44, 233, 234, 235, 236, 237, 238, 239, 240, 47, 241, 242, 243, 244, 92, 245, 246, 247, 248, 249, 250, 251, 252, 253, 254, 255, 256, 257, 474, 475, 476, 477, 658, 659, 660, 18, 661, 66, 262, 402, 338, 339, 340, 69, 403, 342, 343, 344, 70, 761, 762, 763, 764, 765, 766, 767, 768, 769, 784, 785, 786, 787, 788, 789, 790, 791, 800, 801, 802, 803, 804, 797, 792, 793, 794, 795, 796] (by decide +kernel) (by decide +kernel)
set_option maxRecDepth 20000 in
theorem gL_law_X6_strokeAt : GoodIn wsL_law (wsV RL 98 RX6 yX6_strokeAt wsX6_strokeAt) := goodIn_app (goodIn_of _ (by decide +kernel)) ggL_law_X6_strokeAt
set_option maxRecDepth 20000 in
theorem ggL_law_X7_strokeAt : GoodIn wsL_law wsX7_strokeAt := goodIn_r _ [665, 149, 518, 267, 107, 268, 269, 270, 5, 271, 99, 150, 151, 152, 276, 277, 278, 279, 108, 280, 281, 282, 283, 284, 285, 286, 287, 103, 288, 289, 290, 291, 100, 292, 293, 294, 295, 296, 297, 298, 299, 300, 301, 302, 303, 304, 305, 306, 307, 308, 309, 310, 770, 771, 772, 773, 774, 775, 776, 777, 778, 779, 780, 781, 782, 783] (by decide +kernel) (by decide +kernel)
set_option maxRecDepth 20000 in
theorem gL_law_X7_strokeAt : GoodIn wsL_law (wsV RL 101 RX7 yX7_strokeAt wsX7_strokeAt) := goodIn_app (goodIn_of _ (by decide +kernel)) ggL_law_X7_strokeAt
set_option maxRecDepth 20000 in
theorem ggL_law_X6_digest : GoodIn wsL_law wsX6_digest := goodIn_r _ [669, 32, 15, 23, 179, 180, 181, 2, 182, 38, 117, 118, 119, 201, 202, 203, 31, 204, 90, 91, 205, 206, 207, 208, 14, 209, 124, 210, 126, 127, 36, 128, 60, 211, 212, 213, 214, 215, 184, 185, 186, 216, 217, 218, 219, 48, 200, 220, 192, 193, 22, 194, 77, 195, 221, 222, 223, 224, 225, 226, 227, 228, 46, 229, 230, 231, 232, 44, 233, 234, 235, 236, 237, 238, 239, 240, 47, 241, 242, 243, 244, 92, 245, 246, 247, 248, 249, 250, 251, 252, 253, 670, 671, 672, 673, 386, 387, 423, 424, 674, 394, 395, 18, 396, 67, 262, 675, 676, 677, 678, 679, 259, 260, 261, 66, 680, 338, 339, 340, 69, 681, 342, 343, 344, 70, 761, 762, 763, 764, 765, 766, 767, 768, 769, 800, 801, 802, 803, 784, 785, 786, 787, 788, 789, 790, 791, 804, 797, 792, 793, 794, 795, 796] (by decide +kernel) (by decide +kernel)
set_option maxRecDepth 20000 in
theorem gL_law_X6_digest : GoodIn wsL_law (wsV RL 102 RX6 yX6_digest wsX6_digest) := goodIn_app (goodIn_of _ (by decide +kernel)) ggL_law_X6_digest
set_option maxRecDepth 20000 in
theorem ggL_law_X7_digest : GoodIn wsL_law wsX7_digest := goodIn_r _ [685, 267, 107, 108, 268, 269, 270, 5, 271, 99, 150, 151, 152, 276, 277, 278, 279, 280, 281, 282, 283, 284, 285, 286, 287, 103, 288, 289, 290, 291, 100, 292, 293, 294, 295, 296, 297, 298, 299, 300, 301, 302, 303, 304, 305, 306, 307, 308, 309, 310, 770, 771, 772, 773, 774, 775, 776, 777, 778, 779, 780, 781, 782, 783] (by decide +kernel) (by decide +kernel)
set_option maxRecDepth 20000 in
theorem gL_law_X7_digest : GoodIn wsL_law (wsV RL 105 RX7 yX7_digest wsX7_digest) := goodIn_app (goodIn_of _ (by decide +kernel)) ggL_law_X7_digest
set_option maxRecDepth 20000 in
theorem ggL_law_X6_areSame : GoodIn wsL_law wsX6_areSame := goodIn_r _ [689, 116, 23, 179, 180, 181, 2, 182, 38, 117, 118, 119, 690, 691, 692, 693, 32, 15, 33, 201, 202, 203, 31, 204, 90, 91, 205, 206, 207, 208, 14, 209, 124, 210, 126, 127, 36, 128, 60, 211, 212, 213, 214, 215, 184, 185, 186, 216, 217, 218, 219, 48, 200, 220, 192, 193, 22, 194, 77, 195, 221, 222, 223, 224, 225, 226, 227, 228, 46, 229, 230, 231, 232, 44, 233, 234, 235, 236, 237, 238, 239, 240, 47, 241, 242, 243, 244, 92, 245, 246, 247, 248, 249, 250, 251, 252, 253, 694, 695, 696, 697, 698, 475, 476, 477, 699, 646, 647, 648, 761, 762, 763, 764, 765, 766, 767, 768, 769, 800, 801, 802, 803, 784, 785, 786, 787, 788, 789, 790, 791, 804, 797] (by decide +kernel) (by decide +kernel)
set_option maxRecDepth 20000 in
theorem gL_law_X6_areSame : GoodIn wsL_law (wsV RL 106 RX6 yX6_areSame wsX6_areSame) := goodIn_app (goodIn_of _ (by decide +kernel)) ggL_law_X6_areSame
set_option maxRecDepth 20000 in
theorem ggL_law_X7_areSame : GoodIn wsL_law wsX7_areSame := goodIn_r _ [703, 149, 268, 269, 270, 5, 271, 99, 150, 151, 152, 704, 705, 706, 707, 267, 109, 107, 110, 108, 276, 277, 278, 279, 280, 281, 282, 283, 284, 285, 286, 287, 103, 288, 289, 290, 291, 100, 292, 293, 294, 295, 296, 297, 298, 299, 300, 301, 302, 303, 304, 305, 306, 307, 308, 309, 310, 770, 771, 772, 773, 774, 775, 776, 777, 778, 779, 780, 781, 782, 783] (by decide +kernel) (by decide +kernel)
set_option maxRecDepth 20000 in
theorem gL_law_X7_areSame : GoodIn wsL_law (wsV RL 109 RX7 yX7_areSame wsX7_areSame) := goodIn_app (goodIn_of _ (by decide +kernel)) ggL_law_X7_areSame
set_option maxRecDepth 20000 in
theorem ggL_law_X6_differing : GoodIn wsL_law wsX6_differing := goodIn_r _ [711, 38, 24, 712, 713, 714, 2, 715, 23, 28, 716, 717, 718, 22, 719, 77, 720, 212, 213, 36, 214, 60, 215, 184, 185, 186, 491, 492, 493, 27, 494, 83, 420, 495, 496, 497, 498, 84, 411, 412, 413, 414, 415, 234, 235, 236, 690, 691, 692, 693, 32, 15, 33, 201, 202, 203, 31, 204, 90, 91, 205, 206, 207, 208, 14, 209, 124, 210, 126, 127, 128, 211, 216, 217, 218, 219, 48, 200, 220, 192, 193, 194, 195, 221, 222, 223, 224, 225, 226, 227, 228, 46, 229, 230, 231, 232, 44, 233, 237, 238, 239, 240, 47, 241, 242, 243, 244, 92, 245, 246, 247, 248, 249, 250, 251, 252, 253, 694, 695, 696, 697, 698, 475, 476, 477, 699, 646, 647, 648, 761, 762, 763, 764, 765, 766, 767, 768, 769, 797, 804, 798, 799, 800, 801, 802, 803, 784, 785, 786, 787, 788, 789, 790, 791] (by decide +kernel) (by decide +kernel)
set_option maxRecDepth 20000 in
theorem gL_law_X6_differing : GoodIn wsL_law (wsV RL 110 RX6 yX6_differing wsX6_differing) := goodIn_app (goodIn_of _ (by decide +kernel)) ggL_law_X6_differing
set_option maxRecDepth 20000 in
theorem ggL_law_X7_differing : GoodIn wsL_law wsX7_differing := goodIn_r _ [724, 111, 103, 106, 105, 99, 300, 301, 5, 302, 704, 705, 706, 707, 267, 109, 107, 110, 108, 276, 277, 278, 279, 280, 281, 282, 283, 284, 285, 286, 287, 288, 289, 290, 291, 100, 292, 293, 294, 295, 150, 151, 152, 296, 297, 298, 299, 303, 304, 305, 306, 307, 308, 309, 310, 770, 771, 772, 773, 774, 775, 776, 777, 778, 779, 780, 781, 782, 783] (by decide +kernel) (by decide +kernel)
set_option maxRecDepth 20000 in
theorem gL_law_X7_differing : GoodIn wsL_law (wsV RL 113 RX7 yX7_differing wsX7_differing) := goodIn_app (goodIn_of _ (by decide +kernel)) ggL_law_X7_differing
set_option maxRecDepth 20000 in
theorem ggL_law_X6_bestHelper : GoodIn wsL_law wsX6_bestHelper := goodIn_r _ [728, 116, 486, 38, 179, 180, 181, 2, 182, 117, 118, 119, 729, 730, 731, 732, 576, 577, 578, 579, 23, 580, 581, 582, 22, 583, 191, 192, 193, 194, 77, 195, 184, 185, 36, 186, 60, 584, 585, 586, 587, 386, 387, 423, 424, 371, 372, 563, 761, 762, 763, 764, 765, 766, 767, 768, 769, 797, 804] (by decide +kernel) (by decide +kernel)
set_option maxRecDepth 20000 in
theorem gL_law_X6_bestHelper : GoodIn wsL_law (wsV RL 114 RX6 yX6_bestHelper wsX6_bestHelper) := goodIn_app (goodIn_of _ (by decide +kernel)) ggL_law_X6_bestHelper
set_option maxRecDepth 20000 in
theorem ggL_law_X7_bestHelper : GoodIn wsL_law wsX7_bestHelper := goodIn_r _ [736, 149, 518, 99, 268, 269, 270, 5, 271, 150, 151, 152, 737, 738, 739, 740, 592, 593, 594, 595, 284, 285, 286, 287, 103, 568, 569, 570, 571, 101, 300, 301, 302, 770, 771, 772, 773, 774, 775, 776, 777, 778, 779, 780, 781, 782, 783] (by decide +kernel) (by decide +kernel)
set_option maxRecDepth 20000 in
theorem gL_law_X7_bestHelper : GoodIn wsL_law (wsV RL 117 RX7 yX7_bestHelper wsX7_bestHelper) := goodIn_app (goodIn_of _ (by decide +kernel)) ggL_law_X7_bestHelper
set_option maxRecDepth 20000 in
theorem ggL_law_X6_endangered : GoodIn wsL_law wsX6_endangered := goodIn_r _ [744, 116, 15, 28, 179, 180, 181, 2, 182, 38, 117, 118, 119, 196, 197, 198, 14, 199, 43, 200, 184, 185, 36, 186, 60, 441, 371, 372, 745, 746, 747, 748, 23, 563, 192, 193, 22, 194, 77, 195, 749, 750, 751, 27, 752, 83, 84, 420, 761, 762, 763, 764, 765, 766, 767, 768, 769, 784, 785, 786, 787, 788, 789, 790, 791, 804, 797, 798, 799] (by decide +kernel) (by decide +kernel)
set_option maxRecDepth 20000 in
theorem gL_law_X6_endangered : GoodIn wsL_law (wsV RL 118 RX6 yX6_endangered wsX6_endangered) := goodIn_app (goodIn_of _ (by decide +kernel)) ggL_law_X6_endangered
set_option maxRecDepth 20000 in
theorem ggL_law_X7_endangered : GoodIn wsL_law wsX7_endangered := goodIn_r _ [756, 149, 101, 268, 269, 270, 5, 271, 99, 150, 151, 152, 757, 758, 759, 760, 106, 105, 300, 301, 302, 284, 285, 286, 287, 103, 770, 771, 772, 773, 774, 775, 776, 777, 778, 779, 780, 781, 782, 783] (by decide +kernel) (by decide +kernel)
set_option maxRecDepth 20000 in
theorem gL_law_X7_endangered : GoodIn wsL_law (wsV RL 121 RX7 yX7_endangered wsX7_endangered) := goodIn_app (goodIn_of _ (by decide +kernel)) ggL_law_X7_endangered
theorem dL_law_0 : decode cL_law 0 = .ok (.new 7, 3) := by decide +kernel
theorem dL_law_3 : decode cL_law 3 = .ok (.dup, 1) := by decide +kernel
theorem dL_law_4 : decode cL_law 4 = .ok (.invokespecial 9, 3) := by decide +kernel
theorem dL_law_7 : decode cL_law 7 = .ok (.astore_n 1, 1) := by decide +kernel
theorem dL_law_8 : decode cL_law 8 = .ok (.new 10, 3) := by decide +kernel
theorem dL_law_11 : decode cL_law 11 = .ok (.dup, 1) := by decide +kernel
theorem dL_law_12 : decode cL_law 12 = .ok (.invokespecial 12, 3) := by decide +kernel
theorem dL_law_15 : decode cL_law 15 = .ok (.astore_n 2, 1) := by decide +kernel
theorem dL_law_16 : decode cL_law 16 = .ok (.iconst 0, 1) := by decide +kernel
theorem dL_law_17 : decode cL_law 17 = .ok (.istore_n 3, 1) := by decide +kernel
theorem dL_law_18 : decode cL_law 18 = .ok (.iload_n 3, 1) := by decide +kernel
theorem dL_law_19 : decode cL_law 19 = .ok (.aload_n 0, 1) := by decide +kernel
theorem dL_law_20 : decode cL_law 20 = .ok (.arraylength, 1) := by decide +kernel
theorem dL_law_21 : decode cL_law 21 = .ok (.bipush 6, 2) := by decide +kernel
theorem dL_law_23 : decode cL_law 23 = .ok (.isub, 1) := by decide +kernel
theorem dL_law_24 : decode cL_law 24 = .ok (.if_icmp .gt 942, 3) := by decide +kernel
theorem dL_law_27 : decode cL_law 27 = .ok (.aload_n 0, 1) := by decide +kernel
theorem dL_law_28 : decode cL_law 28 = .ok (.iload_n 3, 1) := by decide +kernel
theorem dL_law_29 : decode cL_law 29 = .ok (.iaload, 1) := by decide +kernel
theorem dL_law_30 : decode cL_law 30 = .ok (.bipush 31, 2) := by decide +kernel
theorem dL_law_32 : decode cL_law 32 = .ok (.iand, 1) := by decide +kernel
theorem dL_law_33 : decode cL_law 33 = .ok (.tableswitch 927 0 25 #[119, 142, 155, 168, 201, 264, 307, 330, 353, 376, 419, 452, 485, 498, 531, 574, 607, 640, 683, 726, 769, 812, 835, 868, 881, 904], 119) := by decide +kernel
theorem dL_law_152 : decode cL_law 152 = .ok (.aload_n 1, 1) := by decide +kernel
theorem dL_law_153 : decode cL_law 153 = .ok (.aload_n 0, 1) := by decide +kernel
theorem dL_law_154 : decode cL_law 154 = .ok (.iload_n 3, 1) := by decide +kernel
theorem dL_law_155 : decode cL_law 155 = .ok (.iconst 1, 1) := by decide +kernel
theorem dL_law_156 : decode cL_law 156 = .ok (.iadd, 1) := by decide +kernel
theorem dL_law_157 : decode cL_law 157 = .ok (.iaload, 1) := by decide +kernel
theorem dL_law_158 : decode cL_law 158 = .ok (.invokevirtual 13, 3) := by decide +kernel
theorem dL_law_161 : decode cL_law 161 = .ok (.aload_n 2, 1) := by decide +kernel
theorem dL_law_162 : decode cL_law 162 = .ok (.aload_n 0, 1) := by decide +kernel
theorem dL_law_163 : decode cL_law 163 = .ok (.iload_n 3, 1) := by decide +kernel
theorem dL_law_164 : decode cL_law 164 = .ok (.iconst 1, 1) := by decide +kernel
theorem dL_law_165 : decode cL_law 165 = .ok (.iadd, 1) := by decide +kernel
theorem dL_law_166 : decode cL_law 166 = .ok (.iaload, 1) := by decide +kernel
theorem dL_law_167 : decode cL_law 167 = .ok (.invokevirtual 17, 3) := by decide +kernel
theorem dL_law_170 : decode cL_law 170 = .ok (.if_icmp .eq 790, 3) := by decide +kernel
theorem dL_law_173 : decode cL_law 173 = .ok (.iconst 0, 1) := by decide +kernel
theorem dL_law_174 : decode cL_law 174 = .ok (.ireturn, 1) := by decide +kernel
theorem dL_law_175 : decode cL_law 175 = .ok (.aload_n 1, 1) := by decide +kernel
theorem dL_law_176 : decode cL_law 176 = .ok (.invokevirtual 18, 3) := by decide +kernel
theorem dL_law_179 : decode cL_law 179 = .ok (.aload_n 2, 1) := by decide +kernel
theorem dL_law_180 : decode cL_law 180 = .ok (.invokevirtual 22, 3) := by decide +kernel
theorem dL_law_183 : decode cL_law 183 = .ok (.if_icmp .eq 777, 3) := by decide +kernel
theorem dL_law_186 : decode cL_law 186 = .ok (.iconst 0, 1) := by decide +kernel
theorem dL_law_187 : decode cL_law 187 = .ok (.ireturn, 1) := by decide +kernel
theorem dL_law_188 : decode cL_law 188 = .ok (.aload_n 1, 1) := by decide +kernel
theorem dL_law_189 : decode cL_law 189 = .ok (.invokevirtual 23, 3) := by decide +kernel
theorem dL_law_192 : decode cL_law 192 = .ok (.aload_n 2, 1) := by decide +kernel
theorem dL_law_193 : decode cL_law 193 = .ok (.invokevirtual 26, 3) := by decide +kernel
theorem dL_law_196 : decode cL_law 196 = .ok (.if_icmp .eq 764, 3) := by decide +kernel
theorem dL_law_199 : decode cL_law 199 = .ok (.iconst 0, 1) := by decide +kernel
theorem dL_law_200 : decode cL_law 200 = .ok (.ireturn, 1) := by decide +kernel
theorem dL_law_201 : decode cL_law 201 = .ok (.aload_n 1, 1) := by decide +kernel
theorem dL_law_202 : decode cL_law 202 = .ok (.aload_n 0, 1) := by decide +kernel
theorem dL_law_203 : decode cL_law 203 = .ok (.iload_n 3, 1) := by decide +kernel
theorem dL_law_204 : decode cL_law 204 = .ok (.iconst 1, 1) := by decide +kernel
theorem dL_law_205 : decode cL_law 205 = .ok (.iadd, 1) := by decide +kernel
theorem dL_law_206 : decode cL_law 206 = .ok (.iaload, 1) := by decide +kernel
theorem dL_law_207 : decode cL_law 207 = .ok (.aload_n 0, 1) := by decide +kernel
theorem dL_law_208 : decode cL_law 208 = .ok (.iload_n 3, 1) := by decide +kernel
theorem dL_law_209 : decode cL_law 209 = .ok (.iconst 2, 1) := by decide +kernel
theorem dL_law_210 : decode cL_law 210 = .ok (.iadd, 1) := by decide +kernel
theorem dL_law_211 : decode cL_law 211 = .ok (.iaload, 1) := by decide +kernel
theorem dL_law_212 : decode cL_law 212 = .ok (.invokevirtual 27, 3) := by decide +kernel
theorem dL_law_215 : decode cL_law 215 = .ok (.aload_n 2, 1) := by decide +kernel
theorem dL_law_216 : decode cL_law 216 = .ok (.aload_n 0, 1) := by decide +kernel
theorem dL_law_217 : decode cL_law 217 = .ok (.iload_n 3, 1) := by decide +kernel
theorem dL_law_218 : decode cL_law 218 = .ok (.iconst 1, 1) := by decide +kernel
theorem dL_law_219 : decode cL_law 219 = .ok (.iadd, 1) := by decide +kernel

theorem mem_r {big : List Cond} (ws : List Cond) (ps : List Nat) (hp : ws = ps.filterMap (fun i => big[i]?)) : ∀ w ∈ ws, w ∈ big := by
  intro w hw
  rw [hp] at hw
  obtain ⟨i, -, hi⟩ := List.mem_filterMap.mp hw
  exact List.mem_of_getElem? hi
theorem mem_app {big a b : List Cond} (ha : ∀ w ∈ a, w ∈ big) (hb : ∀ w ∈ b, w ∈ big) : ∀ w ∈ a ++ b, w ∈ big := fun w h => (List.mem_append.mp h).elim (ha w) (hb w)
set_option maxRecDepth 20000 in
theorem wsL_law_r1_in : ∀ w ∈ wsL_law_r1, w ∈ lw_tbl := mem_r _ [56, 57, 46, 671, 672, 54, 58, 59, 60, 61, 62, 63, 64, 65, 47, 188, 136, 85, 50, 189, 138, 139, 51, 190] (by decide +kernel)
set_option maxRecDepth 20000 in
theorem wsL_law_r2_in : ∀ w ∈ wsL_law_r2, w ∈ lw_tbl := mem_r _ [191, 150, 151, 52, 192, 165, 166, 53, 193, 194, 186, 71, 48, 195, 196, 67, 68, 69, 70, 108, 109, 110, 111, 112] (by decide +kernel)
set_option maxRecDepth 20000 in
theorem wsL_law_r3_in : ∀ w ∈ wsL_law_r3, w ∈ lw_tbl := mem_r _ [114, 84, 115, 72, 73, 74, 75, 76, 77, 49, 78, 83, 79, 86, 87, 88, 89, 90, 92, 93, 94, 95, 96, 91] (by decide +kernel)
set_option maxRecDepth 20000 in
theorem wsL_law_r4_in : ∀ w ∈ wsL_law_r4, w ∈ lw_tbl := mem_r _ [137, 141, 142, 143, 144, 146, 145, 153, 154, 155, 156, 158, 159, 157, 168, 169, 170, 171, 173, 174, 175, 172, 187, 673] (by decide +kernel)
set_option maxRecDepth 20000 in
theorem wsL_law_r5_in : ∀ w ∈ wsL_law_r5, w ∈ lw_tbl := mem_r _ [674, 675, 676, 677, 678, 679, 680, 681, 682, 683, 684, 685, 686, 688, 689, 690, 216, 217, 218, 219, 223, 220, 221, 222] (by decide +kernel)
set_option maxRecDepth 20000 in
theorem wsL_law_r6_in : ∀ w ∈ wsL_law_r6, w ∈ lw_tbl := mem_r _ [224, 225, 226, 227, 118, 228, 229, 230, 231, 232, 233, 234, 235, 236, 237, 238, 239, 240, 241, 242, 243, 244, 245, 246] (by decide +kernel)
set_option maxRecDepth 20000 in
theorem wsL_law_r7_in : ∀ w ∈ wsL_law_r7, w ∈ lw_tbl := mem_r _ [247, 720, 721, 722, 723, 727, 724, 725, 726, 728, 730, 24, 731, 248, 249, 250, 251, 252, 732, 733, 734, 735, 736, 253] (by decide +kernel)
set_option maxRecDepth 20000 in
theorem wsL_law_r8_in : ∀ w ∈ wsL_law_r8, w ∈ lw_tbl := mem_r _ [254, 255, 256, 737, 738, 739, 740, 257, 258, 259, 260, 261, 263, 0, 264, 265, 266, 267, 268, 269, 270, 271, 272, 273] (by decide +kernel)
set_option maxRecDepth 20000 in
theorem wsL_law_r9_in : ∀ w ∈ wsL_law_r9, w ∈ lw_tbl := mem_r _ [274, 275, 276, 277, 278, 279, 280, 281, 282, 283, 284, 285, 286, 176, 287, 288, 289, 290, 291, 292, 293, 294, 295, 296] (by decide +kernel)
set_option maxRecDepth 20000 in
theorem wsL_law_r10_in : ∀ w ∈ wsL_law_r10, w ∈ lw_tbl := mem_r _ [297, 298, 299, 300, 301, 302, 304, 1, 305, 306, 307, 308, 309, 310, 311, 312, 313, 314, 315, 316, 317, 318, 319, 320] (by decide +kernel)
set_option maxRecDepth 20000 in
theorem wsL_law_r11_in : ∀ w ∈ wsL_law_r11, w ∈ lw_tbl := mem_r _ [321, 322, 324, 2, 325, 326, 327, 328, 329, 330, 331, 332, 333, 334, 335, 336, 337, 338, 339, 340, 341, 342, 343, 741] (by decide +kernel)
set_option maxRecDepth 20000 in
theorem wsL_law_r12_in : ∀ w ∈ wsL_law_r12, w ∈ lw_tbl := mem_r _ [742, 743, 744, 687, 745, 747, 25, 748, 749, 751, 26, 752, 753, 755, 27, 756, 757, 759, 28, 760, 761, 763, 29, 764] (by decide +kernel)
set_option maxRecDepth 20000 in
theorem wsL_law_r13_in : ∀ w ∈ wsL_law_r13, w ∈ lw_tbl := mem_r _ [765, 767, 30, 768, 769, 771, 31, 772, 773, 775, 32, 776, 777, 778, 779, 780, 782, 33, 783, 784, 786, 34, 787, 344] (by decide +kernel)
set_option maxRecDepth 20000 in
theorem wsL_law_r14_in : ∀ w ∈ wsL_law_r14, w ∈ lw_tbl := mem_r _ [345, 346, 347, 348, 349, 350, 351, 352, 353, 354, 355, 356, 357, 358, 359, 360, 788, 789, 790, 791, 361, 362, 363, 364] (by decide +kernel)
set_option maxRecDepth 20000 in
theorem wsL_law_r15_in : ∀ w ∈ wsL_law_r15, w ∈ lw_tbl := mem_r _ [365, 366, 367, 368, 369, 370, 371, 372, 373, 792, 793, 794, 795, 796, 374, 375, 376, 377, 378, 380, 3, 381, 382, 384] (by decide +kernel)
set_option maxRecDepth 20000 in
theorem wsL_law_r16_in : ∀ w ∈ wsL_law_r16, w ∈ lw_tbl := mem_r _ [4, 385, 386, 387, 388, 389, 390, 391, 393, 5, 394, 396, 397, 398, 399, 401, 6, 402, 403, 405, 7, 406, 407, 408] (by decide +kernel)
set_option maxRecDepth 20000 in
theorem wsL_law_r17_in : ∀ w ∈ wsL_law_r17, w ∈ lw_tbl := mem_r _ [55, 409, 411, 412, 413, 414, 415, 416, 417, 418, 419, 420, 421, 422, 423, 424, 425, 426, 427, 428, 429, 430, 431, 432] (by decide +kernel)
set_option maxRecDepth 20000 in
theorem wsL_law_r18_in : ∀ w ∈ wsL_law_r18, w ∈ lw_tbl := mem_r _ [434, 8, 435, 436, 437, 438, 439, 440, 441, 442, 443, 444, 445, 446, 447, 448, 449, 797, 798, 799, 800, 801, 803, 35] (by decide +kernel)
set_option maxRecDepth 20000 in
theorem wsL_law_r19_in : ∀ w ∈ wsL_law_r19, w ∈ lw_tbl := mem_r _ [804, 450, 451, 452, 453, 454, 456, 9, 457, 458, 459, 460, 461, 463, 10, 464, 465, 466, 467, 468, 805, 806, 807, 808] (by decide +kernel)
set_option maxRecDepth 20000 in
theorem wsL_law_r20_in : ∀ w ∈ wsL_law_r20, w ∈ lw_tbl := mem_r _ [469, 470, 471, 472, 473, 475, 11, 476, 477, 478, 809, 810, 811, 812, 479, 480, 481, 482, 483, 484, 485, 486, 813, 814] (by decide +kernel)
set_option maxRecDepth 20000 in
theorem wsL_law_r21_in : ∀ w ∈ wsL_law_r21, w ∈ lw_tbl := mem_r _ [815, 816, 487, 488, 489, 490, 499, 491, 493, 12, 494, 495, 496, 497, 498, 500, 501, 502, 503, 504, 505, 506, 507, 508] (by decide +kernel)
set_option maxRecDepth 20000 in
theorem wsL_law_r22_in : ∀ w ∈ wsL_law_r22, w ∈ lw_tbl := mem_r _ [509, 511, 13, 512, 517, 513, 514, 515, 516, 518, 817, 818, 819, 820, 825, 821, 823, 36, 824, 826, 828, 37, 829, 830] (by decide +kernel)
set_option maxRecDepth 20000 in
theorem wsL_law_r23_in : ∀ w ∈ wsL_law_r23, w ∈ lw_tbl := mem_r _ [832, 38, 833, 519, 520, 521, 522, 834, 835, 836, 837, 523, 524, 525, 526, 527, 529, 14, 530, 838, 839, 840, 841, 531] (by decide +kernel)
set_option maxRecDepth 20000 in
theorem wsL_law_r24_in : ∀ w ∈ wsL_law_r24, w ∈ lw_tbl := mem_r _ [532, 533, 534, 842, 843, 844, 845, 535, 536, 537, 538, 539, 846, 847, 848, 849, 850, 852, 39, 853, 540, 541, 542, 543] (by decide +kernel)
set_option maxRecDepth 20000 in
theorem wsL_law_r25_in : ∀ w ∈ wsL_law_r25, w ∈ lw_tbl := mem_r _ [544, 546, 15, 547, 548, 549, 550, 551, 552, 554, 16, 555, 854, 855, 856, 857, 858, 860, 40, 861, 559, 560, 561, 562] (by decide +kernel)
set_option maxRecDepth 20000 in
theorem wsL_law_r26_in : ∀ w ∈ wsL_law_r26, w ∈ lw_tbl := mem_r _ [563, 564, 565, 566, 567, 568, 569, 570, 862, 863, 864, 865, 866, 868, 41, 869, 572, 573, 574, 575, 576, 870, 871, 872] (by decide +kernel)
set_option maxRecDepth 20000 in
theorem wsL_law_r27_in : ∀ w ∈ wsL_law_r27, w ∈ lw_tbl := mem_r _ [873, 577, 578, 579, 580, 874, 875, 876, 877, 581, 582, 583, 584, 585, 587, 17, 588, 589, 591, 18, 592, 593, 594, 595] (by decide +kernel)
set_option maxRecDepth 20000 in
theorem wsL_law_r28_in : ∀ w ∈ wsL_law_r28, w ∈ lw_tbl := mem_r _ [596, 597, 878, 879, 880, 881, 598, 599, 600, 601, 602, 603, 604, 605, 882, 883, 884, 885, 606, 607, 608, 609, 610, 611] (by decide +kernel)
set_option maxRecDepth 20000 in
theorem wsL_law_r29_in : ∀ w ∈ wsL_law_r29, w ∈ lw_tbl := mem_r _ [612, 613, 616, 617, 619, 19, 620, 621, 622, 623, 886, 887, 888, 889, 624, 625, 626, 627, 628, 630, 20, 631, 632, 633] (by decide +kernel)
set_option maxRecDepth 20000 in
theorem wsL_law_r30_in : ∀ w ∈ wsL_law_r30, w ∈ lw_tbl := mem_r _ [634, 635, 636, 637, 890, 891, 892, 893, 894, 896, 42, 897, 638, 639, 640, 641, 642, 644, 21, 645, 646, 647, 648, 649] (by decide +kernel)
set_option maxRecDepth 20000 in
theorem wsL_law_r31_in : ∀ w ∈ wsL_law_r31, w ∈ lw_tbl := mem_r _ [650, 898, 899, 900, 901, 651, 652, 653, 654, 655, 657, 22, 658, 902, 903, 904, 905, 906, 908, 43, 909, 659, 660, 661] (by decide +kernel)
set_option maxRecDepth 20000 in
theorem wsL_law_r32_in : ∀ w ∈ wsL_law_r32, w ∈ lw_tbl := mem_r _ [662, 663, 665, 23, 666, 667, 668, 669, 670, 910, 911, 912, 913, 914, 916, 44, 917] (by decide +kernel)
set_option maxRecDepth 20000 in
theorem jnX0 : ∀ w ∈ wsX00, w ∈ lw_tbl := mem_r _ [177, 179, 181, 183] (by decide +kernel)
set_option maxRecDepth 20000 in
theorem jnX1 : ∀ w ∈ wsX10, w ∈ lw_tbl := mem_r _ [97, 99, 101, 103, 105] (by decide +kernel)
set_option maxRecDepth 20000 in
theorem jnX2 : ∀ w ∈ wsX20, w ∈ lw_tbl := mem_r _ [147] (by decide +kernel)
set_option maxRecDepth 20000 in
theorem jnX3 : ∀ w ∈ wsX30, w ∈ lw_tbl := mem_r _ [160, 162] (by decide +kernel)
set_option maxRecDepth 20000 in
theorem jnX4 : ∀ w ∈ wsX40, w ∈ lw_tbl := mem_r _ [119, 121, 123, 125, 127, 129, 131, 133] (by decide +kernel)
set_option maxRecDepth 20000 in
theorem jnX5 : ∀ w ∈ wsX50, w ∈ lw_tbl := mem_r _ [80] (by decide +kernel)
set_option maxRecDepth 20000 in
theorem jnX6 : ∀ w ∈ wsX60, w ∈ lw_tbl := mem_r _ [197, 199, 201, 203, 205, 207, 209, 211, 213] (by decide +kernel)
set_option maxRecDepth 20000 in
theorem jnX7 : ∀ w ∈ wsX70, w ∈ lw_tbl := mem_r _ [691, 693, 695, 697, 699, 701, 703, 705, 707, 709, 711, 713, 715, 717] (by decide +kernel)
theorem wsL_law_in : ∀ w ∈ wsL_law, w ∈ lw_tbl := mem_app (mem_app (mem_app (mem_app (mem_app (mem_app (mem_app (mem_app (mem_app (mem_app wsL_law_r1_in (mem_app wsL_law_r2_in (mem_app wsL_law_r3_in (mem_app wsL_law_r4_in (mem_app wsL_law_r5_in (mem_app wsL_law_r6_in (mem_app wsL_law_r7_in (mem_app wsL_law_r8_in (mem_app wsL_law_r9_in (mem_app wsL_law_r10_in (mem_app wsL_law_r11_in (mem_app wsL_law_r12_in (mem_app wsL_law_r13_in (mem_app wsL_law_r14_in (mem_app wsL_law_r15_in (mem_app wsL_law_r16_in (mem_app wsL_law_r17_in (mem_app wsL_law_r18_in (mem_app wsL_law_r19_in (mem_app wsL_law_r20_in (mem_app wsL_law_r21_in (mem_app wsL_law_r22_in (mem_app wsL_law_r23_in (mem_app wsL_law_r24_in (mem_app wsL_law_r25_in (mem_app wsL_law_r26_in (mem_app wsL_law_r27_in (mem_app wsL_law_r28_in (mem_app wsL_law_r29_in (mem_app wsL_law_r30_in (mem_app wsL_law_r31_in wsL_law_r32_in))))))))))))))))))))))))))))))) jnX6) jnX7) jnX4) jnX1) jnX2) jnX3) jnX0) jnX5) (fun _ h => absurd h List.not_mem_nil)
theorem inlX0 : ∀ w ∈ wsX00, w ∈ wsL_law := fun _ h => List.mem_append_left _ (List.mem_append_left _ (List.mem_append_right _ h))
theorem inX0 : ∀ w ∈ wsX00, w ∈ lw_tbl := fun w h => wsL_law_in w (inlX0 w h)
theorem inlX1 : ∀ w ∈ wsX10, w ∈ wsL_law := fun _ h => List.mem_append_left _ (List.mem_append_left _ (List.mem_append_left _ (List.mem_append_left _ (List.mem_append_left _ (List.mem_append_right _ h)))))
theorem inX1 : ∀ w ∈ wsX10, w ∈ lw_tbl := fun w h => wsL_law_in w (inlX1 w h)
theorem inlX2 : ∀ w ∈ wsX20, w ∈ wsL_law := fun _ h => List.mem_append_left _ (List.mem_append_left _ (List.mem_append_left _ (List.mem_append_left _ (List.mem_append_right _ h))))
theorem inX2 : ∀ w ∈ wsX20, w ∈ lw_tbl := fun w h => wsL_law_in w (inlX2 w h)
theorem inlX3 : ∀ w ∈ wsX30, w ∈ wsL_law := fun _ h => List.mem_append_left _ (List.mem_append_left _ (List.mem_append_left _ (List.mem_append_right _ h)))
theorem inX3 : ∀ w ∈ wsX30, w ∈ lw_tbl := fun w h => wsL_law_in w (inlX3 w h)
theorem inlX4 : ∀ w ∈ wsX40, w ∈ wsL_law := fun _ h => List.mem_append_left _ (List.mem_append_left _ (List.mem_append_left _ (List.mem_append_left _ (List.mem_append_left _ (List.mem_append_left _ (List.mem_append_right _ h))))))
theorem inX4 : ∀ w ∈ wsX40, w ∈ lw_tbl := fun w h => wsL_law_in w (inlX4 w h)
theorem inlX5 : ∀ w ∈ wsX50, w ∈ wsL_law := fun _ h => List.mem_append_left _ (List.mem_append_right _ h)
theorem inX5 : ∀ w ∈ wsX50, w ∈ lw_tbl := fun w h => wsL_law_in w (inlX5 w h)
theorem inlX6 : ∀ w ∈ wsX60, w ∈ wsL_law := fun _ h => List.mem_append_left _ (List.mem_append_left _ (List.mem_append_left _ (List.mem_append_left _ (List.mem_append_left _ (List.mem_append_left _ (List.mem_append_left _ (List.mem_append_left _ (List.mem_append_right _ h))))))))
theorem inX6 : ∀ w ∈ wsX60, w ∈ lw_tbl := fun w h => wsL_law_in w (inlX6 w h)
theorem inlX7 : ∀ w ∈ wsX70, w ∈ wsL_law := fun _ h => List.mem_append_left _ (List.mem_append_left _ (List.mem_append_left _ (List.mem_append_left _ (List.mem_append_left _ (List.mem_append_left _ (List.mem_append_left _ (List.mem_append_right _ h)))))))
theorem inX7 : ∀ w ∈ wsX70, w ∈ lw_tbl := fun w h => wsL_law_in w (inlX7 w h)
theorem inJ6 : ∀ w ∈ wsJ60, w ∈ lw_tbl := by decide +kernel
theorem inJ9 : ∀ w ∈ wsJ90, w ∈ lw_tbl := by decide +kernel
set_option maxRecDepth 20000 in
theorem ggX0_init_X5_init : GoodIn wsX0_init wsX5_init := goodIn_r _ [12, 13, 2, 3, 14, 15, 16, 17, 18, 19, 20] (by decide +kernel) (by decide +kernel)
set_option maxRecDepth 20000 in
theorem gX0_init_X5_init : GoodIn wsX0_init (wsX5_init) := ggX0_init_X5_init

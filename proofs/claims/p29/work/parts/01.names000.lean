theorem mem_r {big : List Cond} (ws : List Cond) (ps : List Nat) (hp : ws = ps.filterMap (fun i => big[i]?)) : ∀ w ∈ ws, w ∈ big := by
  intro w hw
  rw [hp] at hw
  obtain ⟨i, -, hi⟩ := List.mem_filterMap.mp hw
  exact List.mem_of_getElem? hi
theorem mem_app {big a b : List Cond} (ha : ∀ w ∈ a, w ∈ big) (hb : ∀ w ∈ b, w ∈ big) : ∀ w ∈ a ++ b, w ∈ big := fun w h => (List.mem_append.mp h).elim (ha w) (hb w)
set_option maxRecDepth 20000 in
theorem wsL_law_r1_in : ∀ w ∈ wsL_law_r1, w ∈ lw_tbl := mem_r _ [34, 35, 25, 665, 664, 587, 36, 37, 38, 39, 40, 41, 42, 43, 26, 166, 114, 63, 29, 167, 116, 117, 30, 168] (by decide +kernel)
set_option maxRecDepth 20000 in
theorem wsL_law_r2_in : ∀ w ∈ wsL_law_r2, w ∈ lw_tbl := mem_r _ [169, 128, 129, 31, 170, 143, 144, 32, 171, 172, 164, 49, 27, 173, 174, 45, 46, 47, 48, 86, 87, 88, 89, 90] (by decide +kernel)
set_option maxRecDepth 20000 in
theorem wsL_law_r3_in : ∀ w ∈ wsL_law_r3, w ∈ lw_tbl := mem_r _ [92, 62, 93, 50, 51, 52, 53, 54, 55, 28, 56, 61, 57, 64, 65, 66, 67, 68, 70, 71, 72, 73, 74, 69] (by decide +kernel)
set_option maxRecDepth 20000 in
theorem wsL_law_r4_in : ∀ w ∈ wsL_law_r4, w ∈ lw_tbl := mem_r _ [115, 119, 120, 121, 122, 124, 123, 131, 132, 133, 134, 136, 137, 135, 146, 147, 148, 149, 151, 152, 153, 150, 165, 531] (by decide +kernel)
set_option maxRecDepth 20000 in
theorem wsL_law_r5_in : ∀ w ∈ wsL_law_r5, w ∈ lw_tbl := mem_r _ [532, 24, 533, 534, 535, 536, 537, 538, 666, 667, 668, 669, 614, 615, 616, 617, 621, 622, 623, 624, 230, 232, 0, 233] (by decide +kernel)
set_option maxRecDepth 20000 in
theorem wsL_law_r6_in : ∀ w ∈ wsL_law_r6, w ∈ lw_tbl := mem_r _ [198, 199, 200, 252, 253, 254, 255, 154, 256, 257, 258, 259, 96, 260, 207, 208, 209, 261, 262, 263, 264, 265, 235, 236] (by decide +kernel)
set_option maxRecDepth 20000 in
theorem wsL_law_r7_in : ∀ w ∈ wsL_law_r7, w ∈ lw_tbl := mem_r _ [237, 266, 267, 268, 269, 251, 270, 243, 244, 245, 246, 271, 273, 1, 274, 275, 276, 277, 278, 279, 280, 281, 282, 283] (by decide +kernel)
set_option maxRecDepth 20000 in
theorem wsL_law_r8_in : ∀ w ∈ wsL_law_r8, w ∈ lw_tbl := mem_r _ [284, 285, 286, 287, 288, 289, 290, 291, 293, 2, 294, 295, 296, 297, 298, 299, 300, 301, 302, 303, 625, 626, 627, 628] (by decide +kernel)
set_option maxRecDepth 20000 in
theorem wsL_law_r9_in : ∀ w ∈ wsL_law_r9, w ∈ lw_tbl := mem_r _ [381, 382, 418, 419, 631, 389, 390, 391, 312, 632, 634, 22, 635, 636, 309, 310, 311, 637, 337, 338, 339, 638, 341, 342] (by decide +kernel)
set_option maxRecDepth 20000 in
theorem wsL_law_r10_in : ∀ w ∈ wsL_law_r10, w ∈ lw_tbl := mem_r _ [343, 226, 227, 228, 229, 201, 234, 238, 239, 240, 241, 242, 247, 248, 249, 250, 304, 305, 306, 307, 308, 194, 195, 196] (by decide +kernel)
set_option maxRecDepth 20000 in
theorem wsL_law_r11_in : ∀ w ∈ wsL_law_r11, w ∈ lw_tbl := mem_r _ [197, 202, 203, 204, 205, 206, 210, 211, 212, 213, 214, 215, 216, 217, 218, 219, 220, 221, 222, 223, 224, 225, 313, 314] (by decide +kernel)
set_option maxRecDepth 20000 in
theorem wsL_law_r12_in : ∀ w ∈ wsL_law_r12, w ∈ lw_tbl := mem_r _ [315, 316, 317, 318, 319, 320, 321, 322, 323, 324, 325, 326, 327, 328, 329, 330, 331, 332, 333, 334, 335, 336, 340, 344] (by decide +kernel)
set_option maxRecDepth 20000 in
theorem wsL_law_r13_in : ∀ w ∈ wsL_law_r13, w ∈ lw_tbl := mem_r _ [345, 346, 347, 348, 350, 3, 351, 352, 354, 4, 355, 356, 357, 358, 359, 360, 361, 363, 5, 364, 366, 367, 368, 369] (by decide +kernel)
set_option maxRecDepth 20000 in
theorem wsL_law_r14_in : ∀ w ∈ wsL_law_r14, w ∈ lw_tbl := mem_r _ [371, 6, 372, 373, 375, 7, 376, 377, 378, 33, 379, 383, 384, 385, 386, 387, 388, 392, 393, 394, 395, 396, 397, 398] (by decide +kernel)
set_option maxRecDepth 20000 in
theorem wsL_law_r15_in : ∀ w ∈ wsL_law_r15, w ∈ lw_tbl := mem_r _ [399, 400, 401, 402, 404, 8, 405, 406, 407, 408, 409, 410, 411, 412, 413, 414, 415, 416, 417, 656, 657, 658, 659, 660] (by decide +kernel)
set_option maxRecDepth 20000 in
theorem wsL_law_r16_in : ∀ w ∈ wsL_law_r16, w ∈ lw_tbl := mem_r _ [662, 23, 663, 428, 555, 431, 432, 434, 10, 435, 436, 437, 438, 439, 420, 421, 422, 423, 424, 426, 9, 427, 429, 430] (by decide +kernel)
set_option maxRecDepth 20000 in
theorem wsL_law_r17_in : ∀ w ∈ wsL_law_r17, w ∈ lw_tbl := mem_r _ [440, 441, 442, 443, 444, 445, 446, 447, 448, 449, 450, 451, 460, 452, 454, 11, 455, 456, 457, 458, 459, 461, 462, 463] (by decide +kernel)
set_option maxRecDepth 20000 in
theorem wsL_law_r18_in : ∀ w ∈ wsL_law_r18, w ∈ lw_tbl := mem_r _ [464, 465, 466, 467, 468, 469, 470, 472, 12, 473, 478, 474, 475, 476, 477, 479, 480, 481, 482, 483, 492, 493, 494, 495] (by decide +kernel)
set_option maxRecDepth 20000 in
theorem wsL_law_r19_in : ∀ w ∈ wsL_law_r19, w ∈ lw_tbl := mem_r _ [583, 584, 585, 586, 500, 642, 643, 644, 645, 596, 598, 20, 599, 600, 601, 602, 603, 604, 606, 21, 607, 649, 650, 651] (by decide +kernel)
set_option maxRecDepth 20000 in
theorem wsL_law_r20_in : ∀ w ∈ wsL_law_r20, w ∈ lw_tbl := mem_r _ [652, 546, 547, 548, 549, 550, 551, 552, 553, 542, 543, 544, 545, 556, 496, 497, 498, 499, 557, 558, 559, 560, 561, 563] (by decide +kernel)
set_option maxRecDepth 20000 in
theorem wsL_law_r21_in : ∀ w ∈ wsL_law_r21, w ∈ lw_tbl := mem_r _ [16, 564, 565, 567, 17, 568, 569, 515, 516, 517, 570, 670, 671, 672, 673, 674, 675, 676, 677, 501, 502, 503, 504, 505] (by decide +kernel)
set_option maxRecDepth 20000 in
theorem wsL_law_r22_in : ∀ w ∈ wsL_law_r22, w ∈ lw_tbl := mem_r _ [507, 14, 508, 509, 510, 511, 512, 513, 514, 588, 589, 590, 591, 592, 594, 19, 595, 571, 572, 573, 574, 575, 577, 18] (by decide +kernel)
set_option maxRecDepth 20000 in
theorem wsL_law_r23_in : ∀ w ∈ wsL_law_r23, w ∈ lw_tbl := mem_r _ [578, 579, 580, 581, 582, 518, 519, 520, 521, 522, 524, 15, 525, 526, 527, 528, 529, 530, 653, 654, 655, 639, 640, 641] (by decide +kernel)
set_option maxRecDepth 20000 in
theorem wsL_law_r24_in : ∀ w ∈ wsL_law_r24, w ∈ lw_tbl := mem_r _ [646, 647, 648, 484, 485, 486, 487, 488, 490, 13, 491, 539, 540, 541, 611, 612, 613, 618, 619, 620] (by decide +kernel)
set_option maxRecDepth 20000 in
theorem jnX0 : ∀ w ∈ wsX00, w ∈ lw_tbl := mem_r _ [155, 157, 159, 161] (by decide +kernel)
set_option maxRecDepth 20000 in
theorem jnX1 : ∀ w ∈ wsX10, w ∈ lw_tbl := mem_r _ [75, 77, 79, 81, 83] (by decide +kernel)
set_option maxRecDepth 20000 in
theorem jnX2 : ∀ w ∈ wsX20, w ∈ lw_tbl := mem_r _ [125] (by decide +kernel)
set_option maxRecDepth 20000 in
theorem jnX3 : ∀ w ∈ wsX30, w ∈ lw_tbl := mem_r _ [138, 140] (by decide +kernel)
set_option maxRecDepth 20000 in
theorem jnX4 : ∀ w ∈ wsX40, w ∈ lw_tbl := mem_r _ [97, 99, 101, 103, 105, 107, 109, 111] (by decide +kernel)
set_option maxRecDepth 20000 in
theorem jnX5 : ∀ w ∈ wsX50, w ∈ lw_tbl := mem_r _ [58] (by decide +kernel)
set_option maxRecDepth 20000 in
theorem jnX6 : ∀ w ∈ wsX60, w ∈ lw_tbl := mem_r _ [175, 177, 179, 181, 183, 185, 187, 189, 191] (by decide +kernel)
theorem wsL_law_in : ∀ w ∈ wsL_law, w ∈ lw_tbl := mem_app (mem_app (mem_app (mem_app (mem_app (mem_app (mem_app (mem_app (mem_app wsL_law_r1_in (mem_app wsL_law_r2_in (mem_app wsL_law_r3_in (mem_app wsL_law_r4_in (mem_app wsL_law_r5_in (mem_app wsL_law_r6_in (mem_app wsL_law_r7_in (mem_app wsL_law_r8_in (mem_app wsL_law_r9_in (mem_app wsL_law_r10_in (mem_app wsL_law_r11_in (mem_app wsL_law_r12_in (mem_app wsL_law_r13_in (mem_app wsL_law_r14_in (mem_app wsL_law_r15_in (mem_app wsL_law_r16_in (mem_app wsL_law_r17_in (mem_app wsL_law_r18_in (mem_app wsL_law_r19_in (mem_app wsL_law_r20_in (mem_app wsL_law_r21_in (mem_app wsL_law_r22_in (mem_app wsL_law_r23_in wsL_law_r24_in))))))))))))))))))))))) jnX6) jnX4) jnX1) jnX2) jnX3) jnX0) jnX5) (fun _ h => absurd h List.not_mem_nil)
theorem inlX0 : ∀ w ∈ wsX00, w ∈ wsL_law := fun _ h => List.mem_append_left _ (List.mem_append_left _ (List.mem_append_right _ h))
theorem inX0 : ∀ w ∈ wsX00, w ∈ lw_tbl := fun w h => wsL_law_in w (inlX0 w h)
theorem inlX1 : ∀ w ∈ wsX10, w ∈ wsL_law := fun _ h => List.mem_append_left _ (List.mem_append_left _ (List.mem_append_left _ (List.mem_append_left _ (List.mem_append_left _ (List.mem_append_right _ h)))))
theorem inX1 : ∀ w ∈ wsX10, w ∈ lw_tbl := fun w h => wsL_law_in w (inlX1 w h)
theorem inlX2 : ∀ w ∈ wsX20, w ∈ wsL_law := fun _ h => List.mem_append_left _ (List.mem_append_left _ (List.mem_append_left _ (List.mem_append_left _ (List.mem_append_right _ h))))
theorem inX2 : ∀ w ∈ wsX20, w ∈ lw_tbl := fun w h => wsL_law_in w (inlX2 w h)
theorem inlX3 : ∀ w ∈ wsX30, w ∈ wsL_law := fun _ h => List.mem_append_left _ (List.mem_append_left _ (List.mem_append_left _ (List.mem_append_right _ h)))
theorem inX3 : ∀ w ∈ wsX30, w ∈ lw_tbl := fun w h => wsL_law_in w (inlX3 w h)
theorem inlX4 : ∀ w ∈ wsX40, w ∈ wsL_law := fun _ h => List.mem_append_left _ (List.mem_append_left _ (List.mem_append_left _ (List.mem_append_left _ (List.mem_append_left _ (List.mem_append_left _ (List.mem_append_right _ h))))))
theorem inX4 : ∀ w ∈ wsX40, w ∈ lw_tbl := fun w h => wsL_law_in w (inlX4 w h)
theorem inlX5 : ∀ w ∈ wsX50, w ∈ wsL_law := fun _ h => List.mem_append_left _ (List.mem_append_right _ h)
theorem inX5 : ∀ w ∈ wsX50, w ∈ lw_tbl := fun w h => wsL_law_in w (inlX5 w h)
theorem inlX6 : ∀ w ∈ wsX60, w ∈ wsL_law := fun _ h => List.mem_append_left _ (List.mem_append_left _ (List.mem_append_left _ (List.mem_append_left _ (List.mem_append_left _ (List.mem_append_left _ (List.mem_append_left _ (List.mem_append_right _ h)))))))
theorem inX6 : ∀ w ∈ wsX60, w ∈ lw_tbl := fun w h => wsL_law_in w (inlX6 w h)
theorem inX7 : ∀ w ∈ wsX70, w ∈ lw_tbl := by decide +kernel
theorem inJ6 : ∀ w ∈ wsJ60, w ∈ lw_tbl := by decide +kernel
theorem inJ9 : ∀ w ∈ wsJ90, w ∈ lw_tbl := by decide +kernel
set_option maxRecDepth 20000 in
theorem ggX0_init_X5_init : GoodIn wsX0_init wsX5_init := goodIn_r _ [12, 13, 2, 3, 14, 15, 16, 17, 18, 19, 20] (by decide +kernel) (by decide +kernel)
set_option maxRecDepth 20000 in
theorem gX0_init_X5_init : GoodIn wsX0_init (wsX5_init) := ggX0_init_X5_init

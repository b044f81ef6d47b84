theorem dL_turns_14 : decode cL_turns 14 = .ok (.iload_n 1, 1) := by decide +kernel
theorem dL_turns_15 : decode cL_turns 15 = .ok (.iconst 3, 1) := by decide +kernel
theorem dL_turns_16 : decode cL_turns 16 = .ok (.invokevirtual 9, 3) := by decide +kernel
theorem dL_turns_19 : decode cL_turns 19 = .ok (.istore 4, 2) := by decide +kernel
theorem dL_turns_21 : decode cL_turns 21 = .ok (.aload_n 0, 1) := by decide +kernel
theorem dL_turns_22 : decode cL_turns 22 = .ok (.iload_n 1, 1) := by decide +kernel
theorem dL_turns_23 : decode cL_turns 23 = .ok (.invokevirtual 61, 3) := by decide +kernel
theorem dL_turns_26 : decode cL_turns 26 = .ok (.istore 5, 2) := by decide +kernel
theorem dL_turns_28 : decode cL_turns 28 = .ok (.iload 5, 2) := by decide +kernel
theorem dL_turns_30 : decode cL_turns 30 = .ok (.ifCond .ge 48, 3) := by decide +kernel
theorem dL_turns_33 : decode cL_turns 33 = .ok (.iload 5, 2) := by decide +kernel
theorem dL_turns_35 : decode cL_turns 35 = .ok (.ldc 64, 2) := by decide +kernel
theorem dL_turns_37 : decode cL_turns 37 = .ok (.if_icmp .eq 16, 3) := by decide +kernel
theorem dL_turns_40 : decode cL_turns 40 = .ok (.iload 5, 2) := by decide +kernel
theorem dL_turns_42 : decode cL_turns 42 = .ok (.ldc 65, 2) := by decide +kernel
theorem dL_turns_44 : decode cL_turns 44 = .ok (.if_icmp .ne 32, 3) := by decide +kernel
theorem dL_turns_47 : decode cL_turns 47 = .ok (.iload_n 3, 1) := by decide +kernel
theorem dL_turns_48 : decode cL_turns 48 = .ok (.bipush 20, 2) := by decide +kernel
theorem dL_turns_50 : decode cL_turns 50 = .ok (.if_icmp .ne 26, 3) := by decide +kernel
theorem dL_turns_53 : decode cL_turns 53 = .ok (.aload_n 0, 1) := by decide +kernel
theorem dL_turns_54 : decode cL_turns 54 = .ok (.iload_n 1, 1) := by decide +kernel
theorem dL_turns_55 : decode cL_turns 55 = .ok (.invokevirtual 49, 3) := by decide +kernel
theorem dL_turns_58 : decode cL_turns 58 = .ok (.iload_n 2, 1) := by decide +kernel
theorem dL_turns_59 : decode cL_turns 59 = .ok (.if_icmp .ne 17, 3) := by decide +kernel
theorem dL_turns_62 : decode cL_turns 62 = .ok (.aload_n 0, 1) := by decide +kernel
theorem dL_turns_63 : decode cL_turns 63 = .ok (.iload_n 1, 1) := by decide +kernel
theorem dL_turns_64 : decode cL_turns 64 = .ok (.iconst 2, 1) := by decide +kernel
theorem dL_turns_65 : decode cL_turns 65 = .ok (.invokevirtual 9, 3) := by decide +kernel
theorem dL_turns_68 : decode cL_turns 68 = .ok (.iload_n 3, 1) := by decide +kernel
theorem dL_turns_69 : decode cL_turns 69 = .ok (.if_icmp .ne 7, 3) := by decide +kernel
theorem dL_turns_72 : decode cL_turns 72 = .ok (.iconst 1, 1) := by decide +kernel
theorem dL_turns_73 : decode cL_turns 73 = .ok (.goto 4, 3) := by decide +kernel
theorem dL_turns_76 : decode cL_turns 76 = .ok (.iconst 0, 1) := by decide +kernel
theorem dL_turns_77 : decode cL_turns 77 = .ok (.ireturn, 1) := by decide +kernel
theorem dL_turns_78 : decode cL_turns 78 = .ok (.aload_n 0, 1) := by decide +kernel
theorem dL_turns_79 : decode cL_turns 79 = .ok (.iload_n 1, 1) := by decide +kernel
theorem dL_turns_80 : decode cL_turns 80 = .ok (.iconst 3, 1) := by decide +kernel
theorem dL_turns_81 : decode cL_turns 81 = .ok (.invokevirtual 9, 3) := by decide +kernel
theorem dL_turns_84 : decode cL_turns 84 = .ok (.iload 4, 2) := by decide +kernel
theorem dL_turns_86 : decode cL_turns 86 = .ok (.iconst 1, 1) := by decide +kernel
theorem dL_turns_87 : decode cL_turns 87 = .ok (.isub, 1) := by decide +kernel
theorem dL_turns_88 : decode cL_turns 88 = .ok (.if_icmp .ne 30, 3) := by decide +kernel
theorem dL_turns_91 : decode cL_turns 91 = .ok (.aload_n 0, 1) := by decide +kernel
theorem dL_turns_92 : decode cL_turns 92 = .ok (.iload_n 1, 1) := by decide +kernel
theorem dL_turns_93 : decode cL_turns 93 = .ok (.iload_n 3, 1) := by decide +kernel
theorem dL_turns_94 : decode cL_turns 94 = .ok (.iconst 1, 1) := by decide +kernel
theorem dL_turns_95 : decode cL_turns 95 = .ok (.iadd, 1) := by decide +kernel
theorem dL_turns_96 : decode cL_turns 96 = .ok (.iconst 0, 1) := by decide +kernel
theorem dL_turns_97 : decode cL_turns 97 = .ok (.invokevirtual 15, 3) := by decide +kernel
theorem dL_turns_100 : decode cL_turns 100 = .ok (.iconst 1, 1) := by decide +kernel
theorem dL_turns_101 : decode cL_turns 101 = .ok (.if_icmp .ne 17, 3) := by decide +kernel
theorem dL_turns_104 : decode cL_turns 104 = .ok (.aload_n 0, 1) := by decide +kernel
theorem dL_turns_105 : decode cL_turns 105 = .ok (.iload_n 1, 1) := by decide +kernel
theorem dL_turns_106 : decode cL_turns 106 = .ok (.iload_n 3, 1) := by decide +kernel
theorem dL_turns_107 : decode cL_turns 107 = .ok (.iconst 1, 1) := by decide +kernel
theorem dL_turns_108 : decode cL_turns 108 = .ok (.iadd, 1) := by decide +kernel
theorem dL_turns_109 : decode cL_turns 109 = .ok (.iconst 3, 1) := by decide +kernel
theorem dL_turns_110 : decode cL_turns 110 = .ok (.invokevirtual 15, 3) := by decide +kernel
theorem dL_turns_113 : decode cL_turns 113 = .ok (.iload 5, 2) := by decide +kernel
theorem dL_turns_115 : decode cL_turns 115 = .ok (.if_icmp .eq 5, 3) := by decide +kernel
theorem dL_turns_118 : decode cL_turns 118 = .ok (.iconst 0, 1) := by decide +kernel
theorem dL_turns_119 : decode cL_turns 119 = .ok (.ireturn, 1) := by decide +kernel
theorem dL_turns_120 : decode cL_turns 120 = .ok (.aload_n 0, 1) := by decide +kernel
theorem dL_turns_121 : decode cL_turns 121 = .ok (.iload_n 1, 1) := by decide +kernel
theorem dL_turns_122 : decode cL_turns 122 = .ok (.invokevirtual 66, 3) := by decide +kernel
theorem dL_turns_125 : decode cL_turns 125 = .ok (.istore 6, 2) := by decide +kernel
theorem dL_turns_127 : decode cL_turns 127 = .ok (.iload_n 3, 1) := by decide +kernel
theorem dL_turns_128 : decode cL_turns 128 = .ok (.bipush 19, 2) := by decide +kernel
theorem dL_turns_130 : decode cL_turns 130 = .ok (.if_icmp .ne 18, 3) := by decide +kernel
theorem dL_turns_133 : decode cL_turns 133 = .ok (.iload 6, 2) := by decide +kernel
theorem dL_turns_135 : decode cL_turns 135 = .ok (.ldc 65, 2) := by decide +kernel
theorem dL_turns_137 : decode cL_turns 137 = .ok (.if_icmp .ne 7, 3) := by decide +kernel
theorem dL_turns_140 : decode cL_turns 140 = .ok (.iconst 1, 1) := by decide +kernel
theorem dL_turns_141 : decode cL_turns 141 = .ok (.goto 39, 3) := by decide +kernel
theorem dL_turns_144 : decode cL_turns 144 = .ok (.iconst 0, 1) := by decide +kernel
theorem dL_turns_145 : decode cL_turns 145 = .ok (.goto 35, 3) := by decide +kernel
theorem dL_turns_148 : decode cL_turns 148 = .ok (.iload 6, 2) := by decide +kernel
theorem dL_turns_150 : decode cL_turns 150 = .ok (.iload 5, 2) := by decide +kernel
theorem dL_turns_152 : decode cL_turns 152 = .ok (.if_icmp .ne 27, 3) := by decide +kernel
theorem dL_turns_155 : decode cL_turns 155 = .ok (.aload_n 0, 1) := by decide +kernel
theorem dL_turns_156 : decode cL_turns 156 = .ok (.iload_n 1, 1) := by decide +kernel
theorem dL_turns_157 : decode cL_turns 157 = .ok (.invokevirtual 49, 3) := by decide +kernel
theorem dL_turns_160 : decode cL_turns 160 = .ok (.iload_n 2, 1) := by decide +kernel
theorem dL_turns_161 : decode cL_turns 161 = .ok (.if_icmp .ne 18, 3) := by decide +kernel
theorem dL_turns_164 : decode cL_turns 164 = .ok (.aload_n 0, 1) := by decide +kernel
theorem dL_turns_165 : decode cL_turns 165 = .ok (.iload_n 1, 1) := by decide +kernel
theorem dL_turns_166 : decode cL_turns 166 = .ok (.iconst 3, 1) := by decide +kernel
theorem dL_turns_167 : decode cL_turns 167 = .ok (.invokevirtual 9, 3) := by decide +kernel
theorem dL_turns_170 : decode cL_turns 170 = .ok (.iload 4, 2) := by decide +kernel
theorem dL_turns_172 : decode cL_turns 172 = .ok (.if_icmp .ne 7, 3) := by decide +kernel
theorem dL_turns_175 : decode cL_turns 175 = .ok (.iconst 1, 1) := by decide +kernel
theorem dL_turns_176 : decode cL_turns 176 = .ok (.goto 4, 3) := by decide +kernel
theorem dL_turns_179 : decode cL_turns 179 = .ok (.iconst 0, 1) := by decide +kernel
theorem dL_turns_180 : decode cL_turns 180 = .ok (.ireturn, 1) := by decide +kernel
set_option maxRecDepth 20000 in
theorem ggL_refuses_X6_sites : GoodIn wsL_refuses wsX6_sites := goodIn_r _ [8, 9, 466, 467, 468, 469, 470, 471, 472, 473, 474] (by decide +kernel) (by decide +kernel)
set_option maxRecDepth 20000 in
theorem gL_refuses_X6_sites : GoodIn wsL_refuses (wsV RL 41 RX6 yX6_sites wsX6_sites) := goodIn_app (goodIn_of _ (by decide +kernel)) ggL_refuses_X6_sites
set_option maxRecDepth 20000 in
theorem ggL_refuses_X6_digest : GoodIn wsL_refuses wsX6_digest := goodIn_r _ [13, 14, 15, 16, 17, 18, 19, 7, 20, 9, 21, 22, 23, 24, 25, 26, 27, 28, 29, 30, 31, 32, 33, 34, 35, 36, 37, 38, 39, 40, 41, 42, 43, 44, 45, 46, 47, 48, 49, 50, 51, 52, 53, 54, 55, 56, 57, 58, 59, 60, 61, 62, 63, 64, 65, 66, 67, 68, 69, 70, 71, 72, 73, 74, 75, 76, 77, 78, 79, 80, 81, 82, 83, 84, 85, 86, 87, 88, 89, 90, 91, 92, 93, 94, 95, 96, 97, 98, 99, 100, 101, 102, 103, 104, 105, 106, 107, 108, 109, 110, 111, 112, 113, 114, 115, 116, 117, 118, 119, 120, 121, 122, 123, 124, 125, 126, 127, 128, 129, 130, 131, 132, 133, 134, 135, 466, 467, 468, 469, 470, 471, 472, 473, 474, 475, 476, 477, 478, 479, 480, 481, 482, 483, 484, 485, 486, 487, 488, 489, 490, 491, 492, 493] (by decide +kernel) (by decide +kernel)
set_option maxRecDepth 20000 in
theorem gL_refuses_X6_digest : GoodIn wsL_refuses (wsV RL 49 RX6 yX6_digest wsX6_digest) := goodIn_app (goodIn_of _ (by decide +kernel)) ggL_refuses_X6_digest
set_option maxRecDepth 20000 in
theorem ggL_refuses_X6_siteInfo : GoodIn wsL_refuses wsX6_siteInfo := goodIn_r _ [139, 140, 141, 16, 15, 14, 142, 17, 18, 19, 7, 20, 9, 21, 22, 23, 143, 49, 50, 41, 51, 43, 144, 145, 146, 61, 147, 148, 59, 60, 62, 63, 64, 149, 150, 151, 35, 152, 153, 57, 24, 25, 26, 27, 28, 29, 30, 31, 32, 33, 34, 36, 37, 38, 39, 40, 42, 44, 45, 46, 47, 48, 52, 53, 54, 55, 56, 58, 65, 66, 67, 68, 69, 70, 71, 72, 73, 74, 75, 76, 77, 78, 79, 80, 81, 82, 83, 84, 85, 86, 87, 88, 89, 90, 91, 92, 93, 94, 95, 96, 97, 98, 99, 100, 101, 154, 155, 156, 157, 158, 122, 123, 113, 124, 125, 116, 466, 467, 468, 469, 470, 471, 472, 473, 474, 487, 488, 479, 480, 481, 482, 483, 484, 485, 486, 475, 476, 477, 478, 489, 490, 491, 492, 493] (by decide +kernel) (by decide +kernel)
set_option maxRecDepth 20000 in
theorem gL_refuses_X6_siteInfo : GoodIn wsL_refuses (wsV RL 9 RX6 yX6_siteInfo wsX6_siteInfo) := goodIn_app (goodIn_of _ (by decide +kernel)) ggL_refuses_X6_siteInfo
set_option maxRecDepth 20000 in
theorem ggL_refuses_X6_reset : GoodIn wsL_refuses wsX6_reset := goodIn_r _ [162, 140, 9, 15, 142, 16, 163, 141, 21, 22, 7, 23, 164, 165, 166, 35, 167, 153, 37, 168, 39, 40, 41, 42, 43, 169, 170, 171, 113, 172, 125, 173, 174, 175, 176, 61, 177, 63, 178, 179, 180, 181, 182, 183, 184, 185, 186, 466, 467, 468, 469, 470, 471, 472, 473, 474, 479, 480, 481, 482, 483, 484, 485, 486, 487, 489, 490, 491, 492, 493, 488, 494, 495] (by decide +kernel) (by decide +kernel)
set_option maxRecDepth 20000 in
theorem gL_refuses_X6_reset : GoodIn wsL_refuses (wsV RL 69 RX6 yX6_reset wsX6_reset) := goodIn_app (goodIn_of _ (by decide +kernel)) ggL_refuses_X6_reset
set_option maxRecDepth 20000 in
theorem ggL_refuses_X6_penDown : GoodIn wsL_refuses wsX6_penDown := goodIn_r _ [190, 140, 142, 17, 18, 19, 7, 20, 9, 21, 22, 23, 191, 192, 193, 113, 194, 115, 195, 196, 197, 198, 199, 125, 200, 80, 81, 41, 82, 43, 201, 202, 203, 204, 130, 135, 116, 49, 50, 51, 158, 122, 123, 124, 466, 467, 468, 469, 470, 471, 472, 473, 474, 489, 490, 491, 492, 493, 487] (by decide +kernel) (by decide +kernel)
set_option maxRecDepth 20000 in
theorem gL_refuses_X6_penDown : GoodIn wsL_refuses (wsV RL 73 RX6 yX6_penDown wsX6_penDown) := goodIn_app (goodIn_of _ (by decide +kernel)) ggL_refuses_X6_penDown
set_option maxRecDepth 20000 in
theorem ggL_refuses_X6_penMove : GoodIn wsL_refuses wsX6_penMove := goodIn_r _ [208, 140, 142, 209, 210, 17, 18, 19, 7, 20, 9, 21, 22, 23, 158, 122, 123, 113, 124, 125, 116, 49, 50, 41, 51, 43, 211, 127, 128, 129, 130, 212, 132, 133, 134, 135, 201, 202, 203, 204, 200, 80, 81, 82, 466, 467, 468, 469, 470, 471, 472, 473, 474, 489, 490, 491, 492, 493, 487] (by decide +kernel) (by decide +kernel)
set_option maxRecDepth 20000 in
theorem gL_refuses_X6_penMove : GoodIn wsL_refuses (wsV RL 77 RX6 yX6_penMove wsX6_penMove) := goodIn_app (goodIn_of _ (by decide +kernel)) ggL_refuses_X6_penMove
set_option maxRecDepth 20000 in
theorem ggL_refuses_X6_penUp : GoodIn wsL_refuses wsX6_penUp := goodIn_r _ [216, 140, 142, 209, 210, 15, 17, 18, 19, 7, 20, 9, 21, 22, 23, 158, 122, 123, 113, 124, 125, 116, 49, 50, 41, 51, 43, 217, 218, 219, 220, 149, 150, 151, 35, 152, 153, 57, 221, 222, 223, 224, 141, 143, 225, 80, 81, 82, 226, 227, 228, 229, 230, 87, 231, 232, 233, 234, 235, 78, 236, 237, 238, 239, 240, 241, 242, 37, 56, 243, 244, 245, 246, 247, 248, 249, 250, 106, 107, 251, 252, 253, 254, 255, 256, 111, 112, 114, 115, 257, 258, 259, 260, 195, 261, 192, 193, 194, 196, 197, 198, 199, 200, 262, 127, 128, 129, 130, 263, 132, 133, 134, 135, 264, 202, 203, 204, 265, 266, 267, 268, 269, 270, 16, 163, 271, 272, 273, 61, 274, 63, 275, 276, 277, 278, 182, 279, 184, 280, 281, 282, 283, 108, 109, 466, 467, 468, 469, 470, 471, 472, 473, 474, 489, 490, 491, 492, 493, 487, 479, 480, 481, 482, 483, 484, 485, 486, 488, 494, 495] (by decide +kernel) (by decide +kernel)
set_option maxRecDepth 20000 in
theorem gL_refuses_X6_penUp : GoodIn wsL_refuses (wsV RL 80 RX6 yX6_penUp wsX6_penUp) := goodIn_app (goodIn_of _ (by decide +kernel)) ggL_refuses_X6_penUp
set_option maxRecDepth 20000 in
theorem ggL_refuses_X6_undo : GoodIn wsL_refuses wsX6_undo := goodIn_r _ [287, 140, 17, 18, 19, 7, 20, 9, 21, 22, 23, 288, 289, 290, 291, 14, 15, 16, 24, 25, 26, 27, 28, 29, 30, 31, 32, 33, 34, 35, 36, 37, 38, 39, 40, 41, 42, 43, 44, 45, 46, 47, 48, 49, 50, 51, 52, 53, 54, 55, 56, 57, 58, 59, 60, 61, 62, 63, 64, 65, 66, 67, 68, 69, 70, 71, 72, 73, 74, 75, 76, 77, 78, 79, 80, 81, 82, 83, 84, 85, 86, 87, 88, 89, 90, 91, 92, 93, 94, 95, 96, 97, 98, 99, 100, 101, 149, 150, 151, 152, 153, 292, 236, 237, 293, 294, 295, 296, 297, 298, 209, 210, 217, 218, 219, 220, 221, 222, 223, 224, 141, 143, 225, 299, 300, 301, 302, 231, 232, 233, 234, 235, 238, 239, 240, 241, 242, 243, 244, 245, 246, 247, 248, 249, 250, 106, 107, 267, 268, 269, 270, 163, 271, 272, 273, 274, 275, 276, 277, 278, 182, 279, 184, 280, 281, 282, 283, 108, 109, 466, 467, 468, 469, 470, 471, 472, 473, 474, 475, 476, 477, 478, 479, 480, 481, 482, 483, 484, 485, 486, 487, 488, 494, 495] (by decide +kernel) (by decide +kernel)
set_option maxRecDepth 20000 in
theorem gL_refuses_X6_undo : GoodIn wsL_refuses (wsV RL 61 RX6 yX6_undo wsX6_undo) := goodIn_app (goodIn_of _ (by decide +kernel)) ggL_refuses_X6_undo
set_option maxRecDepth 20000 in
theorem ggL_refuses_X6_redo : GoodIn wsL_refuses wsX6_redo := goodIn_r _ [306, 140, 17, 18, 19, 7, 20, 9, 21, 22, 23, 307, 308, 309, 310, 14, 15, 16, 24, 25, 26, 27, 28, 29, 30, 31, 32, 33, 34, 35, 36, 37, 38, 39, 40, 41, 42, 43, 44, 45, 46, 47, 48, 49, 50, 51, 52, 53, 54, 55, 56, 57, 58, 59, 60, 61, 62, 63, 64, 65, 66, 67, 68, 69, 70, 71, 72, 73, 74, 75, 76, 77, 78, 79, 80, 81, 82, 83, 84, 85, 86, 87, 88, 89, 90, 91, 92, 93, 94, 95, 96, 97, 98, 99, 100, 101, 149, 150, 151, 152, 153, 292, 236, 237, 311, 312, 294, 295, 296, 297, 298, 209, 210, 217, 218, 219, 220, 221, 222, 223, 224, 141, 143, 225, 299, 300, 301, 302, 231, 232, 233, 234, 235, 238, 239, 240, 241, 242, 243, 244, 245, 246, 247, 248, 249, 250, 106, 107, 267, 268, 269, 270, 163, 271, 272, 273, 274, 275, 276, 277, 278, 182, 279, 184, 280, 281, 282, 283, 108, 109, 466, 467, 468, 469, 470, 471, 472, 473, 474, 475, 476, 477, 478, 479, 480, 481, 482, 483, 484, 485, 486, 487, 488, 494, 495] (by decide +kernel) (by decide +kernel)
set_option maxRecDepth 20000 in
theorem gL_refuses_X6_redo : GoodIn wsL_refuses (wsV RL 66 RX6 yX6_redo wsX6_redo) := goodIn_app (goodIn_of _ (by decide +kernel)) ggL_refuses_X6_redo
set_option maxRecDepth 20000 in
theorem ggL_refuses_X6_lift : GoodIn wsL_refuses wsX6_lift := goodIn_r _ [316, 140, 14, 15, 16, 209, 210, 17, 18, 19, 7, 20, 9, 21, 22, 23, 24, 25, 26, 27, 28, 29, 30, 31, 32, 33, 34, 35, 36, 37, 38, 39, 40, 41, 42, 43, 44, 45, 46, 47, 48, 49, 50, 51, 52, 53, 54, 55, 56, 57, 58, 59, 60, 61, 62, 63, 64, 65, 66, 67, 68, 69, 70, 71, 72, 73, 74, 75, 76, 77, 78, 79, 80, 81, 82, 83, 84, 85, 86, 87, 88, 89, 90, 91, 92, 93, 94, 95, 96, 97, 98, 99, 100, 101, 154, 155, 156, 157, 217, 218, 219, 220, 149, 150, 151, 152, 153, 221, 222, 223, 224, 141, 143, 225, 317, 318, 319, 320, 299, 300, 301, 302, 231, 232, 233, 234, 235, 236, 237, 238, 239, 240, 241, 242, 243, 244, 245, 246, 247, 248, 249, 250, 106, 107, 267, 268, 269, 270, 163, 271, 272, 273, 274, 275, 276, 277, 278, 182, 279, 184, 280, 281, 282, 283, 108, 109, 466, 467, 468, 469, 470, 471, 472, 473, 474, 475, 476, 477, 478, 479, 480, 481, 482, 483, 484, 485, 486, 487, 488, 494, 495] (by decide +kernel) (by decide +kernel)
set_option maxRecDepth 20000 in
theorem gL_refuses_X6_lift : GoodIn wsL_refuses (wsV RL 83 RX6 yX6_lift wsX6_lift) := goodIn_app (goodIn_of _ (by decide +kernel)) ggL_refuses_X6_lift
set_option maxRecDepth 20000 in
theorem ggL_refuses_X6_deliver : GoodIn wsL_refuses wsX6_deliver := goodIn_r _ [324, 140, 163, 325, 326, 327, 328, 7, 329, 17, 18, 19, 20, 9, 21, 22, 23, 330, 331, 332, 182, 333, 184, 281, 49, 50, 41, 51, 43, 334, 335, 336, 337, 280, 338, 339, 340, 341, 342, 343, 344, 345, 282, 80, 81, 82, 346, 347, 348, 349, 16, 141, 15, 350, 271, 272, 273, 61, 274, 63, 275, 143, 351, 352, 353, 35, 354, 235, 57, 225, 355, 106, 107, 283, 108, 109, 466, 467, 468, 469, 470, 471, 472, 473, 474, 494, 495, 487, 488, 479, 480, 481, 482, 483, 484, 485, 486] (by decide +kernel) (by decide +kernel)
set_option maxRecDepth 20000 in
theorem gL_refuses_X6_deliver : GoodIn wsL_refuses (wsV RL 86 RX6 yX6_deliver wsX6_deliver) := goodIn_app (goodIn_of _ (by decide +kernel)) ggL_refuses_X6_deliver
set_option maxRecDepth 20000 in
theorem ggL_refuses_X6_lose : GoodIn wsL_refuses wsX6_lose := goodIn_r _ [359, 140, 163, 325, 326, 327, 328, 7, 329, 17, 18, 19, 20, 9, 21, 22, 23, 330, 331, 332, 182, 333, 184, 281, 49, 50, 41, 51, 43, 338, 339, 340, 341, 280, 342, 343, 344, 345, 282, 80, 81, 82, 466, 467, 468, 469, 470, 471, 472, 473, 474, 494, 495, 487] (by decide +kernel) (by decide +kernel)
set_option maxRecDepth 20000 in
theorem gL_refuses_X6_lose : GoodIn wsL_refuses (wsV RL 89 RX6 yX6_lose wsX6_lose) := goodIn_app (goodIn_of _ (by decide +kernel)) ggL_refuses_X6_lose
set_option maxRecDepth 20000 in
theorem ggL_refuses_X6_waiting : GoodIn wsL_refuses wsX6_waiting := goodIn_r _ [363, 163, 140, 326, 327, 328, 7, 329, 17, 18, 19, 20, 9, 21, 22, 23, 330, 331, 332, 182, 333, 184, 281, 49, 50, 41, 51, 43, 466, 467, 468, 469, 470, 471, 472, 473, 474, 494, 495, 487] (by decide +kernel) (by decide +kernel)
set_option maxRecDepth 20000 in
theorem gL_refuses_X6_waiting : GoodIn wsL_refuses (wsV RL 52 RX6 yX6_waiting wsX6_waiting) := goodIn_app (goodIn_of _ (by decide +kernel)) ggL_refuses_X6_waiting
set_option maxRecDepth 20000 in
theorem ggL_refuses_X6_gap : GoodIn wsL_refuses wsX6_gap := goodIn_r _ [367, 140, 16, 325, 17, 18, 19, 7, 20, 9, 21, 22, 23, 292, 236, 237, 368, 59, 60, 61, 62, 63, 64, 49, 50, 41, 51, 43, 466, 467, 468, 469, 470, 471, 472, 473, 474, 488, 487] (by decide +kernel) (by decide +kernel)
set_option maxRecDepth 20000 in
theorem gL_refuses_X6_gap : GoodIn wsL_refuses (wsV RL 29 RX6 yX6_gap wsX6_gap) := goodIn_app (goodIn_of _ (by decide +kernel)) ggL_refuses_X6_gap
set_option maxRecDepth 20000 in
theorem ggL_refuses_X6_repair : GoodIn wsL_refuses wsX6_repair := goodIn_r _ [372, 140, 326, 327, 328, 7, 329, 17, 18, 19, 20, 9, 21, 22, 23, 373, 374, 375, 376, 16, 377, 378, 379, 61, 380, 148, 59, 60, 62, 63, 64, 49, 50, 41, 51, 43, 381, 382, 383, 384, 106, 107, 108, 109, 236, 237, 368, 346, 347, 348, 349, 141, 15, 350, 343, 344, 345, 271, 272, 273, 274, 275, 80, 81, 82, 143, 351, 352, 353, 35, 354, 235, 57, 225, 466, 467, 468, 469, 470, 471, 472, 473, 474, 488, 487, 479, 480, 481, 482, 483, 484, 485, 486] (by decide +kernel) (by decide +kernel)
set_option maxRecDepth 20000 in
theorem gL_refuses_X6_repair : GoodIn wsL_refuses (wsV RL 55 RX6 yX6_repair wsX6_repair) := goodIn_app (goodIn_of _ (by decide +kernel)) ggL_refuses_X6_repair
set_option maxRecDepth 20000 in
theorem ggL_refuses_X6_transfer : GoodIn wsL_refuses wsX6_transfer := goodIn_r _ [388, 140, 16, 15, 141, 350, 343, 344, 345, 326, 327, 328, 7, 329, 17, 18, 19, 20, 9, 21, 22, 23, 368, 59, 60, 61, 62, 63, 64, 49, 50, 41, 51, 43, 346, 347, 348, 349, 271, 272, 273, 274, 275, 80, 81, 82, 143, 351, 352, 353, 35, 354, 235, 57, 225, 389, 390, 391, 392, 78, 230, 393, 394, 395, 113, 396, 125, 116, 262, 127, 128, 129, 130, 263, 132, 133, 134, 135, 466, 467, 468, 469, 470, 471, 472, 473, 474, 488, 487, 479, 480, 481, 482, 483, 484, 485, 486, 489, 490, 491, 492, 493] (by decide +kernel) (by decide +kernel)
set_option maxRecDepth 20000 in
theorem gL_refuses_X6_transfer : GoodIn wsL_refuses (wsV RL 58 RX6 yX6_transfer wsX6_transfer) := goodIn_app (goodIn_of _ (by decide +kernel)) ggL_refuses_X6_transfer
set_option maxRecDepth 20000 in
theorem ggL_refuses_X6_operation : GoodIn wsL_refuses wsX6_operation := goodIn_r _ [400, 140, 15, 325, 17, 18, 19, 7, 20, 9, 21, 22, 23, 149, 150, 151, 35, 152, 153, 57, 49, 50, 41, 51, 43, 292, 236, 237, 311, 75, 76, 77, 78, 351, 352, 353, 354, 235, 389, 390, 391, 392, 230, 393, 394, 395, 113, 396, 125, 116, 262, 127, 128, 129, 130, 263, 132, 133, 134, 135, 293, 94, 95, 96, 158, 122, 123, 124, 312, 70, 71, 72, 73, 283, 108, 109, 355, 106, 107, 401, 84, 85, 86, 87, 466, 467, 468, 469, 470, 471, 472, 473, 474, 479, 480, 481, 482, 483, 484, 485, 486, 487, 489, 490, 491, 492, 493] (by decide +kernel) (by decide +kernel)
set_option maxRecDepth 20000 in
theorem gL_refuses_X6_operation : GoodIn wsL_refuses (wsV RL 15 RX6 yX6_operation wsX6_operation) := goodIn_app (goodIn_of _ (by decide +kernel)) ggL_refuses_X6_operation
set_option maxRecDepth 20000 in
theorem ggL_refuses_X6_knows : GoodIn wsL_refuses wsX6_knows := goodIn_r _ [405, 140, 15, 325, 16, 17, 18, 19, 7, 20, 9, 21, 22, 23, 149, 150, 151, 35, 152, 153, 57, 49, 50, 41, 51, 43, 292, 236, 237, 368, 59, 60, 61, 62, 63, 64, 466, 467, 468, 469, 470, 471, 472, 473, 474, 479, 480, 481, 482, 483, 484, 485, 486, 487, 488] (by decide +kernel) (by decide +kernel)
set_option maxRecDepth 20000 in
theorem gL_refuses_X6_knows : GoodIn wsL_refuses (wsV RL 19 RX6 yX6_knows wsX6_knows) := goodIn_app (goodIn_of _ (by decide +kernel)) ggL_refuses_X6_knows
set_option maxRecDepth 20000 in
theorem ggL_refuses_X6_stroke : GoodIn wsL_refuses wsX6_stroke := goodIn_r _ [409, 140, 14, 15, 16, 325, 21, 22, 7, 23, 17, 18, 19, 20, 9, 24, 25, 26, 27, 28, 29, 30, 31, 32, 33, 34, 35, 36, 37, 38, 39, 40, 41, 42, 43, 44, 45, 46, 47, 48, 49, 50, 51, 52, 53, 54, 55, 56, 57, 58, 59, 60, 61, 62, 63, 64, 65, 66, 67, 68, 69, 70, 71, 72, 73, 74, 75, 76, 77, 78, 79, 80, 81, 82, 83, 84, 85, 86, 87, 88, 89, 90, 91, 92, 93, 94, 95, 96, 97, 98, 99, 100, 101, 154, 155, 156, 157, 317, 318, 319, 320, 410, 411, 412, 413, 158, 122, 123, 113, 124, 125, 116, 211, 127, 128, 129, 130, 212, 132, 133, 134, 135, 414, 415, 416, 417, 355, 106, 107, 283, 108, 109, 418, 419, 420, 421, 422, 111, 112, 114, 115, 466, 467, 468, 469, 470, 471, 472, 473, 474, 475, 476, 477, 478, 479, 480, 481, 482, 483, 484, 485, 486, 487, 488, 489, 490, 491, 492, 493] (by decide +kernel) (by decide +kernel)

set_option maxRecDepth 20000 in
theorem ggL_sound_X6_stroke : GoodIn wsL_sound wsX6_stroke := goodIn_r _ [171, 7, 11, 10, 9, 125, 18, 19, 5, 20, 13, 14, 15, 16, 17, 45, 46, 47, 48, 49, 50, 51, 52, 53, 54, 55, 41, 56, 57, 58, 59, 60, 24, 61, 26, 62, 63, 64, 65, 66, 22, 23, 25, 67, 68, 69, 70, 71, 44, 72, 33, 34, 30, 35, 36, 37, 73, 74, 75, 76, 77, 78, 79, 80, 81, 82, 83, 84, 85, 86, 87, 88, 89, 90, 91, 92, 93, 94, 95, 96, 97, 98, 99, 100, 101, 102, 103, 104, 105, 106, 107, 108, 109, 110, 111, 112, 113, 172, 173, 174, 175, 176, 177, 178, 179, 114, 115, 116, 117, 118, 119, 120, 180, 145, 146, 147, 148, 181, 150, 151, 152, 153, 182, 183, 184, 185, 159, 160, 161, 156, 157, 158, 186, 187, 188, 189, 190, 191, 192, 193, 194, 251, 252, 253, 254, 255, 256, 257, 258, 259, 270, 271, 272, 273, 262, 263, 264, 265, 266, 267, 268, 269, 260, 261, 274, 275, 276, 277, 278] (by decide +kernel) (by decide +kernel)
set_option maxRecDepth 20000 in
theorem gL_sound_X6_stroke : GoodIn wsL_sound (wsV RL 22 RX6 yX6_stroke wsX6_stroke) := goodIn_app (goodIn_of _ (by decide +kernel)) ggL_sound_X6_stroke
set_option maxRecDepth 20000 in
theorem ggL_sound_X6_endangered : GoodIn wsL_sound wsX6_endangered := goodIn_r _ [198, 7, 10, 199, 13, 14, 15, 5, 16, 17, 18, 19, 20, 38, 39, 40, 41, 42, 43, 44, 22, 23, 24, 25, 26, 126, 127, 128, 200, 201, 202, 203, 9, 167, 33, 34, 30, 35, 36, 37, 204, 205, 206, 207, 208, 209, 210, 211, 251, 252, 253, 254, 255, 256, 257, 258, 259, 262, 263, 264, 265, 266, 267, 268, 269, 260, 261, 279, 280] (by decide +kernel) (by decide +kernel)
set_option maxRecDepth 20000 in
theorem gL_sound_X6_endangered : GoodIn wsL_sound (wsV RL 25 RX6 yX6_endangered wsX6_endangered) := goodIn_app (goodIn_of _ (by decide +kernel)) ggL_sound_X6_endangered
set_option maxRecDepth 20000 in
theorem ggL_sound_X6_gap : GoodIn wsL_sound wsX6_gap := goodIn_r _ [215, 7, 9, 125, 13, 14, 15, 5, 16, 17, 18, 19, 20, 126, 127, 128, 167, 33, 34, 30, 35, 36, 37, 22, 23, 24, 25, 26, 251, 252, 253, 254, 255, 256, 257, 258, 259, 261, 260] (by decide +kernel) (by decide +kernel)
set_option maxRecDepth 20000 in
theorem gL_sound_X6_gap : GoodIn wsL_sound (wsV RL 29 RX6 yX6_gap wsX6_gap) := goodIn_app (goodIn_of _ (by decide +kernel)) ggL_sound_X6_gap
set_option maxRecDepth 20000 in
theorem ggL_sound_X6_bestHelper : GoodIn wsL_sound wsX6_bestHelper := goodIn_r _ [219, 7, 125, 17, 13, 14, 15, 5, 16, 18, 19, 20, 220, 221, 222, 223, 224, 225, 226, 227, 9, 228, 229, 230, 30, 231, 32, 33, 34, 35, 36, 37, 22, 23, 24, 25, 26, 232, 233, 234, 235, 160, 161, 157, 158, 127, 128, 167, 251, 252, 253, 254, 255, 256, 257, 258, 259, 261, 260] (by decide +kernel) (by decide +kernel)
set_option maxRecDepth 20000 in
theorem gL_sound_X6_bestHelper : GoodIn wsL_sound (wsV RL 35 RX6 yX6_bestHelper wsX6_bestHelper) := goodIn_app (goodIn_of _ (by decide +kernel)) ggL_sound_X6_bestHelper
set_option maxRecDepth 20000 in
theorem ggL_sound_X6_areSame : GoodIn wsL_sound wsX6_areSame := goodIn_r _ [239, 7, 9, 13, 14, 15, 5, 16, 17, 18, 19, 20, 240, 241, 242, 243, 11, 10, 244, 45, 46, 47, 48, 49, 50, 51, 52, 53, 54, 55, 41, 56, 57, 58, 59, 60, 24, 61, 26, 62, 63, 64, 65, 66, 22, 23, 25, 67, 68, 69, 70, 71, 44, 72, 33, 34, 30, 35, 36, 37, 73, 74, 75, 76, 77, 78, 79, 80, 81, 82, 83, 84, 85, 86, 87, 88, 89, 90, 91, 92, 93, 94, 95, 96, 97, 98, 99, 100, 101, 102, 103, 104, 105, 106, 107, 108, 109, 245, 246, 247, 248, 249, 173, 174, 175, 250, 187, 188, 189, 251, 252, 253, 254, 255, 256, 257, 258, 259, 270, 271, 272, 273, 262, 263, 264, 265, 266, 267, 268, 269, 260, 261] (by decide +kernel) (by decide +kernel)
set_option maxRecDepth 20000 in
theorem gL_sound_X6_areSame : GoodIn wsL_sound (wsV RL 38 RX6 yX6_areSame wsX6_areSame) := goodIn_app (goodIn_of _ (by decide +kernel)) ggL_sound_X6_areSame
theorem dL_sound_0 : decode cL_sound 0 = .ok (.aload_n 0, 1) := by decide +kernel
theorem dL_sound_1 : decode cL_sound 1 = .ok (.iload_n 1, 1) := by decide +kernel
theorem dL_sound_2 : decode cL_sound 2 = .ok (.iconst 2, 1) := by decide +kernel
theorem dL_sound_3 : decode cL_sound 3 = .ok (.invokevirtual 9, 3) := by decide +kernel
theorem dL_sound_6 : decode cL_sound 6 = .ok (.istore_n 3, 1) := by decide +kernel
theorem dL_sound_7 : decode cL_sound 7 = .ok (.iconst 0, 1) := by decide +kernel
theorem dL_sound_8 : decode cL_sound 8 = .ok (.istore 4, 2) := by decide +kernel
theorem dL_sound_10 : decode cL_sound 10 = .ok (.iconst 1, 1) := by decide +kernel
theorem dL_sound_11 : decode cL_sound 11 = .ok (.istore 5, 2) := by decide +kernel
theorem dL_sound_13 : decode cL_sound 13 = .ok (.iload 5, 2) := by decide +kernel
theorem dL_sound_15 : decode cL_sound 15 = .ok (.iload_n 3, 1) := by decide +kernel
theorem dL_sound_16 : decode cL_sound 16 = .ok (.if_icmp .gt 55, 3) := by decide +kernel
theorem dL_sound_19 : decode cL_sound 19 = .ok (.aload_n 0, 1) := by decide +kernel
theorem dL_sound_20 : decode cL_sound 20 = .ok (.iload_n 1, 1) := by decide +kernel
theorem dL_sound_21 : decode cL_sound 21 = .ok (.iload 5, 2) := by decide +kernel
theorem dL_sound_23 : decode cL_sound 23 = .ok (.iconst 1, 1) := by decide +kernel
theorem dL_sound_24 : decode cL_sound 24 = .ok (.invokevirtual 15, 3) := by decide +kernel
theorem dL_sound_27 : decode cL_sound 27 = .ok (.istore 6, 2) := by decide +kernel
theorem dL_sound_29 : decode cL_sound 29 = .ok (.aload_n 0, 1) := by decide +kernel
theorem dL_sound_30 : decode cL_sound 30 = .ok (.iload_n 1, 1) := by decide +kernel
theorem dL_sound_31 : decode cL_sound 31 = .ok (.iload_n 1, 1) := by decide +kernel
theorem dL_sound_32 : decode cL_sound 32 = .ok (.iload 5, 2) := by decide +kernel
theorem dL_sound_34 : decode cL_sound 34 = .ok (.invokevirtual 19, 3) := by decide +kernel
theorem dL_sound_37 : decode cL_sound 37 = .ok (.iconst 1, 1) := by decide +kernel
theorem dL_sound_38 : decode cL_sound 38 = .ok (.if_icmp .ne 21, 3) := by decide +kernel
theorem dL_sound_41 : decode cL_sound 41 = .ok (.iload 6, 2) := by decide +kernel
theorem dL_sound_43 : decode cL_sound 43 = .ok (.iload 4, 2) := by decide +kernel
theorem dL_sound_45 : decode cL_sound 45 = .ok (.if_icmp .le 14, 3) := by decide +kernel
theorem dL_sound_48 : decode cL_sound 48 = .ok (.iload 6, 2) := by decide +kernel
theorem dL_sound_50 : decode cL_sound 50 = .ok (.aload_n 0, 1) := by decide +kernel
theorem dL_sound_51 : decode cL_sound 51 = .ok (.iload_n 1, 1) := by decide +kernel
theorem dL_sound_52 : decode cL_sound 52 = .ok (.iconst 0, 1) := by decide +kernel
theorem dL_sound_53 : decode cL_sound 53 = .ok (.invokevirtual 9, 3) := by decide +kernel
theorem dL_sound_56 : decode cL_sound 56 = .ok (.if_icmp .le 5, 3) := by decide +kernel
theorem dL_sound_59 : decode cL_sound 59 = .ok (.iconst 0, 1) := by decide +kernel
theorem dL_sound_60 : decode cL_sound 60 = .ok (.ireturn, 1) := by decide +kernel
theorem dL_sound_61 : decode cL_sound 61 = .ok (.iload 6, 2) := by decide +kernel
theorem dL_sound_63 : decode cL_sound 63 = .ok (.istore 4, 2) := by decide +kernel
theorem dL_sound_65 : decode cL_sound 65 = .ok (.iinc 5 1, 3) := by decide +kernel
theorem dL_sound_68 : decode cL_sound 68 = .ok (.goto (-55), 3) := by decide +kernel
theorem dL_sound_71 : decode cL_sound 71 = .ok (.aload_n 0, 1) := by decide +kernel
theorem dL_sound_72 : decode cL_sound 72 = .ok (.iload_n 1, 1) := by decide +kernel
theorem dL_sound_73 : decode cL_sound 73 = .ok (.iconst 3, 1) := by decide +kernel
theorem dL_sound_74 : decode cL_sound 74 = .ok (.invokevirtual 9, 3) := by decide +kernel
theorem dL_sound_77 : decode cL_sound 77 = .ok (.istore 5, 2) := by decide +kernel
theorem dL_sound_79 : decode cL_sound 79 = .ok (.iconst 0, 1) := by decide +kernel
theorem dL_sound_80 : decode cL_sound 80 = .ok (.istore 6, 2) := by decide +kernel
theorem dL_sound_82 : decode cL_sound 82 = .ok (.iload 6, 2) := by decide +kernel
theorem dL_sound_84 : decode cL_sound 84 = .ok (.iload 5, 2) := by decide +kernel
theorem dL_sound_86 : decode cL_sound 86 = .ok (.if_icmp .ge 99, 3) := by decide +kernel
theorem dL_sound_89 : decode cL_sound 89 = .ok (.aload_n 0, 1) := by decide +kernel
theorem dL_sound_90 : decode cL_sound 90 = .ok (.iload_n 1, 1) := by decide +kernel
theorem dL_sound_91 : decode cL_sound 91 = .ok (.iload 6, 2) := by decide +kernel
theorem dL_sound_93 : decode cL_sound 93 = .ok (.iconst 0, 1) := by decide +kernel
theorem dL_sound_94 : decode cL_sound 94 = .ok (.invokevirtual 22, 3) := by decide +kernel
theorem dL_sound_97 : decode cL_sound 97 = .ok (.istore 7, 2) := by decide +kernel
theorem dL_sound_99 : decode cL_sound 99 = .ok (.aload_n 0, 1) := by decide +kernel
theorem dL_sound_100 : decode cL_sound 100 = .ok (.iload_n 1, 1) := by decide +kernel
theorem dL_sound_101 : decode cL_sound 101 = .ok (.iload 6, 2) := by decide +kernel
theorem dL_sound_103 : decode cL_sound 103 = .ok (.iconst 1, 1) := by decide +kernel
theorem dL_sound_104 : decode cL_sound 104 = .ok (.invokevirtual 22, 3) := by decide +kernel
theorem dL_sound_107 : decode cL_sound 107 = .ok (.istore 8, 2) := by decide +kernel
theorem dL_sound_109 : decode cL_sound 109 = .ok (.aload_n 0, 1) := by decide +kernel
theorem dL_sound_110 : decode cL_sound 110 = .ok (.iload 7, 2) := by decide +kernel
theorem dL_sound_112 : decode cL_sound 112 = .ok (.iload 8, 2) := by decide +kernel
theorem dL_sound_114 : decode cL_sound 114 = .ok (.iconst 0, 1) := by decide +kernel
theorem dL_sound_115 : decode cL_sound 115 = .ok (.invokevirtual 15, 3) := by decide +kernel
theorem dL_sound_118 : decode cL_sound 118 = .ok (.ifCond .ne 59, 3) := by decide +kernel
theorem dL_sound_121 : decode cL_sound 121 = .ok (.aload_n 0, 1) := by decide +kernel
theorem dL_sound_122 : decode cL_sound 122 = .ok (.iload_n 1, 1) := by decide +kernel
theorem dL_sound_123 : decode cL_sound 123 = .ok (.iload 7, 2) := by decide +kernel
theorem dL_sound_125 : decode cL_sound 125 = .ok (.iload 8, 2) := by decide +kernel
theorem dL_sound_127 : decode cL_sound 127 = .ok (.invokevirtual 19, 3) := by decide +kernel
theorem dL_sound_130 : decode cL_sound 130 = .ok (.iconst 1, 1) := by decide +kernel
theorem dL_sound_131 : decode cL_sound 131 = .ok (.if_icmp .ne 46, 3) := by decide +kernel
theorem dL_sound_134 : decode cL_sound 134 = .ok (.aload_n 0, 1) := by decide +kernel
theorem dL_sound_135 : decode cL_sound 135 = .ok (.iload_n 1, 1) := by decide +kernel
theorem dL_sound_136 : decode cL_sound 136 = .ok (.iload 6, 2) := by decide +kernel
theorem dL_sound_138 : decode cL_sound 138 = .ok (.iconst 4, 1) := by decide +kernel
theorem dL_sound_139 : decode cL_sound 139 = .ok (.invokevirtual 22, 3) := by decide +kernel
theorem dL_sound_142 : decode cL_sound 142 = .ok (.aload_n 0, 1) := by decide +kernel
theorem dL_sound_143 : decode cL_sound 143 = .ok (.iload 7, 2) := by decide +kernel
theorem dL_sound_145 : decode cL_sound 145 = .ok (.iload 8, 2) := by decide +kernel
theorem dL_sound_147 : decode cL_sound 147 = .ok (.iconst 3, 1) := by decide +kernel
theorem dL_sound_148 : decode cL_sound 148 = .ok (.invokevirtual 15, 3) := by decide +kernel
theorem dL_sound_151 : decode cL_sound 151 = .ok (.if_icmp .ne 26, 3) := by decide +kernel
theorem dL_sound_154 : decode cL_sound 154 = .ok (.aload_n 0, 1) := by decide +kernel
theorem dL_sound_155 : decode cL_sound 155 = .ok (.iload_n 1, 1) := by decide +kernel
theorem dL_sound_156 : decode cL_sound 156 = .ok (.iload 6, 2) := by decide +kernel
theorem dL_sound_158 : decode cL_sound 158 = .ok (.iconst 2, 1) := by decide +kernel
theorem dL_sound_159 : decode cL_sound 159 = .ok (.invokevirtual 22, 3) := by decide +kernel
theorem dL_sound_162 : decode cL_sound 162 = .ok (.ifCond .lt 15, 3) := by decide +kernel
theorem dL_sound_165 : decode cL_sound 165 = .ok (.aload_n 0, 1) := by decide +kernel
theorem dL_sound_166 : decode cL_sound 166 = .ok (.iload_n 1, 1) := by decide +kernel
theorem dL_sound_167 : decode cL_sound 167 = .ok (.iload 6, 2) := by decide +kernel
theorem dL_sound_169 : decode cL_sound 169 = .ok (.iconst 2, 1) := by decide +kernel
theorem dL_sound_170 : decode cL_sound 170 = .ok (.invokevirtual 22, 3) := by decide +kernel
theorem dL_sound_173 : decode cL_sound 173 = .ok (.iconst 3, 1) := by decide +kernel
theorem dL_sound_174 : decode cL_sound 174 = .ok (.if_icmp .le 5, 3) := by decide +kernel
theorem dL_sound_177 : decode cL_sound 177 = .ok (.iconst 0, 1) := by decide +kernel
theorem dL_sound_178 : decode cL_sound 178 = .ok (.ireturn, 1) := by decide +kernel
theorem dL_sound_179 : decode cL_sound 179 = .ok (.iinc 6 1, 3) := by decide +kernel
theorem dL_sound_182 : decode cL_sound 182 = .ok (.goto (-100), 3) := by decide +kernel
theorem dL_sound_185 : decode cL_sound 185 = .ok (.aload_n 0, 1) := by decide +kernel
theorem dL_sound_186 : decode cL_sound 186 = .ok (.iload_n 1, 1) := by decide +kernel
theorem dL_sound_187 : decode cL_sound 187 = .ok (.invokevirtual 25, 3) := by decide +kernel
theorem dL_sound_190 : decode cL_sound 190 = .ok (.istore 6, 2) := by decide +kernel
theorem dL_sound_192 : decode cL_sound 192 = .ok (.aload_n 0, 1) := by decide +kernel
theorem dL_sound_193 : decode cL_sound 193 = .ok (.iload_n 1, 1) := by decide +kernel
theorem dL_sound_194 : decode cL_sound 194 = .ok (.iconst 0, 1) := by decide +kernel
theorem dL_sound_195 : decode cL_sound 195 = .ok (.invokevirtual 9, 3) := by decide +kernel
theorem dL_sound_198 : decode cL_sound 198 = .ok (.iload_n 2, 1) := by decide +kernel
theorem dL_sound_199 : decode cL_sound 199 = .ok (.if_icmp .lt 65, 3) := by decide +kernel
theorem dL_sound_202 : decode cL_sound 202 = .ok (.iload_n 3, 1) := by decide +kernel
theorem dL_sound_203 : decode cL_sound 203 = .ok (.bipush 20, 2) := by decide +kernel
theorem dL_sound_205 : decode cL_sound 205 = .ok (.if_icmp .gt 59, 3) := by decide +kernel

set_option maxRecDepth 20000 in
theorem ggL_transfers_X6_operation : GoodIn wsL_transfers wsX6_operation := goodIn_r _ [136, 11, 14, 128, 17, 18, 19, 4, 20, 6, 21, 22, 23, 41, 42, 43, 44, 45, 46, 47, 25, 26, 27, 28, 29, 129, 130, 131, 137, 86, 87, 88, 89, 138, 139, 140, 141, 142, 143, 144, 145, 146, 147, 148, 149, 150, 120, 151, 122, 123, 152, 153, 154, 155, 156, 157, 158, 159, 160, 161, 162, 105, 106, 107, 117, 118, 119, 121, 163, 81, 82, 83, 84, 164, 165, 166, 167, 168, 169, 170, 95, 96, 97, 98, 193, 194, 195, 196, 197, 198, 199, 200, 201, 204, 205, 206, 207, 208, 209, 210, 211, 202, 216, 217, 218, 219, 220] (by decide +kernel) (by decide +kernel)
set_option maxRecDepth 20000 in
theorem gL_transfers_X6_operation : GoodIn wsL_transfers (wsV RL 15 RX6 yX6_operation wsX6_operation) := goodIn_app (goodIn_of _ (by decide +kernel)) ggL_transfers_X6_operation
set_option maxRecDepth 20000 in
theorem ggL_transfers_X6_transfer : GoodIn wsL_transfers wsX6_transfer := goodIn_r _ [174, 11, 13, 14, 12, 175, 176, 177, 178, 179, 180, 181, 4, 182, 17, 18, 19, 20, 6, 21, 22, 23, 132, 36, 37, 33, 38, 39, 40, 25, 26, 27, 28, 29, 183, 184, 185, 186, 187, 188, 189, 190, 191, 91, 92, 93, 24, 138, 139, 140, 44, 141, 142, 47, 192, 143, 144, 145, 146, 89, 147, 148, 149, 150, 120, 151, 122, 123, 152, 153, 154, 155, 156, 157, 158, 159, 160, 161, 193, 194, 195, 196, 197, 198, 199, 200, 201, 203, 202, 204, 205, 206, 207, 208, 209, 210, 211, 216, 217, 218, 219, 220] (by decide +kernel) (by decide +kernel)
set_option maxRecDepth 20000 in
theorem gL_transfers_X6_transfer : GoodIn wsL_transfers (wsV RL 58 RX6 yX6_transfer wsX6_transfer) := goodIn_app (goodIn_of _ (by decide +kernel)) ggL_transfers_X6_transfer
theorem dL_transfers_0 : decode cL_transfers 0 = .ok (.iconst 0, 1) := by decide +kernel
theorem dL_transfers_1 : decode cL_transfers 1 = .ok (.istore_n 3, 1) := by decide +kernel
theorem dL_transfers_2 : decode cL_transfers 2 = .ok (.iconst 0, 1) := by decide +kernel
theorem dL_transfers_3 : decode cL_transfers 3 = .ok (.istore 4, 2) := by decide +kernel
theorem dL_transfers_5 : decode cL_transfers 5 = .ok (.iload 4, 2) := by decide +kernel
theorem dL_transfers_7 : decode cL_transfers 7 = .ok (.aload_n 0, 1) := by decide +kernel
theorem dL_transfers_8 : decode cL_transfers 8 = .ok (.invokevirtual 41, 3) := by decide +kernel
theorem dL_transfers_11 : decode cL_transfers 11 = .ok (.if_icmp .ge 71, 3) := by decide +kernel
theorem dL_transfers_14 : decode cL_transfers 14 = .ok (.iconst 1, 1) := by decide +kernel
theorem dL_transfers_15 : decode cL_transfers 15 = .ok (.istore 5, 2) := by decide +kernel
theorem dL_transfers_17 : decode cL_transfers 17 = .ok (.iload 5, 2) := by decide +kernel
theorem dL_transfers_19 : decode cL_transfers 19 = .ok (.aload_n 0, 1) := by decide +kernel
theorem dL_transfers_20 : decode cL_transfers 20 = .ok (.iload 4, 2) := by decide +kernel
theorem dL_transfers_22 : decode cL_transfers 22 = .ok (.iconst 2, 1) := by decide +kernel
theorem dL_transfers_23 : decode cL_transfers 23 = .ok (.invokevirtual 9, 3) := by decide +kernel
theorem dL_transfers_26 : decode cL_transfers 26 = .ok (.if_icmp .gt 50, 3) := by decide +kernel
theorem dL_transfers_29 : decode cL_transfers 29 = .ok (.iload_n 3, 1) := by decide +kernel
theorem dL_transfers_30 : decode cL_transfers 30 = .ok (.aload_n 0, 1) := by decide +kernel
theorem dL_transfers_31 : decode cL_transfers 31 = .ok (.iload_n 2, 1) := by decide +kernel
theorem dL_transfers_32 : decode cL_transfers 32 = .ok (.iload 4, 2) := by decide +kernel
theorem dL_transfers_34 : decode cL_transfers 34 = .ok (.iload 5, 2) := by decide +kernel
theorem dL_transfers_36 : decode cL_transfers 36 = .ok (.invokevirtual 19, 3) := by decide +kernel
theorem dL_transfers_39 : decode cL_transfers 39 = .ok (.iconst 1, 1) := by decide +kernel
theorem dL_transfers_40 : decode cL_transfers 40 = .ok (.if_icmp .ne 27, 3) := by decide +kernel
theorem dL_transfers_43 : decode cL_transfers 43 = .ok (.aload_n 0, 1) := by decide +kernel
theorem dL_transfers_44 : decode cL_transfers 44 = .ok (.iload_n 1, 1) := by decide +kernel
theorem dL_transfers_45 : decode cL_transfers 45 = .ok (.iload 4, 2) := by decide +kernel
theorem dL_transfers_47 : decode cL_transfers 47 = .ok (.iload 5, 2) := by decide +kernel
theorem dL_transfers_49 : decode cL_transfers 49 = .ok (.invokevirtual 19, 3) := by decide +kernel
theorem dL_transfers_52 : decode cL_transfers 52 = .ok (.ifCond .ne 15, 3) := by decide +kernel
theorem dL_transfers_55 : decode cL_transfers 55 = .ok (.aload_n 0, 1) := by decide +kernel
theorem dL_transfers_56 : decode cL_transfers 56 = .ok (.iload 4, 2) := by decide +kernel
theorem dL_transfers_58 : decode cL_transfers 58 = .ok (.iload 5, 2) := by decide +kernel
theorem dL_transfers_60 : decode cL_transfers 60 = .ok (.iconst 2, 1) := by decide +kernel
theorem dL_transfers_61 : decode cL_transfers 61 = .ok (.invokevirtual 15, 3) := by decide +kernel
theorem dL_transfers_64 : decode cL_transfers 64 = .ok (.goto 4, 3) := by decide +kernel
theorem dL_transfers_67 : decode cL_transfers 67 = .ok (.iconst 0, 1) := by decide +kernel
theorem dL_transfers_68 : decode cL_transfers 68 = .ok (.iadd, 1) := by decide +kernel
theorem dL_transfers_69 : decode cL_transfers 69 = .ok (.istore_n 3, 1) := by decide +kernel
theorem dL_transfers_70 : decode cL_transfers 70 = .ok (.iinc 5 1, 3) := by decide +kernel
theorem dL_transfers_73 : decode cL_transfers 73 = .ok (.goto (-56), 3) := by decide +kernel
theorem dL_transfers_76 : decode cL_transfers 76 = .ok (.iinc 4 1, 3) := by decide +kernel
theorem dL_transfers_79 : decode cL_transfers 79 = .ok (.goto (-74), 3) := by decide +kernel
theorem dL_transfers_82 : decode cL_transfers 82 = .ok (.aload_n 0, 1) := by decide +kernel
theorem dL_transfers_83 : decode cL_transfers 83 = .ok (.iload_n 1, 1) := by decide +kernel
theorem dL_transfers_84 : decode cL_transfers 84 = .ok (.iload_n 2, 1) := by decide +kernel
theorem dL_transfers_85 : decode cL_transfers 85 = .ok (.invokevirtual 58, 3) := by decide +kernel
theorem dL_transfers_88 : decode cL_transfers 88 = .ok (.iload_n 3, 1) := by decide +kernel
theorem dL_transfers_89 : decode cL_transfers 89 = .ok (.if_icmp .ne 18, 3) := by decide +kernel
theorem dL_transfers_92 : decode cL_transfers 92 = .ok (.aload_n 0, 1) := by decide +kernel
theorem dL_transfers_93 : decode cL_transfers 93 = .ok (.iload_n 1, 1) := by decide +kernel
theorem dL_transfers_94 : decode cL_transfers 94 = .ok (.iconst 0, 1) := by decide +kernel
theorem dL_transfers_95 : decode cL_transfers 95 = .ok (.invokevirtual 9, 3) := by decide +kernel
theorem dL_transfers_98 : decode cL_transfers 98 = .ok (.aload_n 0, 1) := by decide +kernel
theorem dL_transfers_99 : decode cL_transfers 99 = .ok (.iload_n 2, 1) := by decide +kernel
theorem dL_transfers_100 : decode cL_transfers 100 = .ok (.iconst 0, 1) := by decide +kernel
theorem dL_transfers_101 : decode cL_transfers 101 = .ok (.invokevirtual 9, 3) := by decide +kernel
theorem dL_transfers_104 : decode cL_transfers 104 = .ok (.if_icmp .ge 5, 3) := by decide +kernel
theorem dL_transfers_107 : decode cL_transfers 107 = .ok (.iconst 0, 1) := by decide +kernel
theorem dL_transfers_108 : decode cL_transfers 108 = .ok (.ireturn, 1) := by decide +kernel
theorem dL_transfers_109 : decode cL_transfers 109 = .ok (.iconst 0, 1) := by decide +kernel
theorem dL_transfers_110 : decode cL_transfers 110 = .ok (.istore 4, 2) := by decide +kernel
theorem dL_transfers_112 : decode cL_transfers 112 = .ok (.iload 4, 2) := by decide +kernel
theorem dL_transfers_114 : decode cL_transfers 114 = .ok (.aload_n 0, 1) := by decide +kernel
theorem dL_transfers_115 : decode cL_transfers 115 = .ok (.invokevirtual 41, 3) := by decide +kernel
theorem dL_transfers_118 : decode cL_transfers 118 = .ok (.if_icmp .ge 58, 3) := by decide +kernel
theorem dL_transfers_121 : decode cL_transfers 121 = .ok (.iconst 1, 1) := by decide +kernel
theorem dL_transfers_122 : decode cL_transfers 122 = .ok (.istore 5, 2) := by decide +kernel
theorem dL_transfers_124 : decode cL_transfers 124 = .ok (.iload 5, 2) := by decide +kernel
theorem dL_transfers_126 : decode cL_transfers 126 = .ok (.aload_n 0, 1) := by decide +kernel
theorem dL_transfers_127 : decode cL_transfers 127 = .ok (.iload 4, 2) := by decide +kernel
theorem dL_transfers_129 : decode cL_transfers 129 = .ok (.iconst 2, 1) := by decide +kernel
theorem dL_transfers_130 : decode cL_transfers 130 = .ok (.invokevirtual 9, 3) := by decide +kernel
theorem dL_transfers_133 : decode cL_transfers 133 = .ok (.if_icmp .gt 37, 3) := by decide +kernel
theorem dL_transfers_136 : decode cL_transfers 136 = .ok (.aload_n 0, 1) := by decide +kernel
theorem dL_transfers_137 : decode cL_transfers 137 = .ok (.iload_n 2, 1) := by decide +kernel
theorem dL_transfers_138 : decode cL_transfers 138 = .ok (.iload 4, 2) := by decide +kernel
theorem dL_transfers_140 : decode cL_transfers 140 = .ok (.iload 5, 2) := by decide +kernel
theorem dL_transfers_142 : decode cL_transfers 142 = .ok (.invokevirtual 19, 3) := by decide +kernel
theorem dL_transfers_145 : decode cL_transfers 145 = .ok (.iconst 1, 1) := by decide +kernel
theorem dL_transfers_146 : decode cL_transfers 146 = .ok (.if_icmp .ne 18, 3) := by decide +kernel
theorem dL_transfers_149 : decode cL_transfers 149 = .ok (.aload_n 0, 1) := by decide +kernel
theorem dL_transfers_150 : decode cL_transfers 150 = .ok (.iload_n 1, 1) := by decide +kernel
theorem dL_transfers_151 : decode cL_transfers 151 = .ok (.iload 4, 2) := by decide +kernel
theorem dL_transfers_153 : decode cL_transfers 153 = .ok (.iload 5, 2) := by decide +kernel
theorem dL_transfers_155 : decode cL_transfers 155 = .ok (.invokevirtual 19, 3) := by decide +kernel
theorem dL_transfers_158 : decode cL_transfers 158 = .ok (.iconst 1, 1) := by decide +kernel
theorem dL_transfers_159 : decode cL_transfers 159 = .ok (.if_icmp .eq 5, 3) := by decide +kernel
theorem dL_transfers_162 : decode cL_transfers 162 = .ok (.iconst 0, 1) := by decide +kernel
theorem dL_transfers_163 : decode cL_transfers 163 = .ok (.ireturn, 1) := by decide +kernel
theorem dL_transfers_164 : decode cL_transfers 164 = .ok (.iinc 5 1, 3) := by decide +kernel
theorem dL_transfers_167 : decode cL_transfers 167 = .ok (.goto (-43), 3) := by decide +kernel
theorem dL_transfers_170 : decode cL_transfers 170 = .ok (.iinc 4 1, 3) := by decide +kernel
theorem dL_transfers_173 : decode cL_transfers 173 = .ok (.goto (-61), 3) := by decide +kernel
theorem dL_transfers_176 : decode cL_transfers 176 = .ok (.aload_n 0, 1) := by decide +kernel
theorem dL_transfers_177 : decode cL_transfers 177 = .ok (.iload_n 1, 1) := by decide +kernel
theorem dL_transfers_178 : decode cL_transfers 178 = .ok (.iload_n 2, 1) := by decide +kernel
theorem dL_transfers_179 : decode cL_transfers 179 = .ok (.invokevirtual 58, 3) := by decide +kernel
theorem dL_transfers_182 : decode cL_transfers 182 = .ok (.ifCond .ne 7, 3) := by decide +kernel
theorem dL_transfers_185 : decode cL_transfers 185 = .ok (.iconst 1, 1) := by decide +kernel
theorem dL_transfers_186 : decode cL_transfers 186 = .ok (.goto 4, 3) := by decide +kernel
theorem dL_transfers_189 : decode cL_transfers 189 = .ok (.iconst 0, 1) := by decide +kernel
theorem dL_transfers_190 : decode cL_transfers 190 = .ok (.ireturn, 1) := by decide +kernel
set_option maxRecDepth 20000 in
theorem ggL_turns_X6_digest : GoodIn wsL_turns wsX6_digest := goodIn_r _ [7, 8, 9, 10, 11, 12, 13, 6, 14, 15, 16, 17, 18, 19, 20, 21, 22, 23, 24, 25, 26, 27, 28, 29, 30, 31, 32, 33, 34, 35, 36, 37, 38, 39, 40, 41, 42, 43, 44, 45, 46, 47, 48, 49, 50, 51, 52, 53, 54, 55, 56, 57, 58, 59, 60, 61, 62, 63, 64, 65, 66, 67, 68, 69, 70, 71, 72, 73, 74, 75, 76, 77, 78, 79, 80, 81, 82, 83, 84, 85, 86, 87, 88, 89, 90, 91, 92, 93, 94, 95, 96, 97, 98, 99, 100, 101, 102, 103, 104, 105, 106, 107, 108, 109, 110, 111, 112, 113, 114, 115, 116, 117, 118, 119, 120, 121, 122, 123, 124, 125, 126, 127, 128, 129, 130, 256, 257, 258, 259, 260, 261, 262, 263, 264, 265, 266, 267, 268, 269, 270, 271, 272, 273, 274, 275, 276, 277, 278, 279, 280, 281, 282, 283] (by decide +kernel) (by decide +kernel)
set_option maxRecDepth 20000 in
theorem gL_turns_X6_digest : GoodIn wsL_turns (wsV RL 49 RX6 yX6_digest wsX6_digest) := goodIn_app (goodIn_of _ (by decide +kernel)) ggL_turns_X6_digest
set_option maxRecDepth 20000 in
theorem ggL_turns_X6_siteInfo : GoodIn wsL_turns wsX6_siteInfo := goodIn_r _ [134, 135, 136, 10, 9, 8, 137, 11, 12, 13, 6, 14, 15, 16, 17, 18, 138, 44, 45, 36, 46, 38, 139, 140, 141, 56, 142, 143, 54, 55, 57, 58, 59, 144, 145, 146, 30, 147, 148, 52, 19, 20, 21, 22, 23, 24, 25, 26, 27, 28, 29, 31, 32, 33, 34, 35, 37, 39, 40, 41, 42, 43, 47, 48, 49, 50, 51, 53, 60, 61, 62, 63, 64, 65, 66, 67, 68, 69, 70, 71, 72, 73, 74, 75, 76, 77, 78, 79, 80, 81, 82, 83, 84, 85, 86, 87, 88, 89, 90, 91, 92, 93, 94, 95, 96, 149, 150, 151, 152, 153, 117, 118, 108, 119, 120, 111, 256, 257, 258, 259, 260, 261, 262, 263, 264, 277, 278, 269, 270, 271, 272, 273, 274, 275, 276, 265, 266, 267, 268, 279, 280, 281, 282, 283] (by decide +kernel) (by decide +kernel)
set_option maxRecDepth 20000 in
theorem gL_turns_X6_siteInfo : GoodIn wsL_turns (wsV RL 9 RX6 yX6_siteInfo wsX6_siteInfo) := goodIn_app (goodIn_of _ (by decide +kernel)) ggL_turns_X6_siteInfo
set_option maxRecDepth 20000 in
theorem ggL_turns_X6_undo : GoodIn wsL_turns wsX6_undo := goodIn_r _ [157, 135, 11, 12, 13, 6, 14, 15, 16, 17, 18, 158, 159, 160, 161, 8, 9, 10, 19, 20, 21, 22, 23, 24, 25, 26, 27, 28, 29, 30, 31, 32, 33, 34, 35, 36, 37, 38, 39, 40, 41, 42, 43, 44, 45, 46, 47, 48, 49, 50, 51, 52, 53, 54, 55, 56, 57, 58, 59, 60, 61, 62, 63, 64, 65, 66, 67, 68, 69, 70, 71, 72, 73, 74, 75, 76, 77, 78, 79, 80, 81, 82, 83, 84, 85, 86, 87, 88, 89, 90, 91, 92, 93, 94, 95, 96, 144, 145, 146, 147, 148, 162, 163, 164, 165, 166, 167, 168, 169, 170, 171, 172, 173, 174, 175, 176, 177, 178, 179, 180, 136, 138, 181, 182, 183, 184, 185, 186, 187, 188, 189, 190, 191, 192, 193, 194, 195, 196, 197, 198, 199, 200, 201, 202, 203, 101, 102, 204, 205, 206, 207, 208, 209, 210, 211, 212, 213, 214, 215, 216, 217, 218, 219, 220, 221, 222, 223, 103, 104, 256, 257, 258, 259, 260, 261, 262, 263, 264, 265, 266, 267, 268, 269, 270, 271, 272, 273, 274, 275, 276, 277, 278, 284, 285] (by decide +kernel) (by decide +kernel)
set_option maxRecDepth 20000 in
theorem gL_turns_X6_undo : GoodIn wsL_turns (wsV RL 61 RX6 yX6_undo wsX6_undo) := goodIn_app (goodIn_of _ (by decide +kernel)) ggL_turns_X6_undo
set_option maxRecDepth 20000 in
theorem ggL_turns_X6_operation : GoodIn wsL_turns wsX6_operation := goodIn_r _ [227, 135, 9, 228, 11, 12, 13, 6, 14, 15, 16, 17, 18, 144, 145, 146, 30, 147, 148, 52, 44, 45, 36, 46, 38, 162, 163, 164, 229, 70, 71, 72, 73, 230, 231, 232, 233, 190, 234, 235, 236, 237, 238, 239, 240, 241, 108, 242, 120, 111, 243, 122, 123, 124, 125, 244, 127, 128, 129, 130, 165, 89, 90, 91, 153, 117, 118, 119, 245, 65, 66, 67, 68, 223, 103, 104, 246, 101, 102, 247, 79, 80, 81, 82, 256, 257, 258, 259, 260, 261, 262, 263, 264, 269, 270, 271, 272, 273, 274, 275, 276, 277, 279, 280, 281, 282, 283] (by decide +kernel) (by decide +kernel)
set_option maxRecDepth 20000 in
theorem gL_turns_X6_operation : GoodIn wsL_turns (wsV RL 15 RX6 yX6_operation wsX6_operation) := goodIn_app (goodIn_of _ (by decide +kernel)) ggL_turns_X6_operation
set_option maxRecDepth 20000 in
theorem ggL_turns_X6_redo : GoodIn wsL_turns wsX6_redo := goodIn_r _ [251, 135, 11, 12, 13, 6, 14, 15, 16, 17, 18, 252, 253, 254, 255, 8, 9, 10, 19, 20, 21, 22, 23, 24, 25, 26, 27, 28, 29, 30, 31, 32, 33, 34, 35, 36, 37, 38, 39, 40, 41, 42, 43, 44, 45, 46, 47, 48, 49, 50, 51, 52, 53, 54, 55, 56, 57, 58, 59, 60, 61, 62, 63, 64, 65, 66, 67, 68, 69, 70, 71, 72, 73, 74, 75, 76, 77, 78, 79, 80, 81, 82, 83, 84, 85, 86, 87, 88, 89, 90, 91, 92, 93, 94, 95, 96, 144, 145, 146, 147, 148, 162, 163, 164, 229, 245, 166, 167, 168, 169, 170, 171, 172, 173, 174, 175, 176, 177, 178, 179, 180, 136, 138, 181, 182, 183, 184, 185, 186, 187, 188, 189, 190, 191, 192, 193, 194, 195, 196, 197, 198, 199, 200, 201, 202, 203, 101, 102, 204, 205, 206, 207, 208, 209, 210, 211, 212, 213, 214, 215, 216, 217, 218, 219, 220, 221, 222, 223, 103, 104, 256, 257, 258, 259, 260, 261, 262, 263, 264, 265, 266, 267, 268, 269, 270, 271, 272, 273, 274, 275, 276, 277, 278, 284, 285] (by decide +kernel) (by decide +kernel)
set_option maxRecDepth 20000 in
theorem gL_turns_X6_redo : GoodIn wsL_turns (wsV RL 66 RX6 yX6_redo wsX6_redo) := goodIn_app (goodIn_of _ (by decide +kernel)) ggL_turns_X6_redo
theorem dL_turns_0 : decode cL_turns 0 = .ok (.aload_n 0, 1) := by decide +kernel
theorem dL_turns_1 : decode cL_turns 1 = .ok (.iload_n 1, 1) := by decide +kernel
theorem dL_turns_2 : decode cL_turns 2 = .ok (.invokevirtual 49, 3) := by decide +kernel
theorem dL_turns_5 : decode cL_turns 5 = .ok (.istore_n 2, 1) := by decide +kernel
theorem dL_turns_6 : decode cL_turns 6 = .ok (.aload_n 0, 1) := by decide +kernel
theorem dL_turns_7 : decode cL_turns 7 = .ok (.iload_n 1, 1) := by decide +kernel
theorem dL_turns_8 : decode cL_turns 8 = .ok (.iconst 2, 1) := by decide +kernel
theorem dL_turns_9 : decode cL_turns 9 = .ok (.invokevirtual 9, 3) := by decide +kernel
theorem dL_turns_12 : decode cL_turns 12 = .ok (.istore_n 3, 1) := by decide +kernel
theorem dL_turns_13 : decode cL_turns 13 = .ok (.aload_n 0, 1) := by decide +kernel

theorem dL_sound_208 : decode cL_sound 208 = .ok (.iload_n 3, 1) := by decide +kernel
theorem dL_sound_209 : decode cL_sound 209 = .ok (.aload_n 0, 1) := by decide +kernel
theorem dL_sound_210 : decode cL_sound 210 = .ok (.iload_n 1, 1) := by decide +kernel
theorem dL_sound_211 : decode cL_sound 211 = .ok (.iconst 1, 1) := by decide +kernel
theorem dL_sound_212 : decode cL_sound 212 = .ok (.invokevirtual 9, 3) := by decide +kernel
theorem dL_sound_215 : decode cL_sound 215 = .ok (.if_icmp .gt 49, 3) := by decide +kernel
theorem dL_sound_218 : decode cL_sound 218 = .ok (.aload_n 0, 1) := by decide +kernel
theorem dL_sound_219 : decode cL_sound 219 = .ok (.iload_n 1, 1) := by decide +kernel
theorem dL_sound_220 : decode cL_sound 220 = .ok (.iload_n 1, 1) := by decide +kernel
theorem dL_sound_221 : decode cL_sound 221 = .ok (.iconst 0, 1) := by decide +kernel
theorem dL_sound_222 : decode cL_sound 222 = .ok (.invokevirtual 29, 3) := by decide +kernel
theorem dL_sound_225 : decode cL_sound 225 = .ok (.ldc 34, 2) := by decide +kernel
theorem dL_sound_227 : decode cL_sound 227 = .ok (.if_icmp .ne 37, 3) := by decide +kernel
theorem dL_sound_230 : decode cL_sound 230 = .ok (.iload 6, 2) := by decide +kernel
theorem dL_sound_232 : decode cL_sound 232 = .ok (.ifCond .lt 32, 3) := by decide +kernel
theorem dL_sound_235 : decode cL_sound 235 = .ok (.iload 6, 2) := by decide +kernel
theorem dL_sound_237 : decode cL_sound 237 = .ok (.iload_n 3, 1) := by decide +kernel
theorem dL_sound_238 : decode cL_sound 238 = .ok (.if_icmp .gt 26, 3) := by decide +kernel
theorem dL_sound_241 : decode cL_sound 241 = .ok (.aload_n 0, 1) := by decide +kernel
theorem dL_sound_242 : decode cL_sound 242 = .ok (.iload_n 1, 1) := by decide +kernel
theorem dL_sound_243 : decode cL_sound 243 = .ok (.invokevirtual 35, 3) := by decide +kernel
theorem dL_sound_246 : decode cL_sound 246 = .ok (.iload_n 1, 1) := by decide +kernel
theorem dL_sound_247 : decode cL_sound 247 = .ok (.if_icmp .eq 17, 3) := by decide +kernel
theorem dL_sound_250 : decode cL_sound 250 = .ok (.aload_n 0, 1) := by decide +kernel
theorem dL_sound_251 : decode cL_sound 251 = .ok (.iload_n 1, 1) := by decide +kernel
theorem dL_sound_252 : decode cL_sound 252 = .ok (.iload_n 1, 1) := by decide +kernel
theorem dL_sound_253 : decode cL_sound 253 = .ok (.invokevirtual 38, 3) := by decide +kernel
theorem dL_sound_256 : decode cL_sound 256 = .ok (.iconst 1, 1) := by decide +kernel
theorem dL_sound_257 : decode cL_sound 257 = .ok (.if_icmp .ne 7, 3) := by decide +kernel
theorem dL_sound_260 : decode cL_sound 260 = .ok (.iconst 1, 1) := by decide +kernel
theorem dL_sound_261 : decode cL_sound 261 = .ok (.goto 4, 3) := by decide +kernel
theorem dL_sound_264 : decode cL_sound 264 = .ok (.iconst 0, 1) := by decide +kernel
theorem dL_sound_265 : decode cL_sound 265 = .ok (.ireturn, 1) := by decide +kernel
set_option maxRecDepth 20000 in
theorem ggL_knowSame_X6_sites : GoodIn wsL_knowSame wsX6_sites := goodIn_r _ [5, 6, 133, 134, 135, 136, 137, 138, 139, 140, 141] (by decide +kernel) (by decide +kernel)
set_option maxRecDepth 20000 in
theorem gL_knowSame_X6_sites : GoodIn wsL_knowSame (wsV RL 41 RX6 yX6_sites wsX6_sites) := goodIn_app (goodIn_of _ (by decide +kernel)) ggL_knowSame_X6_sites
set_option maxRecDepth 20000 in
theorem ggL_knowSame_X6_siteInfo : GoodIn wsL_knowSame wsX6_siteInfo := goodIn_r _ [10, 11, 12, 13, 14, 15, 16, 17, 18, 19, 4, 20, 6, 21, 22, 23, 24, 25, 26, 27, 28, 29, 30, 31, 32, 33, 34, 35, 36, 37, 38, 39, 40, 41, 42, 43, 44, 45, 46, 47, 48, 49, 50, 51, 52, 53, 54, 55, 56, 57, 58, 59, 60, 61, 62, 63, 64, 65, 66, 67, 68, 69, 70, 71, 72, 73, 74, 75, 76, 77, 78, 79, 80, 81, 82, 83, 84, 85, 86, 87, 88, 89, 90, 91, 92, 93, 94, 95, 96, 97, 98, 99, 100, 101, 102, 103, 104, 105, 106, 107, 108, 109, 110, 111, 112, 113, 114, 115, 116, 117, 118, 119, 120, 121, 122, 123, 133, 134, 135, 136, 137, 138, 139, 140, 141, 142, 143, 144, 145, 146, 147, 148, 149, 150, 151, 152, 153, 154, 155, 156, 157, 158, 159, 160] (by decide +kernel) (by decide +kernel)
set_option maxRecDepth 20000 in
theorem gL_knowSame_X6_siteInfo : GoodIn wsL_knowSame (wsV RL 9 RX6 yX6_siteInfo wsX6_siteInfo) := goodIn_app (goodIn_of _ (by decide +kernel)) ggL_knowSame_X6_siteInfo
set_option maxRecDepth 20000 in
theorem ggL_knowSame_X6_knows : GoodIn wsL_knowSame wsX6_knows := goodIn_r _ [127, 11, 14, 128, 13, 17, 18, 19, 4, 20, 6, 21, 22, 23, 41, 42, 43, 44, 45, 46, 47, 25, 26, 27, 28, 29, 129, 130, 131, 132, 36, 37, 33, 38, 39, 40, 133, 134, 135, 136, 137, 138, 139, 140, 141, 144, 145, 146, 147, 148, 149, 150, 151, 142, 143] (by decide +kernel) (by decide +kernel)
set_option maxRecDepth 20000 in
theorem gL_knowSame_X6_knows : GoodIn wsL_knowSame (wsV RL 19 RX6 yX6_knows wsX6_knows) := goodIn_app (goodIn_of _ (by decide +kernel)) ggL_knowSame_X6_knows
theorem dL_knowSame_0 : decode cL_knowSame 0 = .ok (.iconst 1, 1) := by decide +kernel
theorem dL_knowSame_1 : decode cL_knowSame 1 = .ok (.istore_n 3, 1) := by decide +kernel
theorem dL_knowSame_2 : decode cL_knowSame 2 = .ok (.iconst 0, 1) := by decide +kernel
theorem dL_knowSame_3 : decode cL_knowSame 3 = .ok (.istore 4, 2) := by decide +kernel
theorem dL_knowSame_5 : decode cL_knowSame 5 = .ok (.iload 4, 2) := by decide +kernel
theorem dL_knowSame_7 : decode cL_knowSame 7 = .ok (.aload_n 0, 1) := by decide +kernel
theorem dL_knowSame_8 : decode cL_knowSame 8 = .ok (.invokevirtual 41, 3) := by decide +kernel
theorem dL_knowSame_11 : decode cL_knowSame 11 = .ok (.if_icmp .ge 61, 3) := by decide +kernel
theorem dL_knowSame_14 : decode cL_knowSame 14 = .ok (.iconst 1, 1) := by decide +kernel
theorem dL_knowSame_15 : decode cL_knowSame 15 = .ok (.istore 5, 2) := by decide +kernel
theorem dL_knowSame_17 : decode cL_knowSame 17 = .ok (.iload 5, 2) := by decide +kernel
theorem dL_knowSame_19 : decode cL_knowSame 19 = .ok (.aload_n 0, 1) := by decide +kernel
theorem dL_knowSame_20 : decode cL_knowSame 20 = .ok (.iload 4, 2) := by decide +kernel
theorem dL_knowSame_22 : decode cL_knowSame 22 = .ok (.iconst 2, 1) := by decide +kernel
theorem dL_knowSame_23 : decode cL_knowSame 23 = .ok (.invokevirtual 9, 3) := by decide +kernel
theorem dL_knowSame_26 : decode cL_knowSame 26 = .ok (.if_icmp .gt 40, 3) := by decide +kernel
theorem dL_knowSame_29 : decode cL_knowSame 29 = .ok (.iload_n 3, 1) := by decide +kernel
theorem dL_knowSame_30 : decode cL_knowSame 30 = .ok (.ifCond .eq 28, 3) := by decide +kernel
theorem dL_knowSame_33 : decode cL_knowSame 33 = .ok (.aload_n 0, 1) := by decide +kernel
theorem dL_knowSame_34 : decode cL_knowSame 34 = .ok (.iload_n 1, 1) := by decide +kernel
theorem dL_knowSame_35 : decode cL_knowSame 35 = .ok (.iload 4, 2) := by decide +kernel
theorem dL_knowSame_37 : decode cL_knowSame 37 = .ok (.iload 5, 2) := by decide +kernel
theorem dL_knowSame_39 : decode cL_knowSame 39 = .ok (.invokevirtual 19, 3) := by decide +kernel
theorem dL_knowSame_42 : decode cL_knowSame 42 = .ok (.aload_n 0, 1) := by decide +kernel
theorem dL_knowSame_43 : decode cL_knowSame 43 = .ok (.iload_n 2, 1) := by decide +kernel
theorem dL_knowSame_44 : decode cL_knowSame 44 = .ok (.iload 4, 2) := by decide +kernel
theorem dL_knowSame_46 : decode cL_knowSame 46 = .ok (.iload 5, 2) := by decide +kernel
theorem dL_knowSame_48 : decode cL_knowSame 48 = .ok (.invokevirtual 19, 3) := by decide +kernel
theorem dL_knowSame_51 : decode cL_knowSame 51 = .ok (.if_icmp .ne 7, 3) := by decide +kernel
theorem dL_knowSame_54 : decode cL_knowSame 54 = .ok (.iconst 1, 1) := by decide +kernel
theorem dL_knowSame_55 : decode cL_knowSame 55 = .ok (.goto 4, 3) := by decide +kernel
theorem dL_knowSame_58 : decode cL_knowSame 58 = .ok (.iconst 0, 1) := by decide +kernel
theorem dL_knowSame_59 : decode cL_knowSame 59 = .ok (.istore_n 3, 1) := by decide +kernel
theorem dL_knowSame_60 : decode cL_knowSame 60 = .ok (.iinc 5 1, 3) := by decide +kernel
theorem dL_knowSame_63 : decode cL_knowSame 63 = .ok (.goto (-46), 3) := by decide +kernel
theorem dL_knowSame_66 : decode cL_knowSame 66 = .ok (.iinc 4 1, 3) := by decide +kernel
theorem dL_knowSame_69 : decode cL_knowSame 69 = .ok (.goto (-64), 3) := by decide +kernel
theorem dL_knowSame_72 : decode cL_knowSame 72 = .ok (.iload_n 3, 1) := by decide +kernel
theorem dL_knowSame_73 : decode cL_knowSame 73 = .ok (.ireturn, 1) := by decide +kernel
set_option maxRecDepth 20000 in
theorem ggL_pairs_X6_sites : GoodIn wsL_pairs wsX6_sites := goodIn_r _ [5, 6, 206, 207, 208, 209, 210, 211, 212, 213, 214] (by decide +kernel) (by decide +kernel)
set_option maxRecDepth 20000 in
theorem gL_pairs_X6_sites : GoodIn wsL_pairs (wsV RL 41 RX6 yX6_sites wsX6_sites) := goodIn_app (goodIn_of _ (by decide +kernel)) ggL_pairs_X6_sites
set_option maxRecDepth 20000 in
theorem ggL_pairs_X6_areSame : GoodIn wsL_pairs wsX6_areSame := goodIn_r _ [10, 11, 12, 13, 14, 15, 4, 16, 6, 17, 18, 19, 20, 21, 22, 23, 24, 25, 26, 27, 28, 29, 30, 31, 32, 33, 34, 35, 36, 37, 38, 39, 40, 41, 42, 43, 44, 45, 46, 47, 48, 49, 50, 51, 52, 53, 54, 55, 56, 57, 58, 59, 60, 61, 62, 63, 64, 65, 66, 67, 68, 69, 70, 71, 72, 73, 74, 75, 76, 77, 78, 79, 80, 81, 82, 83, 84, 85, 86, 87, 88, 89, 90, 91, 92, 93, 94, 95, 96, 97, 98, 99, 100, 101, 102, 103, 104, 105, 106, 107, 108, 109, 110, 111, 112, 113, 114, 115, 116, 206, 207, 208, 209, 210, 211, 212, 213, 214, 215, 216, 217, 218, 219, 220, 221, 222, 223, 224, 225, 226, 227, 228] (by decide +kernel) (by decide +kernel)
set_option maxRecDepth 20000 in
theorem gL_pairs_X6_areSame : GoodIn wsL_pairs (wsV RL 38 RX6 yX6_areSame wsX6_areSame) := goodIn_app (goodIn_of _ (by decide +kernel)) ggL_pairs_X6_areSame
set_option maxRecDepth 20000 in
theorem ggL_pairs_L_knowSame : GoodIn wsL_pairs wsL_knowSame := goodIn_r _ [120, 1, 2, 3, 4, 5, 6, 121, 122, 123, 124, 11, 125, 12, 25, 24, 126, 13, 14, 15, 16, 17, 18, 19, 127, 52, 53, 44, 54, 46, 128, 129, 130, 64, 131, 132, 62, 63, 65, 66, 67, 133, 134, 135, 38, 136, 137, 60, 27, 28, 29, 30, 31, 32, 33, 34, 35, 36, 37, 39, 40, 41, 42, 43, 45, 47, 48, 49, 50, 51, 55, 56, 57, 58, 59, 61, 68, 69, 70, 71, 72, 73, 74, 75, 76, 77, 78, 79, 80, 81, 82, 83, 84, 85, 86, 87, 88, 89, 90, 91, 92, 93, 94, 95, 96, 97, 98, 99, 100, 101, 102, 103, 104, 138, 139, 140, 141, 142, 143, 144, 145, 146, 147, 148, 149, 150, 151, 152, 153, 154, 155, 156, 157, 206, 207, 208, 209, 210, 211, 212, 213, 214, 227, 228, 219, 220, 221, 222, 223, 224, 225, 226, 215, 216, 217, 218, 229, 230, 231, 232, 233] (by decide +kernel) (by decide +kernel)
set_option maxRecDepth 20000 in
theorem gL_pairs_L_knowSame : GoodIn wsL_pairs (va_wsS RL 45 yL_knowSame wsL_knowSame) := goodIn_app (goodIn_of _ (by decide +kernel)) ggL_pairs_L_knowSame
set_option maxRecDepth 20000 in
theorem ggL_pairs_X6_digest : GoodIn wsL_pairs wsX6_digest := goodIn_r _ [161, 24, 25, 12, 13, 14, 15, 4, 16, 6, 17, 18, 19, 27, 28, 29, 30, 31, 32, 33, 34, 35, 36, 37, 38, 39, 40, 41, 42, 43, 44, 45, 46, 47, 48, 49, 50, 51, 52, 53, 54, 55, 56, 57, 58, 59, 60, 61, 62, 63, 64, 65, 66, 67, 68, 69, 70, 71, 72, 73, 74, 75, 76, 77, 78, 79, 80, 81, 82, 83, 84, 85, 86, 87, 88, 89, 90, 91, 92, 93, 94, 95, 96, 97, 98, 99, 100, 101, 102, 103, 104, 162, 163, 164, 165, 166, 167, 168, 169, 170, 171, 172, 145, 173, 174, 148, 175, 176, 177, 178, 179, 143, 144, 146, 147, 180, 181, 182, 183, 184, 185, 186, 187, 188, 189, 206, 207, 208, 209, 210, 211, 212, 213, 214, 215, 216, 217, 218, 219, 220, 221, 222, 223, 224, 225, 226, 227, 228, 229, 230, 231, 232, 233] (by decide +kernel) (by decide +kernel)
set_option maxRecDepth 20000 in
theorem gL_pairs_X6_digest : GoodIn wsL_pairs (wsV RL 49 RX6 yX6_digest wsX6_digest) := goodIn_app (goodIn_of _ (by decide +kernel)) ggL_pairs_X6_digest
set_option maxRecDepth 20000 in
theorem ggL_pairs_X6_waiting : GoodIn wsL_pairs wsX6_waiting := goodIn_r _ [193, 194, 11, 195, 196, 197, 4, 198, 13, 14, 15, 16, 6, 17, 18, 19, 199, 200, 201, 202, 203, 204, 205, 52, 53, 44, 54, 46, 206, 207, 208, 209, 210, 211, 212, 213, 214, 234, 235, 227] (by decide +kernel) (by decide +kernel)
set_option maxRecDepth 20000 in
theorem gL_pairs_X6_waiting : GoodIn wsL_pairs (wsV RL 52 RX6 yX6_waiting wsX6_waiting) := goodIn_app (goodIn_of _ (by decide +kernel)) ggL_pairs_X6_waiting
theorem dL_pairs_0 : decode cL_pairs 0 = .ok (.iconst 0, 1) := by decide +kernel
theorem dL_pairs_1 : decode cL_pairs 1 = .ok (.istore_n 1, 1) := by decide +kernel
theorem dL_pairs_2 : decode cL_pairs 2 = .ok (.iload_n 1, 1) := by decide +kernel
theorem dL_pairs_3 : decode cL_pairs 3 = .ok (.aload_n 0, 1) := by decide +kernel
theorem dL_pairs_4 : decode cL_pairs 4 = .ok (.invokevirtual 41, 3) := by decide +kernel
theorem dL_pairs_7 : decode cL_pairs 7 = .ok (.if_icmp .ge 98, 3) := by decide +kernel
theorem dL_pairs_10 : decode cL_pairs 10 = .ok (.iconst 0, 1) := by decide +kernel
theorem dL_pairs_11 : decode cL_pairs 11 = .ok (.istore_n 2, 1) := by decide +kernel
theorem dL_pairs_12 : decode cL_pairs 12 = .ok (.iload_n 2, 1) := by decide +kernel
theorem dL_pairs_13 : decode cL_pairs 13 = .ok (.aload_n 0, 1) := by decide +kernel
theorem dL_pairs_14 : decode cL_pairs 14 = .ok (.invokevirtual 41, 3) := by decide +kernel
theorem dL_pairs_17 : decode cL_pairs 17 = .ok (.if_icmp .ge 82, 3) := by decide +kernel
theorem dL_pairs_20 : decode cL_pairs 20 = .ok (.aload_n 0, 1) := by decide +kernel
theorem dL_pairs_21 : decode cL_pairs 21 = .ok (.iload_n 1, 1) := by decide +kernel
theorem dL_pairs_22 : decode cL_pairs 22 = .ok (.iload_n 2, 1) := by decide +kernel
theorem dL_pairs_23 : decode cL_pairs 23 = .ok (.invokevirtual 38, 3) := by decide +kernel
theorem dL_pairs_26 : decode cL_pairs 26 = .ok (.iconst 1, 1) := by decide +kernel
theorem dL_pairs_27 : decode cL_pairs 27 = .ok (.if_icmp .ne 7, 3) := by decide +kernel
theorem dL_pairs_30 : decode cL_pairs 30 = .ok (.iconst 1, 1) := by decide +kernel
theorem dL_pairs_31 : decode cL_pairs 31 = .ok (.goto 4, 3) := by decide +kernel
theorem dL_pairs_34 : decode cL_pairs 34 = .ok (.iconst 0, 1) := by decide +kernel
theorem dL_pairs_35 : decode cL_pairs 35 = .ok (.istore_n 3, 1) := by decide +kernel
theorem dL_pairs_36 : decode cL_pairs 36 = .ok (.aload_n 0, 1) := by decide +kernel
theorem dL_pairs_37 : decode cL_pairs 37 = .ok (.iload_n 1, 1) := by decide +kernel
theorem dL_pairs_38 : decode cL_pairs 38 = .ok (.iload_n 2, 1) := by decide +kernel
theorem dL_pairs_39 : decode cL_pairs 39 = .ok (.invokestatic 45, 3) := by decide +kernel
theorem dL_pairs_42 : decode cL_pairs 42 = .ok (.ifCond .eq 7, 3) := by decide +kernel
theorem dL_pairs_45 : decode cL_pairs 45 = .ok (.iload_n 3, 1) := by decide +kernel
theorem dL_pairs_46 : decode cL_pairs 46 = .ok (.ifCond .eq 45, 3) := by decide +kernel
theorem dL_pairs_49 : decode cL_pairs 49 = .ok (.iload_n 3, 1) := by decide +kernel
theorem dL_pairs_50 : decode cL_pairs 50 = .ok (.ifCond .eq 16, 3) := by decide +kernel
theorem dL_pairs_53 : decode cL_pairs 53 = .ok (.aload_n 0, 1) := by decide +kernel
theorem dL_pairs_54 : decode cL_pairs 54 = .ok (.iload_n 1, 1) := by decide +kernel
theorem dL_pairs_55 : decode cL_pairs 55 = .ok (.invokevirtual 49, 3) := by decide +kernel
theorem dL_pairs_58 : decode cL_pairs 58 = .ok (.aload_n 0, 1) := by decide +kernel
theorem dL_pairs_59 : decode cL_pairs 59 = .ok (.iload_n 2, 1) := by decide +kernel
theorem dL_pairs_60 : decode cL_pairs 60 = .ok (.invokevirtual 49, 3) := by decide +kernel
theorem dL_pairs_63 : decode cL_pairs 63 = .ok (.if_icmp .ne 28, 3) := by decide +kernel
theorem dL_pairs_66 : decode cL_pairs 66 = .ok (.iload_n 1, 1) := by decide +kernel

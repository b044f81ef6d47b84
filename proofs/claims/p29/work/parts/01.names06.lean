theorem dL_pairs_67 : decode cL_pairs 67 = .ok (.iload_n 2, 1) := by decide +kernel
theorem dL_pairs_68 : decode cL_pairs 68 = .ok (.if_icmp .eq 25, 3) := by decide +kernel
theorem dL_pairs_71 : decode cL_pairs 71 = .ok (.aload_n 0, 1) := by decide +kernel
theorem dL_pairs_72 : decode cL_pairs 72 = .ok (.iload_n 1, 1) := by decide +kernel
theorem dL_pairs_73 : decode cL_pairs 73 = .ok (.iload_n 2, 1) := by decide +kernel
theorem dL_pairs_74 : decode cL_pairs 74 = .ok (.invokevirtual 52, 3) := by decide +kernel
theorem dL_pairs_77 : decode cL_pairs 77 = .ok (.ifCond .lt 14, 3) := by decide +kernel
theorem dL_pairs_80 : decode cL_pairs 80 = .ok (.aload_n 0, 1) := by decide +kernel
theorem dL_pairs_81 : decode cL_pairs 81 = .ok (.iload_n 1, 1) := by decide +kernel
theorem dL_pairs_82 : decode cL_pairs 82 = .ok (.iload_n 2, 1) := by decide +kernel
theorem dL_pairs_83 : decode cL_pairs 83 = .ok (.invokevirtual 52, 3) := by decide +kernel
theorem dL_pairs_86 : decode cL_pairs 86 = .ok (.bipush 10, 2) := by decide +kernel
theorem dL_pairs_88 : decode cL_pairs 88 = .ok (.if_icmp .le 5, 3) := by decide +kernel
theorem dL_pairs_91 : decode cL_pairs 91 = .ok (.iconst 0, 1) := by decide +kernel
theorem dL_pairs_92 : decode cL_pairs 92 = .ok (.ireturn, 1) := by decide +kernel
theorem dL_pairs_93 : decode cL_pairs 93 = .ok (.iinc 2 1, 3) := by decide +kernel
theorem dL_pairs_96 : decode cL_pairs 96 = .ok (.goto (-84), 3) := by decide +kernel
theorem dL_pairs_99 : decode cL_pairs 99 = .ok (.iinc 1 1, 3) := by decide +kernel
theorem dL_pairs_102 : decode cL_pairs 102 = .ok (.goto (-100), 3) := by decide +kernel
theorem dL_pairs_105 : decode cL_pairs 105 = .ok (.iconst 1, 1) := by decide +kernel
theorem dL_pairs_106 : decode cL_pairs 106 = .ok (.ireturn, 1) := by decide +kernel
set_option maxRecDepth 20000 in
theorem ggL_repairs_X6_siteInfo : GoodIn wsL_repairs wsX6_siteInfo := goodIn_r _ [6, 7, 8, 9, 10, 11, 12, 13, 14, 15, 5, 16, 17, 18, 19, 20, 21, 22, 23, 24, 25, 26, 27, 28, 29, 30, 31, 32, 33, 34, 35, 36, 37, 38, 39, 40, 41, 42, 43, 44, 45, 46, 47, 48, 49, 50, 51, 52, 53, 54, 55, 56, 57, 58, 59, 60, 61, 62, 63, 64, 65, 66, 67, 68, 69, 70, 71, 72, 73, 74, 75, 76, 77, 78, 79, 80, 81, 82, 83, 84, 85, 86, 87, 88, 89, 90, 91, 92, 93, 94, 95, 96, 97, 98, 99, 100, 101, 102, 103, 104, 105, 106, 107, 108, 109, 110, 111, 112, 113, 114, 115, 116, 117, 118, 119, 120, 189, 190, 191, 192, 193, 194, 195, 196, 197, 198, 199, 200, 201, 202, 203, 204, 205, 206, 207, 208, 209, 210, 211, 212, 213, 214, 215, 216] (by decide +kernel) (by decide +kernel)
set_option maxRecDepth 20000 in
theorem gL_repairs_X6_siteInfo : GoodIn wsL_repairs (wsV RL 9 RX6 yX6_siteInfo wsX6_siteInfo) := goodIn_app (goodIn_of _ (by decide +kernel)) ggL_repairs_X6_siteInfo
set_option maxRecDepth 20000 in
theorem ggL_repairs_X6_bestHelper : GoodIn wsL_repairs wsX6_bestHelper := goodIn_r _ [124, 7, 125, 17, 13, 14, 15, 5, 16, 18, 19, 20, 126, 127, 128, 129, 130, 131, 132, 133, 9, 134, 135, 136, 30, 137, 32, 33, 34, 35, 36, 37, 22, 23, 24, 25, 26, 138, 139, 140, 141, 142, 143, 144, 145, 146, 147, 148, 189, 190, 191, 192, 193, 194, 195, 196, 197, 199, 198] (by decide +kernel) (by decide +kernel)
set_option maxRecDepth 20000 in
theorem gL_repairs_X6_bestHelper : GoodIn wsL_repairs (wsV RL 35 RX6 yX6_bestHelper wsX6_bestHelper) := goodIn_app (goodIn_of _ (by decide +kernel)) ggL_repairs_X6_bestHelper
set_option maxRecDepth 20000 in
theorem ggL_repairs_X6_repair : GoodIn wsL_repairs wsX6_repair := goodIn_r _ [152, 7, 153, 154, 155, 5, 156, 13, 14, 15, 16, 17, 18, 19, 20, 130, 131, 132, 133, 9, 134, 135, 136, 30, 137, 32, 33, 34, 35, 36, 37, 22, 23, 24, 25, 26, 138, 139, 140, 141, 142, 143, 144, 145, 146, 147, 148, 157, 158, 159, 160, 8, 10, 161, 162, 163, 164, 165, 166, 167, 168, 169, 88, 89, 90, 21, 170, 171, 172, 41, 173, 174, 44, 175, 189, 190, 191, 192, 193, 194, 195, 196, 197, 199, 198, 200, 201, 202, 203, 204, 205, 206, 207] (by decide +kernel) (by decide +kernel)
set_option maxRecDepth 20000 in
theorem gL_repairs_X6_repair : GoodIn wsL_repairs (wsV RL 55 RX6 yX6_repair wsX6_repair) := goodIn_app (goodIn_of _ (by decide +kernel)) ggL_repairs_X6_repair
set_option maxRecDepth 20000 in
theorem ggL_repairs_X6_sites : GoodIn wsL_repairs wsX6_sites := goodIn_r _ [179, 17, 189, 190, 191, 192, 193, 194, 195, 196, 197] (by decide +kernel) (by decide +kernel)
set_option maxRecDepth 20000 in
theorem gL_repairs_X6_sites : GoodIn wsL_repairs (wsV RL 41 RX6 yX6_sites wsX6_sites) := goodIn_app (goodIn_of _ (by decide +kernel)) ggL_repairs_X6_sites
set_option maxRecDepth 20000 in
theorem ggL_repairs_X6_gap : GoodIn wsL_repairs wsX6_gap := goodIn_r _ [183, 7, 9, 125, 13, 14, 15, 5, 16, 17, 18, 19, 20, 184, 146, 147, 148, 33, 34, 30, 35, 36, 37, 22, 23, 24, 25, 26, 189, 190, 191, 192, 193, 194, 195, 196, 197, 199, 198] (by decide +kernel) (by decide +kernel)
set_option maxRecDepth 20000 in
theorem gL_repairs_X6_gap : GoodIn wsL_repairs (wsV RL 29 RX6 yX6_gap wsX6_gap) := goodIn_app (goodIn_of _ (by decide +kernel)) ggL_repairs_X6_gap
set_option maxRecDepth 20000 in
theorem ggL_repairs_X6_knows : GoodIn wsL_repairs wsX6_knows := goodIn_r _ [188, 7, 10, 125, 9, 13, 14, 15, 5, 16, 17, 18, 19, 20, 38, 39, 40, 41, 42, 43, 44, 22, 23, 24, 25, 26, 184, 146, 147, 148, 33, 34, 30, 35, 36, 37, 189, 190, 191, 192, 193, 194, 195, 196, 197, 200, 201, 202, 203, 204, 205, 206, 207, 198, 199] (by decide +kernel) (by decide +kernel)
set_option maxRecDepth 20000 in
theorem gL_repairs_X6_knows : GoodIn wsL_repairs (wsV RL 19 RX6 yX6_knows wsX6_knows) := goodIn_app (goodIn_of _ (by decide +kernel)) ggL_repairs_X6_knows
theorem dL_repairs_0 : decode cL_repairs 0 = .ok (.aload_n 0, 1) := by decide +kernel
theorem dL_repairs_1 : decode cL_repairs 1 = .ok (.iload_n 1, 1) := by decide +kernel
theorem dL_repairs_2 : decode cL_repairs 2 = .ok (.iconst 1, 1) := by decide +kernel
theorem dL_repairs_3 : decode cL_repairs 3 = .ok (.invokevirtual 9, 3) := by decide +kernel
theorem dL_repairs_6 : decode cL_repairs 6 = .ok (.istore_n 3, 1) := by decide +kernel
theorem dL_repairs_7 : decode cL_repairs 7 = .ok (.aload_n 0, 1) := by decide +kernel
theorem dL_repairs_8 : decode cL_repairs 8 = .ok (.iload_n 1, 1) := by decide +kernel
theorem dL_repairs_9 : decode cL_repairs 9 = .ok (.invokevirtual 35, 3) := by decide +kernel
theorem dL_repairs_12 : decode cL_repairs 12 = .ok (.istore 4, 2) := by decide +kernel
theorem dL_repairs_14 : decode cL_repairs 14 = .ok (.aload_n 0, 1) := by decide +kernel
theorem dL_repairs_15 : decode cL_repairs 15 = .ok (.iload_n 1, 1) := by decide +kernel
theorem dL_repairs_16 : decode cL_repairs 16 = .ok (.iload_n 2, 1) := by decide +kernel
theorem dL_repairs_17 : decode cL_repairs 17 = .ok (.invokevirtual 55, 3) := by decide +kernel
theorem dL_repairs_20 : decode cL_repairs 20 = .ok (.istore 5, 2) := by decide +kernel
theorem dL_repairs_22 : decode cL_repairs 22 = .ok (.iload 5, 2) := by decide +kernel
theorem dL_repairs_24 : decode cL_repairs 24 = .ok (.ifCond .lt 28, 3) := by decide +kernel
theorem dL_repairs_27 : decode cL_repairs 27 = .ok (.aload_n 0, 1) := by decide +kernel
theorem dL_repairs_28 : decode cL_repairs 28 = .ok (.iload_n 1, 1) := by decide +kernel
theorem dL_repairs_29 : decode cL_repairs 29 = .ok (.iconst 1, 1) := by decide +kernel
theorem dL_repairs_30 : decode cL_repairs 30 = .ok (.invokevirtual 9, 3) := by decide +kernel
theorem dL_repairs_33 : decode cL_repairs 33 = .ok (.iload_n 3, 1) := by decide +kernel
theorem dL_repairs_34 : decode cL_repairs 34 = .ok (.iload 5, 2) := by decide +kernel
theorem dL_repairs_36 : decode cL_repairs 36 = .ok (.iadd, 1) := by decide +kernel
theorem dL_repairs_37 : decode cL_repairs 37 = .ok (.if_icmp .ne 15, 3) := by decide +kernel
theorem dL_repairs_40 : decode cL_repairs 40 = .ok (.iload 4, 2) := by decide +kernel
theorem dL_repairs_42 : decode cL_repairs 42 = .ok (.ldc 34, 2) := by decide +kernel
theorem dL_repairs_44 : decode cL_repairs 44 = .ok (.if_icmp .ne 10, 3) := by decide +kernel
theorem dL_repairs_47 : decode cL_repairs 47 = .ok (.iload 5, 2) := by decide +kernel
theorem dL_repairs_49 : decode cL_repairs 49 = .ok (.ifCond .le 5, 3) := by decide +kernel
theorem dL_repairs_52 : decode cL_repairs 52 = .ok (.iconst 0, 1) := by decide +kernel
theorem dL_repairs_53 : decode cL_repairs 53 = .ok (.ireturn, 1) := by decide +kernel
theorem dL_repairs_54 : decode cL_repairs 54 = .ok (.iconst 0, 1) := by decide +kernel
theorem dL_repairs_55 : decode cL_repairs 55 = .ok (.istore 6, 2) := by decide +kernel
theorem dL_repairs_57 : decode cL_repairs 57 = .ok (.iload 6, 2) := by decide +kernel
theorem dL_repairs_59 : decode cL_repairs 59 = .ok (.aload_n 0, 1) := by decide +kernel
theorem dL_repairs_60 : decode cL_repairs 60 = .ok (.invokevirtual 41, 3) := by decide +kernel
theorem dL_repairs_63 : decode cL_repairs 63 = .ok (.if_icmp .ge 90, 3) := by decide +kernel
theorem dL_repairs_66 : decode cL_repairs 66 = .ok (.iconst 0, 1) := by decide +kernel
theorem dL_repairs_67 : decode cL_repairs 67 = .ok (.istore 7, 2) := by decide +kernel
theorem dL_repairs_69 : decode cL_repairs 69 = .ok (.aload_n 0, 1) := by decide +kernel
theorem dL_repairs_70 : decode cL_repairs 70 = .ok (.iload_n 1, 1) := by decide +kernel
theorem dL_repairs_71 : decode cL_repairs 71 = .ok (.iload 6, 2) := by decide +kernel
theorem dL_repairs_73 : decode cL_repairs 73 = .ok (.iload 7, 2) := by decide +kernel
theorem dL_repairs_75 : decode cL_repairs 75 = .ok (.invokevirtual 29, 3) := by decide +kernel
theorem dL_repairs_78 : decode cL_repairs 78 = .ok (.ifCond .lt 69, 3) := by decide +kernel
theorem dL_repairs_81 : decode cL_repairs 81 = .ok (.aload_n 0, 1) := by decide +kernel
theorem dL_repairs_82 : decode cL_repairs 82 = .ok (.iload_n 1, 1) := by decide +kernel
theorem dL_repairs_83 : decode cL_repairs 83 = .ok (.iload 6, 2) := by decide +kernel
theorem dL_repairs_85 : decode cL_repairs 85 = .ok (.iload 7, 2) := by decide +kernel
theorem dL_repairs_87 : decode cL_repairs 87 = .ok (.invokevirtual 29, 3) := by decide +kernel
theorem dL_repairs_90 : decode cL_repairs 90 = .ok (.istore 8, 2) := by decide +kernel
theorem dL_repairs_92 : decode cL_repairs 92 = .ok (.iload 8, 2) := by decide +kernel
theorem dL_repairs_94 : decode cL_repairs 94 = .ok (.bipush 100, 2) := by decide +kernel
theorem dL_repairs_96 : decode cL_repairs 96 = .ok (.idiv, 1) := by decide +kernel
theorem dL_repairs_97 : decode cL_repairs 97 = .ok (.istore 9, 2) := by decide +kernel
theorem dL_repairs_99 : decode cL_repairs 99 = .ok (.iload 9, 2) := by decide +kernel
theorem dL_repairs_101 : decode cL_repairs 101 = .ok (.iload 8, 2) := by decide +kernel
theorem dL_repairs_103 : decode cL_repairs 103 = .ok (.bipush 100, 2) := by decide +kernel
theorem dL_repairs_105 : decode cL_repairs 105 = .ok (.irem, 1) := by decide +kernel
theorem dL_repairs_106 : decode cL_repairs 106 = .ok (.if_icmp .gt 35, 3) := by decide +kernel
theorem dL_repairs_109 : decode cL_repairs 109 = .ok (.aload_n 0, 1) := by decide +kernel
theorem dL_repairs_110 : decode cL_repairs 110 = .ok (.iload_n 1, 1) := by decide +kernel
theorem dL_repairs_111 : decode cL_repairs 111 = .ok (.iload 6, 2) := by decide +kernel
theorem dL_repairs_113 : decode cL_repairs 113 = .ok (.iload 9, 2) := by decide +kernel
theorem dL_repairs_115 : decode cL_repairs 115 = .ok (.invokevirtual 19, 3) := by decide +kernel
theorem dL_repairs_118 : decode cL_repairs 118 = .ok (.ifCond .ne 15, 3) := by decide +kernel
theorem dL_repairs_121 : decode cL_repairs 121 = .ok (.aload_n 0, 1) := by decide +kernel
theorem dL_repairs_122 : decode cL_repairs 122 = .ok (.iload_n 2, 1) := by decide +kernel
theorem dL_repairs_123 : decode cL_repairs 123 = .ok (.iload 6, 2) := by decide +kernel
theorem dL_repairs_125 : decode cL_repairs 125 = .ok (.iload 9, 2) := by decide +kernel
theorem dL_repairs_127 : decode cL_repairs 127 = .ok (.invokevirtual 19, 3) := by decide +kernel
theorem dL_repairs_130 : decode cL_repairs 130 = .ok (.ifCond .eq 5, 3) := by decide +kernel
theorem dL_repairs_133 : decode cL_repairs 133 = .ok (.iconst 0, 1) := by decide +kernel
theorem dL_repairs_134 : decode cL_repairs 134 = .ok (.ireturn, 1) := by decide +kernel
theorem dL_repairs_135 : decode cL_repairs 135 = .ok (.iinc 9 1, 3) := by decide +kernel
theorem dL_repairs_138 : decode cL_repairs 138 = .ok (.goto (-39), 3) := by decide +kernel
theorem dL_repairs_141 : decode cL_repairs 141 = .ok (.iinc 7 1, 3) := by decide +kernel
theorem dL_repairs_144 : decode cL_repairs 144 = .ok (.goto (-75), 3) := by decide +kernel
theorem dL_repairs_147 : decode cL_repairs 147 = .ok (.iinc 6 1, 3) := by decide +kernel
theorem dL_repairs_150 : decode cL_repairs 150 = .ok (.goto (-93), 3) := by decide +kernel
theorem dL_repairs_153 : decode cL_repairs 153 = .ok (.aload_n 0, 1) := by decide +kernel
theorem dL_repairs_154 : decode cL_repairs 154 = .ok (.iload_n 1, 1) := by decide +kernel
theorem dL_repairs_155 : decode cL_repairs 155 = .ok (.iload_n 2, 1) := by decide +kernel
theorem dL_repairs_156 : decode cL_repairs 156 = .ok (.invokevirtual 55, 3) := by decide +kernel
theorem dL_repairs_159 : decode cL_repairs 159 = .ok (.ifCond .ne 7, 3) := by decide +kernel
theorem dL_repairs_162 : decode cL_repairs 162 = .ok (.iconst 1, 1) := by decide +kernel
theorem dL_repairs_163 : decode cL_repairs 163 = .ok (.goto 4, 3) := by decide +kernel
theorem dL_repairs_166 : decode cL_repairs 166 = .ok (.iconst 0, 1) := by decide +kernel
theorem dL_repairs_167 : decode cL_repairs 167 = .ok (.ireturn, 1) := by decide +kernel
set_option maxRecDepth 20000 in
theorem ggL_transfers_X6_sites : GoodIn wsL_transfers wsX6_sites := goodIn_r _ [5, 6, 193, 194, 195, 196, 197, 198, 199, 200, 201] (by decide +kernel) (by decide +kernel)
set_option maxRecDepth 20000 in
theorem gL_transfers_X6_sites : GoodIn wsL_transfers (wsV RL 41 RX6 yX6_sites wsX6_sites) := goodIn_app (goodIn_of _ (by decide +kernel)) ggL_transfers_X6_sites
set_option maxRecDepth 20000 in
theorem ggL_transfers_X6_siteInfo : GoodIn wsL_transfers wsX6_siteInfo := goodIn_r _ [10, 11, 12, 13, 14, 15, 16, 17, 18, 19, 4, 20, 6, 21, 22, 23, 24, 25, 26, 27, 28, 29, 30, 31, 32, 33, 34, 35, 36, 37, 38, 39, 40, 41, 42, 43, 44, 45, 46, 47, 48, 49, 50, 51, 52, 53, 54, 55, 56, 57, 58, 59, 60, 61, 62, 63, 64, 65, 66, 67, 68, 69, 70, 71, 72, 73, 74, 75, 76, 77, 78, 79, 80, 81, 82, 83, 84, 85, 86, 87, 88, 89, 90, 91, 92, 93, 94, 95, 96, 97, 98, 99, 100, 101, 102, 103, 104, 105, 106, 107, 108, 109, 110, 111, 112, 113, 114, 115, 116, 117, 118, 119, 120, 121, 122, 123, 193, 194, 195, 196, 197, 198, 199, 200, 201, 202, 203, 204, 205, 206, 207, 208, 209, 210, 211, 212, 213, 214, 215, 216, 217, 218, 219, 220] (by decide +kernel) (by decide +kernel)
set_option maxRecDepth 20000 in
theorem gL_transfers_X6_siteInfo : GoodIn wsL_transfers (wsV RL 9 RX6 yX6_siteInfo wsX6_siteInfo) := goodIn_app (goodIn_of _ (by decide +kernel)) ggL_transfers_X6_siteInfo
set_option maxRecDepth 20000 in
theorem ggL_transfers_X6_knows : GoodIn wsL_transfers wsX6_knows := goodIn_r _ [127, 11, 14, 128, 13, 17, 18, 19, 4, 20, 6, 21, 22, 23, 41, 42, 43, 44, 45, 46, 47, 25, 26, 27, 28, 29, 129, 130, 131, 132, 36, 37, 33, 38, 39, 40, 193, 194, 195, 196, 197, 198, 199, 200, 201, 204, 205, 206, 207, 208, 209, 210, 211, 202, 203] (by decide +kernel) (by decide +kernel)
set_option maxRecDepth 20000 in
theorem gL_transfers_X6_knows : GoodIn wsL_transfers (wsV RL 19 RX6 yX6_knows wsX6_knows) := goodIn_app (goodIn_of _ (by decide +kernel)) ggL_transfers_X6_knows

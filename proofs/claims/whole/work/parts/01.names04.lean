set_option maxRecDepth 20000 in
theorem gX7_isVisible_X7_of : GoodIn wsX7_isVisible (wsV RX7 58 RX7 yX7_of wsX7_of) := goodIn_app (goodIn_of _ (by decide +kernel)) ggX7_isVisible_X7_of
set_option maxRecDepth 20000 in
theorem ggX7_isVisible_X7_last : GoodIn wsX7_isVisible wsX7_last := goodIn_r _ [15, 1, 2, 3, 4, 5, 6, 7, 8, 9, 10, 11, 16, 17, 18, 19, 20, 21, 22, 23, 24, 25, 26, 27, 28, 29, 30, 31, 32, 33, 34, 35, 36, 37, 38, 39, 40, 41, 42, 43] (by decide +kernel) (by decide +kernel)
set_option maxRecDepth 20000 in
theorem gX7_isVisible_X7_last : GoodIn wsX7_isVisible (wsV RX7 76 RX7 yX7_last wsX7_last) := goodIn_app (goodIn_of _ (by decide +kernel)) ggX7_isVisible_X7_last
theorem dX7_isVisible_0 : decode cX7_isVisible 0 = .ok (.aload_n 0, 1) := by decide +kernel
theorem dX7_isVisible_1 : decode cX7_isVisible 1 = .ok (.iload_n 1, 1) := by decide +kernel
theorem dX7_isVisible_2 : decode cX7_isVisible 2 = .ok (.iload_n 2, 1) := by decide +kernel
theorem dX7_isVisible_3 : decode cX7_isVisible 3 = .ok (.invokevirtual 65, 3) := by decide +kernel
theorem dX7_isVisible_6 : decode cX7_isVisible 6 = .ok (.ifCond .eq 12, 3) := by decide +kernel
theorem dX7_isVisible_9 : decode cX7_isVisible 9 = .ok (.aload_n 0, 1) := by decide +kernel
theorem dX7_isVisible_10 : decode cX7_isVisible 10 = .ok (.iload_n 2, 1) := by decide +kernel
theorem dX7_isVisible_11 : decode cX7_isVisible 11 = .ok (.iconst 0, 1) := by decide +kernel
theorem dX7_isVisible_12 : decode cX7_isVisible 12 = .ok (.invokevirtual 58, 3) := by decide +kernel
theorem dX7_isVisible_15 : decode cX7_isVisible 15 = .ok (.ifCond .eq 5, 3) := by decide +kernel
theorem dX7_isVisible_18 : decode cX7_isVisible 18 = .ok (.iconst 0, 1) := by decide +kernel
theorem dX7_isVisible_19 : decode cX7_isVisible 19 = .ok (.ireturn, 1) := by decide +kernel
theorem dX7_isVisible_20 : decode cX7_isVisible 20 = .ok (.aload_n 0, 1) := by decide +kernel
theorem dX7_isVisible_21 : decode cX7_isVisible 21 = .ok (.iload_n 1, 1) := by decide +kernel
theorem dX7_isVisible_22 : decode cX7_isVisible 22 = .ok (.iload_n 2, 1) := by decide +kernel
theorem dX7_isVisible_23 : decode cX7_isVisible 23 = .ok (.iconst 1, 1) := by decide +kernel
theorem dX7_isVisible_24 : decode cX7_isVisible 24 = .ok (.iconst 2, 1) := by decide +kernel
theorem dX7_isVisible_25 : decode cX7_isVisible 25 = .ok (.invokevirtual 76, 3) := by decide +kernel
theorem dX7_isVisible_28 : decode cX7_isVisible 28 = .ok (.istore_n 3, 1) := by decide +kernel
theorem dX7_isVisible_29 : decode cX7_isVisible 29 = .ok (.iload_n 3, 1) := by decide +kernel
theorem dX7_isVisible_30 : decode cX7_isVisible 30 = .ok (.iconst (-1), 1) := by decide +kernel
theorem dX7_isVisible_31 : decode cX7_isVisible 31 = .ok (.if_icmp .eq 13, 3) := by decide +kernel
theorem dX7_isVisible_34 : decode cX7_isVisible 34 = .ok (.aload_n 0, 1) := by decide +kernel
theorem dX7_isVisible_35 : decode cX7_isVisible 35 = .ok (.iload_n 3, 1) := by decide +kernel
theorem dX7_isVisible_36 : decode cX7_isVisible 36 = .ok (.iconst 0, 1) := by decide +kernel
theorem dX7_isVisible_37 : decode cX7_isVisible 37 = .ok (.invokevirtual 58, 3) := by decide +kernel
theorem dX7_isVisible_40 : decode cX7_isVisible 40 = .ok (.iconst 2, 1) := by decide +kernel
theorem dX7_isVisible_41 : decode cX7_isVisible 41 = .ok (.if_icmp .ne 7, 3) := by decide +kernel
theorem dX7_isVisible_44 : decode cX7_isVisible 44 = .ok (.iconst 1, 1) := by decide +kernel
theorem dX7_isVisible_45 : decode cX7_isVisible 45 = .ok (.goto 4, 3) := by decide +kernel
theorem dX7_isVisible_48 : decode cX7_isVisible 48 = .ok (.iconst 0, 1) := by decide +kernel
theorem dX7_isVisible_49 : decode cX7_isVisible 49 = .ok (.ireturn, 1) := by decide +kernel
set_option maxRecDepth 20000 in
theorem ggX7_layerFor_X7_last : GoodIn wsX7_layerFor wsX7_last := goodIn_r _ [5, 6, 7, 8, 4, 9, 10, 11, 12, 13, 14, 15, 16, 17, 18, 19, 20, 21, 22, 23, 24, 25, 26, 27, 28, 29, 30, 31, 32, 33, 34, 35, 36, 37, 38, 39, 40, 41, 42, 43] (by decide +kernel) (by decide +kernel)
set_option maxRecDepth 20000 in
theorem gX7_layerFor_X7_last : GoodIn wsX7_layerFor (wsV RX7 76 RX7 yX7_last wsX7_last) := goodIn_app (goodIn_of _ (by decide +kernel)) ggX7_layerFor_X7_last
set_option maxRecDepth 20000 in
theorem ggX7_layerFor_X7_of : GoodIn wsX7_layerFor wsX7_of := goodIn_r _ [14, 15, 30, 31, 32, 33, 34, 35, 36, 37, 38, 39, 40, 41, 42, 43] (by decide +kernel) (by decide +kernel)
set_option maxRecDepth 20000 in
theorem gX7_layerFor_X7_of : GoodIn wsX7_layerFor (wsV RX7 58 RX7 yX7_of wsX7_of) := goodIn_app (goodIn_of _ (by decide +kernel)) ggX7_layerFor_X7_of
theorem dX7_layerFor_0 : decode cX7_layerFor 0 = .ok (.aload_n 0, 1) := by decide +kernel
theorem dX7_layerFor_1 : decode cX7_layerFor 1 = .ok (.iload_n 1, 1) := by decide +kernel
theorem dX7_layerFor_2 : decode cX7_layerFor 2 = .ok (.iload_n 2, 1) := by decide +kernel
theorem dX7_layerFor_3 : decode cX7_layerFor 3 = .ok (.iconst 3, 1) := by decide +kernel
theorem dX7_layerFor_4 : decode cX7_layerFor 4 = .ok (.iconst 3, 1) := by decide +kernel
theorem dX7_layerFor_5 : decode cX7_layerFor 5 = .ok (.invokevirtual 76, 3) := by decide +kernel
theorem dX7_layerFor_8 : decode cX7_layerFor 8 = .ok (.istore_n 3, 1) := by decide +kernel
theorem dX7_layerFor_9 : decode cX7_layerFor 9 = .ok (.aload_n 0, 1) := by decide +kernel
theorem dX7_layerFor_10 : decode cX7_layerFor 10 = .ok (.iload_n 3, 1) := by decide +kernel
theorem dX7_layerFor_11 : decode cX7_layerFor 11 = .ok (.iconst (-1), 1) := by decide +kernel
theorem dX7_layerFor_12 : decode cX7_layerFor 12 = .ok (.if_icmp .ne 7, 3) := by decide +kernel
theorem dX7_layerFor_15 : decode cX7_layerFor 15 = .ok (.iload_n 2, 1) := by decide +kernel
theorem dX7_layerFor_16 : decode cX7_layerFor 16 = .ok (.goto 4, 3) := by decide +kernel
theorem dX7_layerFor_19 : decode cX7_layerFor 19 = .ok (.iload_n 3, 1) := by decide +kernel
theorem dX7_layerFor_20 : decode cX7_layerFor 20 = .ok (.iconst 3, 1) := by decide +kernel
theorem dX7_layerFor_21 : decode cX7_layerFor 21 = .ok (.invokevirtual 58, 3) := by decide +kernel
theorem dX7_layerFor_24 : decode cX7_layerFor 24 = .ok (.ireturn, 1) := by decide +kernel
set_option maxRecDepth 20000 in
theorem ggX7_workOut_X7_isVisible : GoodIn wsX7_workOut wsX7_isVisible := goodIn_r _ [8, 9, 10, 11, 7, 12, 13, 14, 15, 16, 17, 18, 19, 20, 21, 22, 23, 24, 25, 26, 27, 28, 29, 30, 31, 32, 33, 34, 35, 36, 41, 42, 43, 44, 45, 46, 47, 48, 49, 50, 51, 52, 53, 54] (by decide +kernel) (by decide +kernel)
set_option maxRecDepth 20000 in
theorem gX7_workOut_X7_isVisible : GoodIn wsX7_workOut (wsV RX7 83 RX7 yX7_isVisible wsX7_isVisible) := goodIn_app (goodIn_of _ (by decide +kernel)) ggX7_workOut_X7_isVisible
set_option maxRecDepth 20000 in
theorem ggX7_workOut_X7_layerFor : GoodIn wsX7_workOut wsX7_layerFor := goodIn_r _ [40, 19, 20, 21, 7, 22, 9, 10, 11, 12, 13, 14, 15, 16, 17, 18, 23, 24, 25, 26, 27, 28, 29, 30, 31, 32, 33, 34, 35, 36, 41, 42, 43, 44, 45, 46, 47, 48, 49, 50, 51, 52, 53, 54] (by decide +kernel) (by decide +kernel)
set_option maxRecDepth 20000 in
theorem gX7_workOut_X7_layerFor : GoodIn wsX7_workOut (wsV RX7 86 RX7 yX7_layerFor wsX7_layerFor) := goodIn_app (goodIn_of _ (by decide +kernel)) ggX7_workOut_X7_layerFor
set_option maxRecDepth 20000 in
theorem ggX7_workOut_X7_isAfter : GoodIn wsX7_workOut wsX7_isAfter := goodIn_r _ [36, 14, 15, 16, 7, 17, 18, 41, 42, 43, 44, 45, 46, 47, 48, 49, 50, 51, 52, 53, 54] (by decide +kernel) (by decide +kernel)
set_option maxRecDepth 20000 in
theorem gX7_workOut_X7_isAfter : GoodIn wsX7_workOut (wsV RX7 73 RX7 yX7_isAfter wsX7_isAfter) := goodIn_app (goodIn_of _ (by decide +kernel)) ggX7_workOut_X7_isAfter
theorem dX7_workOut_0 : decode cX7_workOut 0 = .ok (.aload_n 0, 1) := by decide +kernel
theorem dX7_workOut_1 : decode cX7_workOut 1 = .ok (.iconst 0, 1) := by decide +kernel
theorem dX7_workOut_2 : decode cX7_workOut 2 = .ok (.putfield 80, 3) := by decide +kernel
theorem dX7_workOut_5 : decode cX7_workOut 5 = .ok (.iconst 0, 1) := by decide +kernel
theorem dX7_workOut_6 : decode cX7_workOut 6 = .ok (.istore_n 2, 1) := by decide +kernel
theorem dX7_workOut_7 : decode cX7_workOut 7 = .ok (.iload_n 2, 1) := by decide +kernel
theorem dX7_workOut_8 : decode cX7_workOut 8 = .ok (.bipush 100, 2) := by decide +kernel
theorem dX7_workOut_10 : decode cX7_workOut 10 = .ok (.if_icmp .ge 143, 3) := by decide +kernel
theorem dX7_workOut_13 : decode cX7_workOut 13 = .ok (.aload_n 0, 1) := by decide +kernel
theorem dX7_workOut_14 : decode cX7_workOut 14 = .ok (.iload_n 1, 1) := by decide +kernel
theorem dX7_workOut_15 : decode cX7_workOut 15 = .ok (.iload_n 2, 1) := by decide +kernel
theorem dX7_workOut_16 : decode cX7_workOut 16 = .ok (.invokevirtual 83, 3) := by decide +kernel
theorem dX7_workOut_19 : decode cX7_workOut 19 = .ok (.ifCond .eq 128, 3) := by decide +kernel
theorem dX7_workOut_22 : decode cX7_workOut 22 = .ok (.aload_n 0, 1) := by decide +kernel
theorem dX7_workOut_23 : decode cX7_workOut 23 = .ok (.iload_n 1, 1) := by decide +kernel
theorem dX7_workOut_24 : decode cX7_workOut 24 = .ok (.iload_n 2, 1) := by decide +kernel
theorem dX7_workOut_25 : decode cX7_workOut 25 = .ok (.invokevirtual 86, 3) := by decide +kernel
theorem dX7_workOut_28 : decode cX7_workOut 28 = .ok (.istore_n 3, 1) := by decide +kernel
theorem dX7_workOut_29 : decode cX7_workOut 29 = .ok (.aload_n 0, 1) := by decide +kernel
theorem dX7_workOut_30 : decode cX7_workOut 30 = .ok (.getfield 80, 3) := by decide +kernel
theorem dX7_workOut_33 : decode cX7_workOut 33 = .ok (.istore 4, 2) := by decide +kernel
theorem dX7_workOut_35 : decode cX7_workOut 35 = .ok (.iload 4, 2) := by decide +kernel
theorem dX7_workOut_37 : decode cX7_workOut 37 = .ok (.ifCond .le 84, 3) := by decide +kernel
theorem dX7_workOut_40 : decode cX7_workOut 40 = .ok (.aload_n 0, 1) := by decide +kernel
theorem dX7_workOut_41 : decode cX7_workOut 41 = .ok (.getfield 38, 3) := by decide +kernel
theorem dX7_workOut_44 : decode cX7_workOut 44 = .ok (.iload 4, 2) := by decide +kernel
theorem dX7_workOut_46 : decode cX7_workOut 46 = .ok (.iconst 1, 1) := by decide +kernel
theorem dX7_workOut_47 : decode cX7_workOut 47 = .ok (.isub, 1) := by decide +kernel
theorem dX7_workOut_48 : decode cX7_workOut 48 = .ok (.iaload, 1) := by decide +kernel
theorem dX7_workOut_49 : decode cX7_workOut 49 = .ok (.iload_n 3, 1) := by decide +kernel
theorem dX7_workOut_50 : decode cX7_workOut 50 = .ok (.if_icmp .gt 33, 3) := by decide +kernel
theorem dX7_workOut_53 : decode cX7_workOut 53 = .ok (.aload_n 0, 1) := by decide +kernel
theorem dX7_workOut_54 : decode cX7_workOut 54 = .ok (.getfield 38, 3) := by decide +kernel
theorem dX7_workOut_57 : decode cX7_workOut 57 = .ok (.iload 4, 2) := by decide +kernel
theorem dX7_workOut_59 : decode cX7_workOut 59 = .ok (.iconst 1, 1) := by decide +kernel
theorem dX7_workOut_60 : decode cX7_workOut 60 = .ok (.isub, 1) := by decide +kernel
theorem dX7_workOut_61 : decode cX7_workOut 61 = .ok (.iaload, 1) := by decide +kernel
theorem dX7_workOut_62 : decode cX7_workOut 62 = .ok (.iload_n 3, 1) := by decide +kernel
theorem dX7_workOut_63 : decode cX7_workOut 63 = .ok (.if_icmp .ne 58, 3) := by decide +kernel
theorem dX7_workOut_66 : decode cX7_workOut 66 = .ok (.aload_n 0, 1) := by decide +kernel
theorem dX7_workOut_67 : decode cX7_workOut 67 = .ok (.aload_n 0, 1) := by decide +kernel
theorem dX7_workOut_68 : decode cX7_workOut 68 = .ok (.getfield 35, 3) := by decide +kernel
theorem dX7_workOut_71 : decode cX7_workOut 71 = .ok (.iload 4, 2) := by decide +kernel
theorem dX7_workOut_73 : decode cX7_workOut 73 = .ok (.iconst 1, 1) := by decide +kernel
theorem dX7_workOut_74 : decode cX7_workOut 74 = .ok (.isub, 1) := by decide +kernel
theorem dX7_workOut_75 : decode cX7_workOut 75 = .ok (.iaload, 1) := by decide +kernel
theorem dX7_workOut_76 : decode cX7_workOut 76 = .ok (.iload_n 2, 1) := by decide +kernel
theorem dX7_workOut_77 : decode cX7_workOut 77 = .ok (.invokevirtual 73, 3) := by decide +kernel
theorem dX7_workOut_80 : decode cX7_workOut 80 = .ok (.ifCond .eq 41, 3) := by decide +kernel
theorem dX7_workOut_83 : decode cX7_workOut 83 = .ok (.aload_n 0, 1) := by decide +kernel
theorem dX7_workOut_84 : decode cX7_workOut 84 = .ok (.getfield 35, 3) := by decide +kernel
theorem dX7_workOut_87 : decode cX7_workOut 87 = .ok (.iload 4, 2) := by decide +kernel
theorem dX7_workOut_89 : decode cX7_workOut 89 = .ok (.aload_n 0, 1) := by decide +kernel
theorem dX7_workOut_90 : decode cX7_workOut 90 = .ok (.getfield 35, 3) := by decide +kernel
theorem dX7_workOut_93 : decode cX7_workOut 93 = .ok (.iload 4, 2) := by decide +kernel
theorem dX7_workOut_95 : decode cX7_workOut 95 = .ok (.iconst 1, 1) := by decide +kernel
theorem dX7_workOut_96 : decode cX7_workOut 96 = .ok (.isub, 1) := by decide +kernel
theorem dX7_workOut_97 : decode cX7_workOut 97 = .ok (.iaload, 1) := by decide +kernel
theorem dX7_workOut_98 : decode cX7_workOut 98 = .ok (.iastore, 1) := by decide +kernel
theorem dX7_workOut_99 : decode cX7_workOut 99 = .ok (.aload_n 0, 1) := by decide +kernel
theorem dX7_workOut_100 : decode cX7_workOut 100 = .ok (.getfield 38, 3) := by decide +kernel
theorem dX7_workOut_103 : decode cX7_workOut 103 = .ok (.iload 4, 2) := by decide +kernel
theorem dX7_workOut_105 : decode cX7_workOut 105 = .ok (.aload_n 0, 1) := by decide +kernel
theorem dX7_workOut_106 : decode cX7_workOut 106 = .ok (.getfield 38, 3) := by decide +kernel
theorem dX7_workOut_109 : decode cX7_workOut 109 = .ok (.iload 4, 2) := by decide +kernel
theorem dX7_workOut_111 : decode cX7_workOut 111 = .ok (.iconst 1, 1) := by decide +kernel
theorem dX7_workOut_112 : decode cX7_workOut 112 = .ok (.isub, 1) := by decide +kernel
theorem dX7_workOut_113 : decode cX7_workOut 113 = .ok (.iaload, 1) := by decide +kernel
theorem dX7_workOut_114 : decode cX7_workOut 114 = .ok (.iastore, 1) := by decide +kernel
theorem dX7_workOut_115 : decode cX7_workOut 115 = .ok (.iinc 4 (-1), 3) := by decide +kernel
theorem dX7_workOut_118 : decode cX7_workOut 118 = .ok (.goto (-83), 3) := by decide +kernel
theorem dX7_workOut_121 : decode cX7_workOut 121 = .ok (.aload_n 0, 1) := by decide +kernel
theorem dX7_workOut_122 : decode cX7_workOut 122 = .ok (.getfield 35, 3) := by decide +kernel
theorem dX7_workOut_125 : decode cX7_workOut 125 = .ok (.iload 4, 2) := by decide +kernel
theorem dX7_workOut_127 : decode cX7_workOut 127 = .ok (.iload_n 2, 1) := by decide +kernel
theorem dX7_workOut_128 : decode cX7_workOut 128 = .ok (.iastore, 1) := by decide +kernel
theorem dX7_workOut_129 : decode cX7_workOut 129 = .ok (.aload_n 0, 1) := by decide +kernel
theorem dX7_workOut_130 : decode cX7_workOut 130 = .ok (.getfield 38, 3) := by decide +kernel
theorem dX7_workOut_133 : decode cX7_workOut 133 = .ok (.iload 4, 2) := by decide +kernel
theorem dX7_workOut_135 : decode cX7_workOut 135 = .ok (.iload_n 3, 1) := by decide +kernel
theorem dX7_workOut_136 : decode cX7_workOut 136 = .ok (.iastore, 1) := by decide +kernel
theorem dX7_workOut_137 : decode cX7_workOut 137 = .ok (.aload_n 0, 1) := by decide +kernel
theorem dX7_workOut_138 : decode cX7_workOut 138 = .ok (.dup, 1) := by decide +kernel
theorem dX7_workOut_139 : decode cX7_workOut 139 = .ok (.getfield 80, 3) := by decide +kernel
theorem dX7_workOut_142 : decode cX7_workOut 142 = .ok (.iconst 1, 1) := by decide +kernel
theorem dX7_workOut_143 : decode cX7_workOut 143 = .ok (.iadd, 1) := by decide +kernel
theorem dX7_workOut_144 : decode cX7_workOut 144 = .ok (.putfield 80, 3) := by decide +kernel
theorem dX7_workOut_147 : decode cX7_workOut 147 = .ok (.iinc 2 1, 3) := by decide +kernel
theorem dX7_workOut_150 : decode cX7_workOut 150 = .ok (.goto (-143), 3) := by decide +kernel
theorem dX7_workOut_153 : decode cX7_workOut 153 = .ok (.return_, 1) := by decide +kernel
theorem dX7_clearSite_0 : decode cX7_clearSite 0 = .ok (.aload_n 0, 1) := by decide +kernel
theorem dX7_clearSite_1 : decode cX7_clearSite 1 = .ok (.getfield 17, 3) := by decide +kernel
theorem dX7_clearSite_4 : decode cX7_clearSite 4 = .ok (.iload_n 1, 1) := by decide +kernel
theorem dX7_clearSite_5 : decode cX7_clearSite 5 = .ok (.iconst 0, 1) := by decide +kernel
theorem dX7_clearSite_6 : decode cX7_clearSite 6 = .ok (.iastore, 1) := by decide +kernel
theorem dX7_clearSite_7 : decode cX7_clearSite 7 = .ok (.aload_n 0, 1) := by decide +kernel
theorem dX7_clearSite_8 : decode cX7_clearSite 8 = .ok (.getfield 20, 3) := by decide +kernel
theorem dX7_clearSite_11 : decode cX7_clearSite 11 = .ok (.iload_n 1, 1) := by decide +kernel
theorem dX7_clearSite_12 : decode cX7_clearSite 12 = .ok (.iconst 0, 1) := by decide +kernel
theorem dX7_clearSite_13 : decode cX7_clearSite 13 = .ok (.iastore, 1) := by decide +kernel
theorem dX7_clearSite_14 : decode cX7_clearSite 14 = .ok (.aload_n 0, 1) := by decide +kernel
theorem dX7_clearSite_15 : decode cX7_clearSite 15 = .ok (.getfield 26, 3) := by decide +kernel
theorem dX7_clearSite_18 : decode cX7_clearSite 18 = .ok (.bipush 19, 2) := by decide +kernel
theorem dX7_clearSite_20 : decode cX7_clearSite 20 = .ok (.iload_n 1, 1) := by decide +kernel
theorem dX7_clearSite_21 : decode cX7_clearSite 21 = .ok (.imul, 1) := by decide +kernel
theorem dX7_clearSite_22 : decode cX7_clearSite 22 = .ok (.iconst 0, 1) := by decide +kernel
theorem dX7_clearSite_23 : decode cX7_clearSite 23 = .ok (.iastore, 1) := by decide +kernel
theorem dX7_clearSite_24 : decode cX7_clearSite 24 = .ok (.iconst 0, 1) := by decide +kernel
theorem dX7_clearSite_25 : decode cX7_clearSite 25 = .ok (.istore_n 2, 1) := by decide +kernel
theorem dX7_clearSite_26 : decode cX7_clearSite 26 = .ok (.iload_n 2, 1) := by decide +kernel
theorem dX7_clearSite_27 : decode cX7_clearSite 27 = .ok (.bipush 100, 2) := by decide +kernel
theorem dX7_clearSite_29 : decode cX7_clearSite 29 = .ok (.if_icmp .ge 21, 3) := by decide +kernel
theorem dX7_clearSite_32 : decode cX7_clearSite 32 = .ok (.aload_n 0, 1) := by decide +kernel
theorem dX7_clearSite_33 : decode cX7_clearSite 33 = .ok (.getfield 23, 3) := by decide +kernel
theorem dX7_clearSite_36 : decode cX7_clearSite 36 = .ok (.bipush 100, 2) := by decide +kernel
theorem dX7_clearSite_38 : decode cX7_clearSite 38 = .ok (.iload_n 1, 1) := by decide +kernel
theorem dX7_clearSite_39 : decode cX7_clearSite 39 = .ok (.imul, 1) := by decide +kernel
theorem dX7_clearSite_40 : decode cX7_clearSite 40 = .ok (.iload_n 2, 1) := by decide +kernel
theorem dX7_clearSite_41 : decode cX7_clearSite 41 = .ok (.iadd, 1) := by decide +kernel
theorem dX7_clearSite_42 : decode cX7_clearSite 42 = .ok (.iconst 0, 1) := by decide +kernel
theorem dX7_clearSite_43 : decode cX7_clearSite 43 = .ok (.iastore, 1) := by decide +kernel
theorem dX7_clearSite_44 : decode cX7_clearSite 44 = .ok (.iinc 2 1, 3) := by decide +kernel
theorem dX7_clearSite_47 : decode cX7_clearSite 47 = .ok (.goto (-21), 3) := by decide +kernel
theorem dX7_clearSite_50 : decode cX7_clearSite 50 = .ok (.iconst 0, 1) := by decide +kernel
theorem dX7_clearSite_51 : decode cX7_clearSite 51 = .ok (.istore_n 2, 1) := by decide +kernel
theorem dX7_clearSite_52 : decode cX7_clearSite 52 = .ok (.iload_n 2, 1) := by decide +kernel
theorem dX7_clearSite_53 : decode cX7_clearSite 53 = .ok (.iconst 5, 1) := by decide +kernel
theorem dX7_clearSite_54 : decode cX7_clearSite 54 = .ok (.if_icmp .ge 31, 3) := by decide +kernel
theorem dX7_clearSite_57 : decode cX7_clearSite 57 = .ok (.aload_n 0, 1) := by decide +kernel
theorem dX7_clearSite_58 : decode cX7_clearSite 58 = .ok (.getfield 32, 3) := by decide +kernel
theorem dX7_clearSite_61 : decode cX7_clearSite 61 = .ok (.iconst 5, 1) := by decide +kernel
theorem dX7_clearSite_62 : decode cX7_clearSite 62 = .ok (.iload_n 1, 1) := by decide +kernel
theorem dX7_clearSite_63 : decode cX7_clearSite 63 = .ok (.imul, 1) := by decide +kernel
theorem dX7_clearSite_64 : decode cX7_clearSite 64 = .ok (.iload_n 2, 1) := by decide +kernel
theorem dX7_clearSite_65 : decode cX7_clearSite 65 = .ok (.iadd, 1) := by decide +kernel
theorem dX7_clearSite_66 : decode cX7_clearSite 66 = .ok (.iconst 0, 1) := by decide +kernel
theorem dX7_clearSite_67 : decode cX7_clearSite 67 = .ok (.iastore, 1) := by decide +kernel
theorem dX7_clearSite_68 : decode cX7_clearSite 68 = .ok (.aload_n 0, 1) := by decide +kernel
theorem dX7_clearSite_69 : decode cX7_clearSite 69 = .ok (.getfield 32, 3) := by decide +kernel
theorem dX7_clearSite_72 : decode cX7_clearSite 72 = .ok (.iconst 5, 1) := by decide +kernel
theorem dX7_clearSite_73 : decode cX7_clearSite 73 = .ok (.iload_n 2, 1) := by decide +kernel
theorem dX7_clearSite_74 : decode cX7_clearSite 74 = .ok (.imul, 1) := by decide +kernel
theorem dX7_clearSite_75 : decode cX7_clearSite 75 = .ok (.iload_n 1, 1) := by decide +kernel
theorem dX7_clearSite_76 : decode cX7_clearSite 76 = .ok (.iadd, 1) := by decide +kernel
theorem dX7_clearSite_77 : decode cX7_clearSite 77 = .ok (.iconst 0, 1) := by decide +kernel
theorem dX7_clearSite_78 : decode cX7_clearSite 78 = .ok (.iastore, 1) := by decide +kernel
theorem dX7_clearSite_79 : decode cX7_clearSite 79 = .ok (.iinc 2 1, 3) := by decide +kernel
theorem dX7_clearSite_82 : decode cX7_clearSite 82 = .ok (.goto (-30), 3) := by decide +kernel
theorem dX7_clearSite_85 : decode cX7_clearSite 85 = .ok (.return_, 1) := by decide +kernel
set_option maxRecDepth 20000 in
theorem ggX7_reset_X7_in : GoodIn wsX7_reset wsX7_in := goodIn_r _ [6] (by decide +kernel) (by decide +kernel)
set_option maxRecDepth 20000 in
theorem gX7_reset_X7_in : GoodIn wsX7_reset (va_wsS RX7 50 yX7_in wsX7_in) := goodIn_app (goodIn_of _ (by decide +kernel)) ggX7_reset_X7_in
set_option maxRecDepth 20000 in
theorem ggX7_reset_X7_clearSite : GoodIn wsX7_reset wsX7_clearSite := goodIn_r _ [10, 11, 12, 13, 14, 15, 16, 17, 18, 19, 20, 21, 22, 23, 24, 25, 26, 27, 28, 29] (by decide +kernel) (by decide +kernel)
set_option maxRecDepth 20000 in
theorem gX7_reset_X7_clearSite : GoodIn wsX7_reset (wsV RX7 90 RX7 yX7_clearSite wsX7_clearSite) := goodIn_app (goodIn_of _ (by decide +kernel)) ggX7_reset_X7_clearSite
theorem dX7_reset_0 : decode cX7_reset 0 = .ok (.iload_n 1, 1) := by decide +kernel
theorem dX7_reset_1 : decode cX7_reset 1 = .ok (.iconst 1, 1) := by decide +kernel
theorem dX7_reset_2 : decode cX7_reset 2 = .ok (.iconst 5, 1) := by decide +kernel
theorem dX7_reset_3 : decode cX7_reset 3 = .ok (.invokestatic 50, 3) := by decide +kernel
theorem dX7_reset_6 : decode cX7_reset 6 = .ok (.ifCond .ne 6, 3) := by decide +kernel
theorem dX7_reset_9 : decode cX7_reset 9 = .ok (.ldc 89, 2) := by decide +kernel
theorem dX7_reset_11 : decode cX7_reset 11 = .ok (.ireturn, 1) := by decide +kernel
theorem dX7_reset_12 : decode cX7_reset 12 = .ok (.aload_n 0, 1) := by decide +kernel
theorem dX7_reset_13 : decode cX7_reset 13 = .ok (.getfield 7, 3) := by decide +kernel
theorem dX7_reset_16 : decode cX7_reset 16 = .ok (.istore_n 2, 1) := by decide +kernel
theorem dX7_reset_17 : decode cX7_reset 17 = .ok (.aload_n 0, 1) := by decide +kernel
theorem dX7_reset_18 : decode cX7_reset 18 = .ok (.iload_n 1, 1) := by decide +kernel
theorem dX7_reset_19 : decode cX7_reset 19 = .ok (.putfield 7, 3) := by decide +kernel
theorem dX7_reset_22 : decode cX7_reset 22 = .ok (.iconst 0, 1) := by decide +kernel
theorem dX7_reset_23 : decode cX7_reset 23 = .ok (.istore_n 3, 1) := by decide +kernel
theorem dX7_reset_24 : decode cX7_reset 24 = .ok (.iload_n 3, 1) := by decide +kernel
theorem dX7_reset_25 : decode cX7_reset 25 = .ok (.iconst 5, 1) := by decide +kernel
theorem dX7_reset_26 : decode cX7_reset 26 = .ok (.if_icmp .ge 14, 3) := by decide +kernel
theorem dX7_reset_29 : decode cX7_reset 29 = .ok (.aload_n 0, 1) := by decide +kernel
theorem dX7_reset_30 : decode cX7_reset 30 = .ok (.iload_n 3, 1) := by decide +kernel
theorem dX7_reset_31 : decode cX7_reset 31 = .ok (.invokevirtual 90, 3) := by decide +kernel
theorem dX7_reset_34 : decode cX7_reset 34 = .ok (.iinc 3 1, 3) := by decide +kernel
theorem dX7_reset_37 : decode cX7_reset 37 = .ok (.goto (-13), 3) := by decide +kernel
theorem dX7_reset_40 : decode cX7_reset 40 = .ok (.iload_n 2, 1) := by decide +kernel
theorem dX7_reset_41 : decode cX7_reset 41 = .ok (.ireturn, 1) := by decide +kernel
set_option maxRecDepth 20000 in
theorem ggX7_join_X7_clearSite : GoodIn wsX7_join wsX7_clearSite := goodIn_r _ [7, 8, 9, 10, 11, 12, 13, 14, 15, 16, 17, 18, 19, 20, 21, 22, 23, 24, 25, 26] (by decide +kernel) (by decide +kernel)
set_option maxRecDepth 20000 in
theorem gX7_join_X7_clearSite : GoodIn wsX7_join (wsV RX7 90 RX7 yX7_clearSite wsX7_clearSite) := goodIn_app (goodIn_of _ (by decide +kernel)) ggX7_join_X7_clearSite
theorem dX7_join_0 : decode cX7_join 0 = .ok (.aload_n 0, 1) := by decide +kernel
theorem dX7_join_1 : decode cX7_join 1 = .ok (.getfield 7, 3) := by decide +kernel
theorem dX7_join_4 : decode cX7_join 4 = .ok (.iconst 5, 1) := by decide +kernel
theorem dX7_join_5 : decode cX7_join 5 = .ok (.if_icmp .ne 6, 3) := by decide +kernel
theorem dX7_join_8 : decode cX7_join 8 = .ok (.ldc 94, 2) := by decide +kernel
theorem dX7_join_10 : decode cX7_join 10 = .ok (.ireturn, 1) := by decide +kernel
theorem dX7_join_11 : decode cX7_join 11 = .ok (.aload_n 0, 1) := by decide +kernel
theorem dX7_join_12 : decode cX7_join 12 = .ok (.aload_n 0, 1) := by decide +kernel
theorem dX7_join_13 : decode cX7_join 13 = .ok (.getfield 7, 3) := by decide +kernel
theorem dX7_join_16 : decode cX7_join 16 = .ok (.invokevirtual 90, 3) := by decide +kernel
theorem dX7_join_19 : decode cX7_join 19 = .ok (.aload_n 0, 1) := by decide +kernel
theorem dX7_join_20 : decode cX7_join 20 = .ok (.dup, 1) := by decide +kernel
theorem dX7_join_21 : decode cX7_join 21 = .ok (.getfield 7, 3) := by decide +kernel
theorem dX7_join_24 : decode cX7_join 24 = .ok (.iconst 1, 1) := by decide +kernel
theorem dX7_join_25 : decode cX7_join 25 = .ok (.iadd, 1) := by decide +kernel
theorem dX7_join_26 : decode cX7_join 26 = .ok (.putfield 7, 3) := by decide +kernel
theorem dX7_join_29 : decode cX7_join 29 = .ok (.aload_n 0, 1) := by decide +kernel
theorem dX7_join_30 : decode cX7_join 30 = .ok (.getfield 7, 3) := by decide +kernel
theorem dX7_join_33 : decode cX7_join 33 = .ok (.iconst 1, 1) := by decide +kernel
theorem dX7_join_34 : decode cX7_join 34 = .ok (.isub, 1) := by decide +kernel
theorem dX7_join_35 : decode cX7_join 35 = .ok (.ireturn, 1) := by decide +kernel
theorem dX7_sites_0 : decode cX7_sites 0 = .ok (.aload_n 0, 1) := by decide +kernel
theorem dX7_sites_1 : decode cX7_sites 1 = .ok (.getfield 7, 3) := by decide +kernel
theorem dX7_sites_4 : decode cX7_sites 4 = .ok (.ireturn, 1) := by decide +kernel
theorem dX7_knownMany_0 : decode cX7_knownMany 0 = .ok (.iconst 0, 1) := by decide +kernel
theorem dX7_knownMany_1 : decode cX7_knownMany 1 = .ok (.istore_n 2, 1) := by decide +kernel
theorem dX7_knownMany_2 : decode cX7_knownMany 2 = .ok (.iconst 0, 1) := by decide +kernel
theorem dX7_knownMany_3 : decode cX7_knownMany 3 = .ok (.istore_n 3, 1) := by decide +kernel
theorem dX7_knownMany_4 : decode cX7_knownMany 4 = .ok (.iload_n 3, 1) := by decide +kernel
theorem dX7_knownMany_5 : decode cX7_knownMany 5 = .ok (.bipush 100, 2) := by decide +kernel
theorem dX7_knownMany_7 : decode cX7_knownMany 7 = .ok (.if_icmp .ge 23, 3) := by decide +kernel
theorem dX7_knownMany_10 : decode cX7_knownMany 10 = .ok (.iload_n 2, 1) := by decide +kernel
theorem dX7_knownMany_11 : decode cX7_knownMany 11 = .ok (.aload_n 0, 1) := by decide +kernel
theorem dX7_knownMany_12 : decode cX7_knownMany 12 = .ok (.getfield 23, 3) := by decide +kernel
theorem dX7_knownMany_15 : decode cX7_knownMany 15 = .ok (.bipush 100, 2) := by decide +kernel
theorem dX7_knownMany_17 : decode cX7_knownMany 17 = .ok (.iload_n 1, 1) := by decide +kernel
theorem dX7_knownMany_18 : decode cX7_knownMany 18 = .ok (.imul, 1) := by decide +kernel
theorem dX7_knownMany_19 : decode cX7_knownMany 19 = .ok (.iload_n 3, 1) := by decide +kernel
theorem dX7_knownMany_20 : decode cX7_knownMany 20 = .ok (.iadd, 1) := by decide +kernel
theorem dX7_knownMany_21 : decode cX7_knownMany 21 = .ok (.iaload, 1) := by decide +kernel
theorem dX7_knownMany_22 : decode cX7_knownMany 22 = .ok (.iadd, 1) := by decide +kernel
theorem dX7_knownMany_23 : decode cX7_knownMany 23 = .ok (.istore_n 2, 1) := by decide +kernel
theorem dX7_knownMany_24 : decode cX7_knownMany 24 = .ok (.iinc 3 1, 3) := by decide +kernel
theorem dX7_knownMany_27 : decode cX7_knownMany 27 = .ok (.goto (-23), 3) := by decide +kernel
theorem dX7_knownMany_30 : decode cX7_knownMany 30 = .ok (.iload_n 2, 1) := by decide +kernel
theorem dX7_knownMany_31 : decode cX7_knownMany 31 = .ok (.ireturn, 1) := by decide +kernel
set_option maxRecDepth 20000 in
theorem ggX7_siteInfo_X7_isSite : GoodIn wsX7_siteInfo wsX7_isSite := goodIn_r _ [10, 11, 12, 13, 9, 14, 58, 59, 60, 61, 62, 63, 64, 65, 66, 67, 68, 69, 70, 71] (by decide +kernel) (by decide +kernel)
set_option maxRecDepth 20000 in
theorem gX7_siteInfo_X7_isSite : GoodIn wsX7_siteInfo (wsV RX7 54 RX7 yX7_isSite wsX7_isSite) := goodIn_app (goodIn_of _ (by decide +kernel)) ggX7_siteInfo_X7_isSite
set_option maxRecDepth 20000 in
theorem ggX7_siteInfo_X7_in : GoodIn wsX7_siteInfo wsX7_in := goodIn_r _ [14] (by decide +kernel) (by decide +kernel)
set_option maxRecDepth 20000 in
theorem gX7_siteInfo_X7_in : GoodIn wsX7_siteInfo (va_wsS RX7 50 yX7_in wsX7_in) := goodIn_app (goodIn_of _ (by decide +kernel)) ggX7_siteInfo_X7_in
set_option maxRecDepth 20000 in
theorem ggX7_siteInfo_X7_knownMany : GoodIn wsX7_siteInfo wsX7_knownMany := goodIn_r _ [18, 19, 58, 59, 60, 61, 62, 63, 64, 65, 66, 67, 68, 69, 70, 71] (by decide +kernel) (by decide +kernel)
set_option maxRecDepth 20000 in
theorem gX7_siteInfo_X7_knownMany : GoodIn wsX7_siteInfo (wsV RX7 95 RX7 yX7_knownMany wsX7_knownMany) := goodIn_app (goodIn_of _ (by decide +kernel)) ggX7_siteInfo_X7_knownMany
set_option maxRecDepth 20000 in
theorem ggX7_siteInfo_X7_workOut : GoodIn wsX7_siteInfo wsX7_workOut := goodIn_r _ [23, 4, 24, 25, 26, 27, 28, 9, 29, 30, 31, 32, 33, 19, 34, 35, 36, 37, 38, 39, 40, 41, 42, 12, 13, 14, 43, 44, 45, 46, 47, 48, 49, 50, 51, 52, 53, 54, 55, 56, 57, 58, 59, 60, 61, 62, 63, 64, 65, 66, 67, 68, 69, 70, 71] (by decide +kernel) (by decide +kernel)
set_option maxRecDepth 20000 in
theorem gX7_siteInfo_X7_workOut : GoodIn wsX7_siteInfo (wsV RX7 98 RX7 yX7_workOut wsX7_workOut) := goodIn_app (goodIn_of _ (by decide +kernel)) ggX7_siteInfo_X7_workOut
theorem dX7_siteInfo_0 : decode cX7_siteInfo 0 = .ok (.aload_n 0, 1) := by decide +kernel
theorem dX7_siteInfo_1 : decode cX7_siteInfo 1 = .ok (.iload_n 1, 1) := by decide +kernel
theorem dX7_siteInfo_2 : decode cX7_siteInfo 2 = .ok (.invokevirtual 54, 3) := by decide +kernel
theorem dX7_siteInfo_5 : decode cX7_siteInfo 5 = .ok (.ifCond .eq 12, 3) := by decide +kernel
theorem dX7_siteInfo_8 : decode cX7_siteInfo 8 = .ok (.iload_n 2, 1) := by decide +kernel
theorem dX7_siteInfo_9 : decode cX7_siteInfo 9 = .ok (.iconst 0, 1) := by decide +kernel
theorem dX7_siteInfo_10 : decode cX7_siteInfo 10 = .ok (.iconst 4, 1) := by decide +kernel
theorem dX7_siteInfo_11 : decode cX7_siteInfo 11 = .ok (.invokestatic 50, 3) := by decide +kernel
theorem dX7_siteInfo_14 : decode cX7_siteInfo 14 = .ok (.ifCond .ne 6, 3) := by decide +kernel
theorem dX7_siteInfo_17 : decode cX7_siteInfo 17 = .ok (.ldc 89, 2) := by decide +kernel
theorem dX7_siteInfo_19 : decode cX7_siteInfo 19 = .ok (.ireturn, 1) := by decide +kernel
theorem dX7_siteInfo_20 : decode cX7_siteInfo 20 = .ok (.iload_n 2, 1) := by decide +kernel
theorem dX7_siteInfo_21 : decode cX7_siteInfo 21 = .ok (.tableswitch 61 0 3 #[31, 38, 44, 51], 31) := by decide +kernel
theorem dX7_siteInfo_52 : decode cX7_siteInfo 52 = .ok (.aload_n 0, 1) := by decide +kernel
theorem dX7_siteInfo_53 : decode cX7_siteInfo 53 = .ok (.getfield 20, 3) := by decide +kernel
theorem dX7_siteInfo_56 : decode cX7_siteInfo 56 = .ok (.iload_n 1, 1) := by decide +kernel
theorem dX7_siteInfo_57 : decode cX7_siteInfo 57 = .ok (.iaload, 1) := by decide +kernel
theorem dX7_siteInfo_58 : decode cX7_siteInfo 58 = .ok (.ireturn, 1) := by decide +kernel
theorem dX7_siteInfo_59 : decode cX7_siteInfo 59 = .ok (.aload_n 0, 1) := by decide +kernel
theorem dX7_siteInfo_60 : decode cX7_siteInfo 60 = .ok (.iload_n 1, 1) := by decide +kernel
theorem dX7_siteInfo_61 : decode cX7_siteInfo 61 = .ok (.invokevirtual 95, 3) := by decide +kernel
theorem dX7_siteInfo_64 : decode cX7_siteInfo 64 = .ok (.ireturn, 1) := by decide +kernel
theorem dX7_siteInfo_65 : decode cX7_siteInfo 65 = .ok (.aload_n 0, 1) := by decide +kernel
theorem dX7_siteInfo_66 : decode cX7_siteInfo 66 = .ok (.getfield 17, 3) := by decide +kernel
theorem dX7_siteInfo_69 : decode cX7_siteInfo 69 = .ok (.iload_n 1, 1) := by decide +kernel
theorem dX7_siteInfo_70 : decode cX7_siteInfo 70 = .ok (.iaload, 1) := by decide +kernel
theorem dX7_siteInfo_71 : decode cX7_siteInfo 71 = .ok (.ireturn, 1) := by decide +kernel
theorem dX7_siteInfo_72 : decode cX7_siteInfo 72 = .ok (.aload_n 0, 1) := by decide +kernel
theorem dX7_siteInfo_73 : decode cX7_siteInfo 73 = .ok (.iload_n 1, 1) := by decide +kernel
theorem dX7_siteInfo_74 : decode cX7_siteInfo 74 = .ok (.invokevirtual 98, 3) := by decide +kernel
theorem dX7_siteInfo_77 : decode cX7_siteInfo 77 = .ok (.aload_n 0, 1) := by decide +kernel
theorem dX7_siteInfo_78 : decode cX7_siteInfo 78 = .ok (.getfield 80, 3) := by decide +kernel
theorem dX7_siteInfo_81 : decode cX7_siteInfo 81 = .ok (.ireturn, 1) := by decide +kernel
theorem dX7_siteInfo_82 : decode cX7_siteInfo 82 = .ok (.aload_n 0, 1) := by decide +kernel
theorem dX7_siteInfo_83 : decode cX7_siteInfo 83 = .ok (.getfield 26, 3) := by decide +kernel
theorem dX7_siteInfo_86 : decode cX7_siteInfo 86 = .ok (.bipush 19, 2) := by decide +kernel
theorem dX7_siteInfo_88 : decode cX7_siteInfo 88 = .ok (.iload_n 1, 1) := by decide +kernel
theorem dX7_siteInfo_89 : decode cX7_siteInfo 89 = .ok (.imul, 1) := by decide +kernel
theorem dX7_siteInfo_90 : decode cX7_siteInfo 90 = .ok (.iaload, 1) := by decide +kernel
theorem dX7_siteInfo_91 : decode cX7_siteInfo 91 = .ok (.ireturn, 1) := by decide +kernel
set_option maxRecDepth 20000 in
theorem ggX7_penDown_X7_isSite : GoodIn wsX7_penDown wsX7_isSite := goodIn_r _ [7, 8, 9, 10, 6, 11, 12, 13, 14, 15, 16, 17, 18, 19, 20, 21, 22, 23, 24, 25] (by decide +kernel) (by decide +kernel)
set_option maxRecDepth 20000 in
theorem gX7_penDown_X7_isSite : GoodIn wsX7_penDown (wsV RX7 54 RX7 yX7_isSite wsX7_isSite) := goodIn_app (goodIn_of _ (by decide +kernel)) ggX7_penDown_X7_isSite
set_option maxRecDepth 20000 in
theorem ggX7_penDown_X7_in : GoodIn wsX7_penDown wsX7_in := goodIn_r _ [11] (by decide +kernel) (by decide +kernel)
set_option maxRecDepth 20000 in
theorem gX7_penDown_X7_in : GoodIn wsX7_penDown (va_wsS RX7 50 yX7_in wsX7_in) := goodIn_app (goodIn_of _ (by decide +kernel)) ggX7_penDown_X7_in
theorem dX7_penDown_0 : decode cX7_penDown 0 = .ok (.aload_n 0, 1) := by decide +kernel
theorem dX7_penDown_1 : decode cX7_penDown 1 = .ok (.iload_n 1, 1) := by decide +kernel
theorem dX7_penDown_2 : decode cX7_penDown 2 = .ok (.invokevirtual 54, 3) := by decide +kernel
theorem dX7_penDown_5 : decode cX7_penDown 5 = .ok (.ifCond .eq 44, 3) := by decide +kernel
theorem dX7_penDown_8 : decode cX7_penDown 8 = .ok (.iload_n 2, 1) := by decide +kernel
theorem dX7_penDown_9 : decode cX7_penDown 9 = .ok (.iconst 0, 1) := by decide +kernel
theorem dX7_penDown_10 : decode cX7_penDown 10 = .ok (.bipush 63, 2) := by decide +kernel
theorem dX7_penDown_12 : decode cX7_penDown 12 = .ok (.invokestatic 50, 3) := by decide +kernel
theorem dX7_penDown_15 : decode cX7_penDown 15 = .ok (.ifCond .eq 34, 3) := by decide +kernel
theorem dX7_penDown_18 : decode cX7_penDown 18 = .ok (.iload_n 3, 1) := by decide +kernel
theorem dX7_penDown_19 : decode cX7_penDown 19 = .ok (.iconst 0, 1) := by decide +kernel
theorem dX7_penDown_20 : decode cX7_penDown 20 = .ok (.bipush 63, 2) := by decide +kernel
theorem dX7_penDown_22 : decode cX7_penDown 22 = .ok (.invokestatic 50, 3) := by decide +kernel
theorem dX7_penDown_25 : decode cX7_penDown 25 = .ok (.ifCond .eq 24, 3) := by decide +kernel
theorem dX7_penDown_28 : decode cX7_penDown 28 = .ok (.iload 4, 2) := by decide +kernel
theorem dX7_penDown_30 : decode cX7_penDown 30 = .ok (.iconst 0, 1) := by decide +kernel
theorem dX7_penDown_31 : decode cX7_penDown 31 = .ok (.bipush 7, 2) := by decide +kernel
theorem dX7_penDown_33 : decode cX7_penDown 33 = .ok (.invokestatic 50, 3) := by decide +kernel
theorem dX7_penDown_36 : decode cX7_penDown 36 = .ok (.ifCond .eq 13, 3) := by decide +kernel
theorem dX7_penDown_39 : decode cX7_penDown 39 = .ok (.iload 5, 2) := by decide +kernel
theorem dX7_penDown_41 : decode cX7_penDown 41 = .ok (.iconst 0, 1) := by decide +kernel
theorem dX7_penDown_42 : decode cX7_penDown 42 = .ok (.iconst 3, 1) := by decide +kernel
theorem dX7_penDown_43 : decode cX7_penDown 43 = .ok (.invokestatic 50, 3) := by decide +kernel
theorem dX7_penDown_46 : decode cX7_penDown 46 = .ok (.ifCond .ne 6, 3) := by decide +kernel
theorem dX7_penDown_49 : decode cX7_penDown 49 = .ok (.ldc 89, 2) := by decide +kernel
theorem dX7_penDown_51 : decode cX7_penDown 51 = .ok (.ireturn, 1) := by decide +kernel
theorem dX7_penDown_52 : decode cX7_penDown 52 = .ok (.bipush 19, 2) := by decide +kernel
theorem dX7_penDown_54 : decode cX7_penDown 54 = .ok (.iload_n 1, 1) := by decide +kernel
theorem dX7_penDown_55 : decode cX7_penDown 55 = .ok (.imul, 1) := by decide +kernel
theorem dX7_penDown_56 : decode cX7_penDown 56 = .ok (.istore 6, 2) := by decide +kernel
theorem dX7_penDown_58 : decode cX7_penDown 58 = .ok (.aload_n 0, 1) := by decide +kernel
theorem dX7_penDown_59 : decode cX7_penDown 59 = .ok (.getfield 26, 3) := by decide +kernel
theorem dX7_penDown_62 : decode cX7_penDown 62 = .ok (.iload 6, 2) := by decide +kernel
theorem dX7_penDown_64 : decode cX7_penDown 64 = .ok (.iconst 1, 1) := by decide +kernel
theorem dX7_penDown_65 : decode cX7_penDown 65 = .ok (.iastore, 1) := by decide +kernel
theorem dX7_penDown_66 : decode cX7_penDown 66 = .ok (.aload_n 0, 1) := by decide +kernel
theorem dX7_penDown_67 : decode cX7_penDown 67 = .ok (.getfield 26, 3) := by decide +kernel
theorem dX7_penDown_70 : decode cX7_penDown 70 = .ok (.iload 6, 2) := by decide +kernel
theorem dX7_penDown_72 : decode cX7_penDown 72 = .ok (.iconst 1, 1) := by decide +kernel
theorem dX7_penDown_73 : decode cX7_penDown 73 = .ok (.iadd, 1) := by decide +kernel
theorem dX7_penDown_74 : decode cX7_penDown 74 = .ok (.iload 4, 2) := by decide +kernel
theorem dX7_penDown_76 : decode cX7_penDown 76 = .ok (.iastore, 1) := by decide +kernel
theorem dX7_penDown_77 : decode cX7_penDown 77 = .ok (.aload_n 0, 1) := by decide +kernel
theorem dX7_penDown_78 : decode cX7_penDown 78 = .ok (.getfield 26, 3) := by decide +kernel
theorem dX7_penDown_81 : decode cX7_penDown 81 = .ok (.iload 6, 2) := by decide +kernel
theorem dX7_penDown_83 : decode cX7_penDown 83 = .ok (.iconst 2, 1) := by decide +kernel
theorem dX7_penDown_84 : decode cX7_penDown 84 = .ok (.iadd, 1) := by decide +kernel
theorem dX7_penDown_85 : decode cX7_penDown 85 = .ok (.iload 5, 2) := by decide +kernel
theorem dX7_penDown_87 : decode cX7_penDown 87 = .ok (.iastore, 1) := by decide +kernel
theorem dX7_penDown_88 : decode cX7_penDown 88 = .ok (.aload_n 0, 1) := by decide +kernel
theorem dX7_penDown_89 : decode cX7_penDown 89 = .ok (.getfield 26, 3) := by decide +kernel
theorem dX7_penDown_92 : decode cX7_penDown 92 = .ok (.iload 6, 2) := by decide +kernel
theorem dX7_penDown_94 : decode cX7_penDown 94 = .ok (.iconst 3, 1) := by decide +kernel
theorem dX7_penDown_95 : decode cX7_penDown 95 = .ok (.iadd, 1) := by decide +kernel
theorem dX7_penDown_96 : decode cX7_penDown 96 = .ok (.iload_n 2, 1) := by decide +kernel
theorem dX7_penDown_97 : decode cX7_penDown 97 = .ok (.iastore, 1) := by decide +kernel
theorem dX7_penDown_98 : decode cX7_penDown 98 = .ok (.aload_n 0, 1) := by decide +kernel
theorem dX7_penDown_99 : decode cX7_penDown 99 = .ok (.getfield 26, 3) := by decide +kernel
theorem dX7_penDown_102 : decode cX7_penDown 102 = .ok (.iload 6, 2) := by decide +kernel
theorem dX7_penDown_104 : decode cX7_penDown 104 = .ok (.iconst 4, 1) := by decide +kernel
theorem dX7_penDown_105 : decode cX7_penDown 105 = .ok (.iadd, 1) := by decide +kernel
theorem dX7_penDown_106 : decode cX7_penDown 106 = .ok (.iload_n 3, 1) := by decide +kernel
theorem dX7_penDown_107 : decode cX7_penDown 107 = .ok (.iastore, 1) := by decide +kernel
theorem dX7_penDown_108 : decode cX7_penDown 108 = .ok (.iconst 1, 1) := by decide +kernel
theorem dX7_penDown_109 : decode cX7_penDown 109 = .ok (.ireturn, 1) := by decide +kernel
set_option maxRecDepth 20000 in
theorem ggX7_penMove_X7_isSite : GoodIn wsX7_penMove wsX7_isSite := goodIn_r _ [9, 10, 11, 12, 8, 13, 14, 15, 16, 17, 18, 19, 20, 21, 22, 23, 24, 25, 26, 27] (by decide +kernel) (by decide +kernel)
set_option maxRecDepth 20000 in
theorem gX7_penMove_X7_isSite : GoodIn wsX7_penMove (wsV RX7 54 RX7 yX7_isSite wsX7_isSite) := goodIn_app (goodIn_of _ (by decide +kernel)) ggX7_penMove_X7_isSite
set_option maxRecDepth 20000 in
theorem ggX7_penMove_X7_in : GoodIn wsX7_penMove wsX7_in := goodIn_r _ [13] (by decide +kernel) (by decide +kernel)
set_option maxRecDepth 20000 in
theorem gX7_penMove_X7_in : GoodIn wsX7_penMove (va_wsS RX7 50 yX7_in wsX7_in) := goodIn_app (goodIn_of _ (by decide +kernel)) ggX7_penMove_X7_in
theorem dX7_penMove_0 : decode cX7_penMove 0 = .ok (.aload_n 0, 1) := by decide +kernel
theorem dX7_penMove_1 : decode cX7_penMove 1 = .ok (.iload_n 1, 1) := by decide +kernel
theorem dX7_penMove_2 : decode cX7_penMove 2 = .ok (.invokevirtual 54, 3) := by decide +kernel
theorem dX7_penMove_5 : decode cX7_penMove 5 = .ok (.ifCond .eq 25, 3) := by decide +kernel
theorem dX7_penMove_8 : decode cX7_penMove 8 = .ok (.iload_n 2, 1) := by decide +kernel
theorem dX7_penMove_9 : decode cX7_penMove 9 = .ok (.bipush (-8), 2) := by decide +kernel
theorem dX7_penMove_11 : decode cX7_penMove 11 = .ok (.bipush 8, 2) := by decide +kernel
theorem dX7_penMove_13 : decode cX7_penMove 13 = .ok (.invokestatic 50, 3) := by decide +kernel
theorem dX7_penMove_16 : decode cX7_penMove 16 = .ok (.ifCond .eq 14, 3) := by decide +kernel
theorem dX7_penMove_19 : decode cX7_penMove 19 = .ok (.iload_n 3, 1) := by decide +kernel
theorem dX7_penMove_20 : decode cX7_penMove 20 = .ok (.bipush (-8), 2) := by decide +kernel
theorem dX7_penMove_22 : decode cX7_penMove 22 = .ok (.bipush 8, 2) := by decide +kernel
theorem dX7_penMove_24 : decode cX7_penMove 24 = .ok (.invokestatic 50, 3) := by decide +kernel
theorem dX7_penMove_27 : decode cX7_penMove 27 = .ok (.ifCond .ne 6, 3) := by decide +kernel
theorem dX7_penMove_30 : decode cX7_penMove 30 = .ok (.ldc 89, 2) := by decide +kernel
theorem dX7_penMove_32 : decode cX7_penMove 32 = .ok (.ireturn, 1) := by decide +kernel
theorem dX7_penMove_33 : decode cX7_penMove 33 = .ok (.bipush 19, 2) := by decide +kernel
theorem dX7_penMove_35 : decode cX7_penMove 35 = .ok (.iload_n 1, 1) := by decide +kernel
theorem dX7_penMove_36 : decode cX7_penMove 36 = .ok (.imul, 1) := by decide +kernel
theorem dX7_penMove_37 : decode cX7_penMove 37 = .ok (.istore 4, 2) := by decide +kernel
theorem dX7_penMove_39 : decode cX7_penMove 39 = .ok (.aload_n 0, 1) := by decide +kernel
theorem dX7_penMove_40 : decode cX7_penMove 40 = .ok (.getfield 26, 3) := by decide +kernel
theorem dX7_penMove_43 : decode cX7_penMove 43 = .ok (.iload 4, 2) := by decide +kernel
theorem dX7_penMove_45 : decode cX7_penMove 45 = .ok (.iaload, 1) := by decide +kernel
theorem dX7_penMove_46 : decode cX7_penMove 46 = .ok (.istore 5, 2) := by decide +kernel
theorem dX7_penMove_48 : decode cX7_penMove 48 = .ok (.iload 5, 2) := by decide +kernel
theorem dX7_penMove_50 : decode cX7_penMove 50 = .ok (.ifCond .ne 6, 3) := by decide +kernel
theorem dX7_penMove_53 : decode cX7_penMove 53 = .ok (.ldc 101, 2) := by decide +kernel
theorem dX7_penMove_55 : decode cX7_penMove 55 = .ok (.ireturn, 1) := by decide +kernel
theorem dX7_penMove_56 : decode cX7_penMove 56 = .ok (.iload 5, 2) := by decide +kernel
theorem dX7_penMove_58 : decode cX7_penMove 58 = .ok (.bipush 8, 2) := by decide +kernel
theorem dX7_penMove_60 : decode cX7_penMove 60 = .ok (.if_icmp .ne 6, 3) := by decide +kernel
theorem dX7_penMove_63 : decode cX7_penMove 63 = .ok (.ldc 94, 2) := by decide +kernel
theorem dX7_penMove_65 : decode cX7_penMove 65 = .ok (.ireturn, 1) := by decide +kernel
theorem dX7_penMove_66 : decode cX7_penMove 66 = .ok (.aload_n 0, 1) := by decide +kernel
theorem dX7_penMove_67 : decode cX7_penMove 67 = .ok (.getfield 26, 3) := by decide +kernel
theorem dX7_penMove_70 : decode cX7_penMove 70 = .ok (.iload 4, 2) := by decide +kernel
theorem dX7_penMove_72 : decode cX7_penMove 72 = .ok (.iconst 3, 1) := by decide +kernel
theorem dX7_penMove_73 : decode cX7_penMove 73 = .ok (.iadd, 1) := by decide +kernel
theorem dX7_penMove_74 : decode cX7_penMove 74 = .ok (.iconst 2, 1) := by decide +kernel
theorem dX7_penMove_75 : decode cX7_penMove 75 = .ok (.iload 5, 2) := by decide +kernel
theorem dX7_penMove_77 : decode cX7_penMove 77 = .ok (.imul, 1) := by decide +kernel
theorem dX7_penMove_78 : decode cX7_penMove 78 = .ok (.iadd, 1) := by decide +kernel
theorem dX7_penMove_79 : decode cX7_penMove 79 = .ok (.aload_n 0, 1) := by decide +kernel
theorem dX7_penMove_80 : decode cX7_penMove 80 = .ok (.getfield 26, 3) := by decide +kernel
theorem dX7_penMove_83 : decode cX7_penMove 83 = .ok (.iload 4, 2) := by decide +kernel
theorem dX7_penMove_85 : decode cX7_penMove 85 = .ok (.iconst 1, 1) := by decide +kernel
theorem dX7_penMove_86 : decode cX7_penMove 86 = .ok (.iadd, 1) := by decide +kernel
theorem dX7_penMove_87 : decode cX7_penMove 87 = .ok (.iconst 2, 1) := by decide +kernel
theorem dX7_penMove_88 : decode cX7_penMove 88 = .ok (.iload 5, 2) := by decide +kernel
theorem dX7_penMove_90 : decode cX7_penMove 90 = .ok (.imul, 1) := by decide +kernel
theorem dX7_penMove_91 : decode cX7_penMove 91 = .ok (.iadd, 1) := by decide +kernel
theorem dX7_penMove_92 : decode cX7_penMove 92 = .ok (.iaload, 1) := by decide +kernel
theorem dX7_penMove_93 : decode cX7_penMove 93 = .ok (.iload_n 2, 1) := by decide +kernel
theorem dX7_penMove_94 : decode cX7_penMove 94 = .ok (.iadd, 1) := by decide +kernel
theorem dX7_penMove_95 : decode cX7_penMove 95 = .ok (.iastore, 1) := by decide +kernel
theorem dX7_penMove_96 : decode cX7_penMove 96 = .ok (.aload_n 0, 1) := by decide +kernel
theorem dX7_penMove_97 : decode cX7_penMove 97 = .ok (.getfield 26, 3) := by decide +kernel
theorem dX7_penMove_100 : decode cX7_penMove 100 = .ok (.iload 4, 2) := by decide +kernel
theorem dX7_penMove_102 : decode cX7_penMove 102 = .ok (.iconst 4, 1) := by decide +kernel
theorem dX7_penMove_103 : decode cX7_penMove 103 = .ok (.iadd, 1) := by decide +kernel
theorem dX7_penMove_104 : decode cX7_penMove 104 = .ok (.iconst 2, 1) := by decide +kernel
theorem dX7_penMove_105 : decode cX7_penMove 105 = .ok (.iload 5, 2) := by decide +kernel
theorem dX7_penMove_107 : decode cX7_penMove 107 = .ok (.imul, 1) := by decide +kernel
theorem dX7_penMove_108 : decode cX7_penMove 108 = .ok (.iadd, 1) := by decide +kernel
theorem dX7_penMove_109 : decode cX7_penMove 109 = .ok (.aload_n 0, 1) := by decide +kernel
theorem dX7_penMove_110 : decode cX7_penMove 110 = .ok (.getfield 26, 3) := by decide +kernel
theorem dX7_penMove_113 : decode cX7_penMove 113 = .ok (.iload 4, 2) := by decide +kernel
theorem dX7_penMove_115 : decode cX7_penMove 115 = .ok (.iconst 2, 1) := by decide +kernel
theorem dX7_penMove_116 : decode cX7_penMove 116 = .ok (.iadd, 1) := by decide +kernel
theorem dX7_penMove_117 : decode cX7_penMove 117 = .ok (.iconst 2, 1) := by decide +kernel
theorem dX7_penMove_118 : decode cX7_penMove 118 = .ok (.iload 5, 2) := by decide +kernel
theorem dX7_penMove_120 : decode cX7_penMove 120 = .ok (.imul, 1) := by decide +kernel
theorem dX7_penMove_121 : decode cX7_penMove 121 = .ok (.iadd, 1) := by decide +kernel
theorem dX7_penMove_122 : decode cX7_penMove 122 = .ok (.iaload, 1) := by decide +kernel
theorem dX7_penMove_123 : decode cX7_penMove 123 = .ok (.iload_n 3, 1) := by decide +kernel
theorem dX7_penMove_124 : decode cX7_penMove 124 = .ok (.iadd, 1) := by decide +kernel
theorem dX7_penMove_125 : decode cX7_penMove 125 = .ok (.iastore, 1) := by decide +kernel
theorem dX7_penMove_126 : decode cX7_penMove 126 = .ok (.aload_n 0, 1) := by decide +kernel
theorem dX7_penMove_127 : decode cX7_penMove 127 = .ok (.getfield 26, 3) := by decide +kernel
theorem dX7_penMove_130 : decode cX7_penMove 130 = .ok (.iload 4, 2) := by decide +kernel
theorem dX7_penMove_132 : decode cX7_penMove 132 = .ok (.dup2, 1) := by decide +kernel
theorem dX7_penMove_133 : decode cX7_penMove 133 = .ok (.iaload, 1) := by decide +kernel
theorem dX7_penMove_134 : decode cX7_penMove 134 = .ok (.iconst 1, 1) := by decide +kernel
theorem dX7_penMove_135 : decode cX7_penMove 135 = .ok (.iadd, 1) := by decide +kernel
theorem dX7_penMove_136 : decode cX7_penMove 136 = .ok (.iastore, 1) := by decide +kernel
theorem dX7_penMove_137 : decode cX7_penMove 137 = .ok (.iload 5, 2) := by decide +kernel
theorem dX7_penMove_139 : decode cX7_penMove 139 = .ok (.iconst 1, 1) := by decide +kernel
theorem dX7_penMove_140 : decode cX7_penMove 140 = .ok (.iadd, 1) := by decide +kernel
theorem dX7_penMove_141 : decode cX7_penMove 141 = .ok (.ireturn, 1) := by decide +kernel
set_option maxRecDepth 20000 in
theorem ggX7_make_X7_place : GoodIn wsX7_make wsX7_place := goodIn_r _ [11] (by decide +kernel) (by decide +kernel)
set_option maxRecDepth 20000 in
theorem gX7_make_X7_place : GoodIn wsX7_make (va_wsS RX7 62 yX7_place wsX7_place) := goodIn_app (goodIn_of _ (by decide +kernel)) ggX7_make_X7_place
theorem dX7_make_0 : decode cX7_make 0 = .ok (.aload_n 0, 1) := by decide +kernel
theorem dX7_make_1 : decode cX7_make 1 = .ok (.getfield 17, 3) := by decide +kernel
theorem dX7_make_4 : decode cX7_make 4 = .ok (.iload_n 1, 1) := by decide +kernel
theorem dX7_make_5 : decode cX7_make 5 = .ok (.dup2, 1) := by decide +kernel
theorem dX7_make_6 : decode cX7_make 6 = .ok (.iaload, 1) := by decide +kernel
theorem dX7_make_7 : decode cX7_make 7 = .ok (.iconst 1, 1) := by decide +kernel
theorem dX7_make_8 : decode cX7_make 8 = .ok (.iadd, 1) := by decide +kernel
theorem dX7_make_9 : decode cX7_make 9 = .ok (.iastore, 1) := by decide +kernel
theorem dX7_make_10 : decode cX7_make 10 = .ok (.iload_n 1, 1) := by decide +kernel
theorem dX7_make_11 : decode cX7_make 11 = .ok (.aload_n 0, 1) := by decide +kernel
theorem dX7_make_12 : decode cX7_make 12 = .ok (.getfield 17, 3) := by decide +kernel
theorem dX7_make_15 : decode cX7_make 15 = .ok (.iload_n 1, 1) := by decide +kernel
theorem dX7_make_16 : decode cX7_make 16 = .ok (.iaload, 1) := by decide +kernel
theorem dX7_make_17 : decode cX7_make 17 = .ok (.invokestatic 62, 3) := by decide +kernel
theorem dX7_make_20 : decode cX7_make 20 = .ok (.istore 6, 2) := by decide +kernel
theorem dX7_make_22 : decode cX7_make 22 = .ok (.aload_n 0, 1) := by decide +kernel
theorem dX7_make_23 : decode cX7_make 23 = .ok (.getfield 20, 3) := by decide +kernel
theorem dX7_make_26 : decode cX7_make 26 = .ok (.iload_n 1, 1) := by decide +kernel
theorem dX7_make_27 : decode cX7_make 27 = .ok (.dup2, 1) := by decide +kernel
theorem dX7_make_28 : decode cX7_make 28 = .ok (.iaload, 1) := by decide +kernel
theorem dX7_make_29 : decode cX7_make 29 = .ok (.iconst 1, 1) := by decide +kernel
theorem dX7_make_30 : decode cX7_make 30 = .ok (.iadd, 1) := by decide +kernel
theorem dX7_make_31 : decode cX7_make 31 = .ok (.iastore, 1) := by decide +kernel
theorem dX7_make_32 : decode cX7_make 32 = .ok (.bipush 21, 2) := by decide +kernel
theorem dX7_make_34 : decode cX7_make 34 = .ok (.iload 6, 2) := by decide +kernel
theorem dX7_make_36 : decode cX7_make 36 = .ok (.imul, 1) := by decide +kernel
theorem dX7_make_37 : decode cX7_make 37 = .ok (.istore 7, 2) := by decide +kernel
theorem dX7_make_39 : decode cX7_make 39 = .ok (.aload_n 0, 1) := by decide +kernel
theorem dX7_make_40 : decode cX7_make 40 = .ok (.getfield 13, 3) := by decide +kernel
theorem dX7_make_43 : decode cX7_make 43 = .ok (.iload 7, 2) := by decide +kernel
theorem dX7_make_45 : decode cX7_make 45 = .ok (.iconst 0, 1) := by decide +kernel
theorem dX7_make_46 : decode cX7_make 46 = .ok (.iadd, 1) := by decide +kernel
theorem dX7_make_47 : decode cX7_make 47 = .ok (.iload_n 2, 1) := by decide +kernel
theorem dX7_make_48 : decode cX7_make 48 = .ok (.iastore, 1) := by decide +kernel
theorem dX7_make_49 : decode cX7_make 49 = .ok (.aload_n 0, 1) := by decide +kernel
theorem dX7_make_50 : decode cX7_make 50 = .ok (.getfield 13, 3) := by decide +kernel
theorem dX7_make_53 : decode cX7_make 53 = .ok (.iload 7, 2) := by decide +kernel
theorem dX7_make_55 : decode cX7_make 55 = .ok (.iconst 1, 1) := by decide +kernel
theorem dX7_make_56 : decode cX7_make 56 = .ok (.iadd, 1) := by decide +kernel
theorem dX7_make_57 : decode cX7_make 57 = .ok (.aload_n 0, 1) := by decide +kernel
theorem dX7_make_58 : decode cX7_make 58 = .ok (.getfield 20, 3) := by decide +kernel
theorem dX7_make_61 : decode cX7_make 61 = .ok (.iload_n 1, 1) := by decide +kernel
theorem dX7_make_62 : decode cX7_make 62 = .ok (.iaload, 1) := by decide +kernel
theorem dX7_make_63 : decode cX7_make 63 = .ok (.iastore, 1) := by decide +kernel
theorem dX7_make_64 : decode cX7_make 64 = .ok (.aload_n 0, 1) := by decide +kernel
theorem dX7_make_65 : decode cX7_make 65 = .ok (.getfield 13, 3) := by decide +kernel
theorem dX7_make_68 : decode cX7_make 68 = .ok (.iload 7, 2) := by decide +kernel
theorem dX7_make_70 : decode cX7_make 70 = .ok (.iconst 2, 1) := by decide +kernel
theorem dX7_make_71 : decode cX7_make 71 = .ok (.iadd, 1) := by decide +kernel
theorem dX7_make_72 : decode cX7_make 72 = .ok (.iload_n 3, 1) := by decide +kernel
theorem dX7_make_73 : decode cX7_make 73 = .ok (.iastore, 1) := by decide +kernel
theorem dX7_make_74 : decode cX7_make 74 = .ok (.aload_n 0, 1) := by decide +kernel
theorem dX7_make_75 : decode cX7_make 75 = .ok (.getfield 13, 3) := by decide +kernel
theorem dX7_make_78 : decode cX7_make 78 = .ok (.iload 7, 2) := by decide +kernel
theorem dX7_make_80 : decode cX7_make 80 = .ok (.iconst 3, 1) := by decide +kernel
theorem dX7_make_81 : decode cX7_make 81 = .ok (.iadd, 1) := by decide +kernel
theorem dX7_make_82 : decode cX7_make 82 = .ok (.iload 4, 2) := by decide +kernel
theorem dX7_make_84 : decode cX7_make 84 = .ok (.iastore, 1) := by decide +kernel
theorem dX7_make_85 : decode cX7_make 85 = .ok (.aload_n 0, 1) := by decide +kernel
theorem dX7_make_86 : decode cX7_make 86 = .ok (.getfield 13, 3) := by decide +kernel
theorem dX7_make_89 : decode cX7_make 89 = .ok (.iload 7, 2) := by decide +kernel
theorem dX7_make_91 : decode cX7_make 91 = .ok (.iconst 4, 1) := by decide +kernel
theorem dX7_make_92 : decode cX7_make 92 = .ok (.iadd, 1) := by decide +kernel
theorem dX7_make_93 : decode cX7_make 93 = .ok (.iload 5, 2) := by decide +kernel
theorem dX7_make_95 : decode cX7_make 95 = .ok (.iastore, 1) := by decide +kernel
theorem dX7_make_96 : decode cX7_make 96 = .ok (.aload_n 0, 1) := by decide +kernel
theorem dX7_make_97 : decode cX7_make 97 = .ok (.getfield 23, 3) := by decide +kernel
theorem dX7_make_100 : decode cX7_make 100 = .ok (.bipush 100, 2) := by decide +kernel
theorem dX7_make_102 : decode cX7_make 102 = .ok (.iload_n 1, 1) := by decide +kernel
theorem dX7_make_103 : decode cX7_make 103 = .ok (.imul, 1) := by decide +kernel
theorem dX7_make_104 : decode cX7_make 104 = .ok (.iload 6, 2) := by decide +kernel
theorem dX7_make_106 : decode cX7_make 106 = .ok (.iadd, 1) := by decide +kernel
theorem dX7_make_107 : decode cX7_make 107 = .ok (.iconst 1, 1) := by decide +kernel
theorem dX7_make_108 : decode cX7_make 108 = .ok (.iastore, 1) := by decide +kernel
theorem dX7_make_109 : decode cX7_make 109 = .ok (.iconst 0, 1) := by decide +kernel
theorem dX7_make_110 : decode cX7_make 110 = .ok (.istore 8, 2) := by decide +kernel
theorem dX7_make_112 : decode cX7_make 112 = .ok (.iload 8, 2) := by decide +kernel
theorem dX7_make_114 : decode cX7_make 114 = .ok (.aload_n 0, 1) := by decide +kernel
theorem dX7_make_115 : decode cX7_make 115 = .ok (.getfield 7, 3) := by decide +kernel
theorem dX7_make_118 : decode cX7_make 118 = .ok (.if_icmp .ge 70, 3) := by decide +kernel
theorem dX7_make_121 : decode cX7_make 121 = .ok (.iconst 5, 1) := by decide +kernel
theorem dX7_make_122 : decode cX7_make 122 = .ok (.iload_n 1, 1) := by decide +kernel
theorem dX7_make_123 : decode cX7_make 123 = .ok (.imul, 1) := by decide +kernel
theorem dX7_make_124 : decode cX7_make 124 = .ok (.iload 8, 2) := by decide +kernel
theorem dX7_make_126 : decode cX7_make 126 = .ok (.iadd, 1) := by decide +kernel
theorem dX7_make_127 : decode cX7_make 127 = .ok (.istore 9, 2) := by decide +kernel
theorem dX7_make_129 : decode cX7_make 129 = .ok (.iload 8, 2) := by decide +kernel
theorem dX7_make_131 : decode cX7_make 131 = .ok (.iload_n 1, 1) := by decide +kernel
theorem dX7_make_132 : decode cX7_make 132 = .ok (.if_icmp .eq 50, 3) := by decide +kernel
theorem dX7_make_135 : decode cX7_make 135 = .ok (.aload_n 0, 1) := by decide +kernel
theorem dX7_make_136 : decode cX7_make 136 = .ok (.getfield 32, 3) := by decide +kernel
theorem dX7_make_139 : decode cX7_make 139 = .ok (.iload 9, 2) := by decide +kernel
theorem dX7_make_141 : decode cX7_make 141 = .ok (.iaload, 1) := by decide +kernel
theorem dX7_make_142 : decode cX7_make 142 = .ok (.bipush 10, 2) := by decide +kernel
theorem dX7_make_144 : decode cX7_make 144 = .ok (.if_icmp .ge 38, 3) := by decide +kernel
theorem dX7_make_147 : decode cX7_make 147 = .ok (.aload_n 0, 1) := by decide +kernel
theorem dX7_make_148 : decode cX7_make 148 = .ok (.getfield 29, 3) := by decide +kernel
theorem dX7_make_151 : decode cX7_make 151 = .ok (.bipush 10, 2) := by decide +kernel
theorem dX7_make_153 : decode cX7_make 153 = .ok (.iload 9, 2) := by decide +kernel
theorem dX7_make_155 : decode cX7_make 155 = .ok (.imul, 1) := by decide +kernel
theorem dX7_make_156 : decode cX7_make 156 = .ok (.aload_n 0, 1) := by decide +kernel
theorem dX7_make_157 : decode cX7_make 157 = .ok (.getfield 32, 3) := by decide +kernel
theorem dX7_make_160 : decode cX7_make 160 = .ok (.iload 9, 2) := by decide +kernel
theorem dX7_make_162 : decode cX7_make 162 = .ok (.iaload, 1) := by decide +kernel
theorem dX7_make_163 : decode cX7_make 163 = .ok (.iadd, 1) := by decide +kernel
theorem dX7_make_164 : decode cX7_make 164 = .ok (.aload_n 0, 1) := by decide +kernel
theorem dX7_make_165 : decode cX7_make 165 = .ok (.getfield 17, 3) := by decide +kernel
theorem dX7_make_168 : decode cX7_make 168 = .ok (.iload_n 1, 1) := by decide +kernel
theorem dX7_make_169 : decode cX7_make 169 = .ok (.iaload, 1) := by decide +kernel
theorem dX7_make_170 : decode cX7_make 170 = .ok (.iastore, 1) := by decide +kernel
theorem dX7_make_171 : decode cX7_make 171 = .ok (.aload_n 0, 1) := by decide +kernel
theorem dX7_make_172 : decode cX7_make 172 = .ok (.getfield 32, 3) := by decide +kernel
theorem dX7_make_175 : decode cX7_make 175 = .ok (.iload 9, 2) := by decide +kernel
theorem dX7_make_177 : decode cX7_make 177 = .ok (.dup2, 1) := by decide +kernel
theorem dX7_make_178 : decode cX7_make 178 = .ok (.iaload, 1) := by decide +kernel
theorem dX7_make_179 : decode cX7_make 179 = .ok (.iconst 1, 1) := by decide +kernel
theorem dX7_make_180 : decode cX7_make 180 = .ok (.iadd, 1) := by decide +kernel
theorem dX7_make_181 : decode cX7_make 181 = .ok (.iastore, 1) := by decide +kernel
theorem dX7_make_182 : decode cX7_make 182 = .ok (.iinc 8 1, 3) := by decide +kernel
theorem dX7_make_185 : decode cX7_make 185 = .ok (.goto (-73), 3) := by decide +kernel
theorem dX7_make_188 : decode cX7_make 188 = .ok (.aload_n 0, 1) := by decide +kernel
theorem dX7_make_189 : decode cX7_make 189 = .ok (.getfield 17, 3) := by decide +kernel
theorem dX7_make_192 : decode cX7_make 192 = .ok (.iload_n 1, 1) := by decide +kernel
theorem dX7_make_193 : decode cX7_make 193 = .ok (.iaload, 1) := by decide +kernel
theorem dX7_make_194 : decode cX7_make 194 = .ok (.ireturn, 1) := by decide +kernel
set_option maxRecDepth 20000 in
theorem ggX7_penUp_X7_isSite : GoodIn wsX7_penUp wsX7_isSite := goodIn_r _ [11, 12, 13, 14, 10, 15, 27, 28, 29, 30, 31, 32, 33, 34, 35, 36, 37, 38, 39, 40] (by decide +kernel) (by decide +kernel)
set_option maxRecDepth 20000 in
theorem gX7_penUp_X7_isSite : GoodIn wsX7_penUp (wsV RX7 54 RX7 yX7_isSite wsX7_isSite) := goodIn_app (goodIn_of _ (by decide +kernel)) ggX7_penUp_X7_isSite
set_option maxRecDepth 20000 in
theorem ggX7_penUp_X7_make : GoodIn wsX7_penUp wsX7_make := goodIn_r _ [19, 4, 20, 6, 21, 12, 22, 23, 24, 25, 10, 26, 27, 28, 29, 30, 31, 32, 33, 34, 35, 36, 37, 38, 39, 40] (by decide +kernel) (by decide +kernel)
set_option maxRecDepth 20000 in
theorem gX7_penUp_X7_make : GoodIn wsX7_penUp (wsV RX7 102 RX7 yX7_make wsX7_make) := goodIn_app (goodIn_of _ (by decide +kernel)) ggX7_penUp_X7_make
set_option maxRecDepth 20000 in
theorem ggX7_penUp_X7_place : GoodIn wsX7_penUp wsX7_place := goodIn_r _ [26] (by decide +kernel) (by decide +kernel)
set_option maxRecDepth 20000 in
theorem gX7_penUp_X7_place : GoodIn wsX7_penUp (va_wsS RX7 62 yX7_place wsX7_place) := goodIn_app (goodIn_of _ (by decide +kernel)) ggX7_penUp_X7_place
theorem dX7_penUp_0 : decode cX7_penUp 0 = .ok (.aload_n 0, 1) := by decide +kernel
theorem dX7_penUp_1 : decode cX7_penUp 1 = .ok (.iload_n 1, 1) := by decide +kernel
theorem dX7_penUp_2 : decode cX7_penUp 2 = .ok (.invokevirtual 54, 3) := by decide +kernel
theorem dX7_penUp_5 : decode cX7_penUp 5 = .ok (.ifCond .ne 6, 3) := by decide +kernel
theorem dX7_penUp_8 : decode cX7_penUp 8 = .ok (.ldc 89, 2) := by decide +kernel
theorem dX7_penUp_10 : decode cX7_penUp 10 = .ok (.ireturn, 1) := by decide +kernel
theorem dX7_penUp_11 : decode cX7_penUp 11 = .ok (.bipush 19, 2) := by decide +kernel
theorem dX7_penUp_13 : decode cX7_penUp 13 = .ok (.iload_n 1, 1) := by decide +kernel
theorem dX7_penUp_14 : decode cX7_penUp 14 = .ok (.imul, 1) := by decide +kernel
theorem dX7_penUp_15 : decode cX7_penUp 15 = .ok (.istore_n 2, 1) := by decide +kernel
theorem dX7_penUp_16 : decode cX7_penUp 16 = .ok (.aload_n 0, 1) := by decide +kernel
theorem dX7_penUp_17 : decode cX7_penUp 17 = .ok (.getfield 26, 3) := by decide +kernel
theorem dX7_penUp_20 : decode cX7_penUp 20 = .ok (.iload_n 2, 1) := by decide +kernel
theorem dX7_penUp_21 : decode cX7_penUp 21 = .ok (.iaload, 1) := by decide +kernel
theorem dX7_penUp_22 : decode cX7_penUp 22 = .ok (.ifCond .ne 6, 3) := by decide +kernel
theorem dX7_penUp_25 : decode cX7_penUp 25 = .ok (.ldc 101, 2) := by decide +kernel
theorem dX7_penUp_27 : decode cX7_penUp 27 = .ok (.ireturn, 1) := by decide +kernel
theorem dX7_penUp_28 : decode cX7_penUp 28 = .ok (.aload_n 0, 1) := by decide +kernel
theorem dX7_penUp_29 : decode cX7_penUp 29 = .ok (.getfield 17, 3) := by decide +kernel
theorem dX7_penUp_32 : decode cX7_penUp 32 = .ok (.iload_n 1, 1) := by decide +kernel
theorem dX7_penUp_33 : decode cX7_penUp 33 = .ok (.iaload, 1) := by decide +kernel
theorem dX7_penUp_34 : decode cX7_penUp 34 = .ok (.bipush 20, 2) := by decide +kernel
theorem dX7_penUp_36 : decode cX7_penUp 36 = .ok (.if_icmp .ne 6, 3) := by decide +kernel
theorem dX7_penUp_39 : decode cX7_penUp 39 = .ok (.ldc 94, 2) := by decide +kernel
theorem dX7_penUp_41 : decode cX7_penUp 41 = .ok (.ireturn, 1) := by decide +kernel
theorem dX7_penUp_42 : decode cX7_penUp 42 = .ok (.aload_n 0, 1) := by decide +kernel
theorem dX7_penUp_43 : decode cX7_penUp 43 = .ok (.iload_n 1, 1) := by decide +kernel
theorem dX7_penUp_44 : decode cX7_penUp 44 = .ok (.iconst 0, 1) := by decide +kernel
theorem dX7_penUp_45 : decode cX7_penUp 45 = .ok (.aload_n 0, 1) := by decide +kernel
theorem dX7_penUp_46 : decode cX7_penUp 46 = .ok (.getfield 26, 3) := by decide +kernel
theorem dX7_penUp_49 : decode cX7_penUp 49 = .ok (.iload_n 2, 1) := by decide +kernel
theorem dX7_penUp_50 : decode cX7_penUp 50 = .ok (.iconst 1, 1) := by decide +kernel
theorem dX7_penUp_51 : decode cX7_penUp 51 = .ok (.iadd, 1) := by decide +kernel
theorem dX7_penUp_52 : decode cX7_penUp 52 = .ok (.iaload, 1) := by decide +kernel
theorem dX7_penUp_53 : decode cX7_penUp 53 = .ok (.aload_n 0, 1) := by decide +kernel
theorem dX7_penUp_54 : decode cX7_penUp 54 = .ok (.getfield 26, 3) := by decide +kernel
theorem dX7_penUp_57 : decode cX7_penUp 57 = .ok (.iload_n 2, 1) := by decide +kernel
theorem dX7_penUp_58 : decode cX7_penUp 58 = .ok (.iconst 2, 1) := by decide +kernel
theorem dX7_penUp_59 : decode cX7_penUp 59 = .ok (.iadd, 1) := by decide +kernel
theorem dX7_penUp_60 : decode cX7_penUp 60 = .ok (.iaload, 1) := by decide +kernel
theorem dX7_penUp_61 : decode cX7_penUp 61 = .ok (.aload_n 0, 1) := by decide +kernel
theorem dX7_penUp_62 : decode cX7_penUp 62 = .ok (.getfield 26, 3) := by decide +kernel
theorem dX7_penUp_65 : decode cX7_penUp 65 = .ok (.iload_n 2, 1) := by decide +kernel
theorem dX7_penUp_66 : decode cX7_penUp 66 = .ok (.iaload, 1) := by decide +kernel
theorem dX7_penUp_67 : decode cX7_penUp 67 = .ok (.invokevirtual 102, 3) := by decide +kernel
theorem dX7_penUp_70 : decode cX7_penUp 70 = .ok (.istore_n 3, 1) := by decide +kernel
theorem dX7_penUp_71 : decode cX7_penUp 71 = .ok (.iconst 0, 1) := by decide +kernel
theorem dX7_penUp_72 : decode cX7_penUp 72 = .ok (.istore 4, 2) := by decide +kernel
theorem dX7_penUp_74 : decode cX7_penUp 74 = .ok (.iload 4, 2) := by decide +kernel
theorem dX7_penUp_76 : decode cX7_penUp 76 = .ok (.bipush 16, 2) := by decide +kernel
theorem dX7_penUp_78 : decode cX7_penUp 78 = .ok (.if_icmp .ge 38, 3) := by decide +kernel
theorem dX7_penUp_81 : decode cX7_penUp 81 = .ok (.aload_n 0, 1) := by decide +kernel
theorem dX7_penUp_82 : decode cX7_penUp 82 = .ok (.getfield 13, 3) := by decide +kernel
theorem dX7_penUp_85 : decode cX7_penUp 85 = .ok (.bipush 21, 2) := by decide +kernel
theorem dX7_penUp_87 : decode cX7_penUp 87 = .ok (.iload_n 1, 1) := by decide +kernel
theorem dX7_penUp_88 : decode cX7_penUp 88 = .ok (.iload_n 3, 1) := by decide +kernel
theorem dX7_penUp_89 : decode cX7_penUp 89 = .ok (.invokestatic 62, 3) := by decide +kernel
theorem dX7_penUp_92 : decode cX7_penUp 92 = .ok (.imul, 1) := by decide +kernel
theorem dX7_penUp_93 : decode cX7_penUp 93 = .ok (.iconst 5, 1) := by decide +kernel
theorem dX7_penUp_94 : decode cX7_penUp 94 = .ok (.iadd, 1) := by decide +kernel
theorem dX7_penUp_95 : decode cX7_penUp 95 = .ok (.iload 4, 2) := by decide +kernel
theorem dX7_penUp_97 : decode cX7_penUp 97 = .ok (.iadd, 1) := by decide +kernel
theorem dX7_penUp_98 : decode cX7_penUp 98 = .ok (.aload_n 0, 1) := by decide +kernel
theorem dX7_penUp_99 : decode cX7_penUp 99 = .ok (.getfield 26, 3) := by decide +kernel
theorem dX7_penUp_102 : decode cX7_penUp 102 = .ok (.iload_n 2, 1) := by decide +kernel
theorem dX7_penUp_103 : decode cX7_penUp 103 = .ok (.iconst 3, 1) := by decide +kernel
theorem dX7_penUp_104 : decode cX7_penUp 104 = .ok (.iadd, 1) := by decide +kernel
theorem dX7_penUp_105 : decode cX7_penUp 105 = .ok (.iload 4, 2) := by decide +kernel
theorem dX7_penUp_107 : decode cX7_penUp 107 = .ok (.iadd, 1) := by decide +kernel
theorem dX7_penUp_108 : decode cX7_penUp 108 = .ok (.iaload, 1) := by decide +kernel
theorem dX7_penUp_109 : decode cX7_penUp 109 = .ok (.iastore, 1) := by decide +kernel
theorem dX7_penUp_110 : decode cX7_penUp 110 = .ok (.iinc 4 1, 3) := by decide +kernel
theorem dX7_penUp_113 : decode cX7_penUp 113 = .ok (.goto (-39), 3) := by decide +kernel
theorem dX7_penUp_116 : decode cX7_penUp 116 = .ok (.aload_n 0, 1) := by decide +kernel
theorem dX7_penUp_117 : decode cX7_penUp 117 = .ok (.getfield 26, 3) := by decide +kernel
theorem dX7_penUp_120 : decode cX7_penUp 120 = .ok (.iload_n 2, 1) := by decide +kernel
theorem dX7_penUp_121 : decode cX7_penUp 121 = .ok (.iconst 0, 1) := by decide +kernel
theorem dX7_penUp_122 : decode cX7_penUp 122 = .ok (.iastore, 1) := by decide +kernel
theorem dX7_penUp_123 : decode cX7_penUp 123 = .ok (.iload_n 3, 1) := by decide +kernel
theorem dX7_penUp_124 : decode cX7_penUp 124 = .ok (.ireturn, 1) := by decide +kernel
set_option maxRecDepth 20000 in
theorem ggX7_undo_X7_isSite : GoodIn wsX7_undo wsX7_isSite := goodIn_r _ [9, 10, 11, 12, 8, 13, 50, 51, 52, 53, 54, 55, 56, 57, 58, 59, 60, 61, 62, 63] (by decide +kernel) (by decide +kernel)
set_option maxRecDepth 20000 in
theorem gX7_undo_X7_isSite : GoodIn wsX7_undo (wsV RX7 54 RX7 yX7_isSite wsX7_isSite) := goodIn_app (goodIn_of _ (by decide +kernel)) ggX7_undo_X7_isSite
set_option maxRecDepth 20000 in
theorem ggX7_undo_X7_place : GoodIn wsX7_undo wsX7_place := goodIn_r _ [16] (by decide +kernel) (by decide +kernel)
set_option maxRecDepth 20000 in
theorem gX7_undo_X7_place : GoodIn wsX7_undo (va_wsS RX7 62 yX7_place wsX7_place) := goodIn_app (goodIn_of _ (by decide +kernel)) ggX7_undo_X7_place
set_option maxRecDepth 20000 in
theorem ggX7_undo_X7_isVisible : GoodIn wsX7_undo wsX7_isVisible := goodIn_r _ [20, 21, 22, 23, 8, 24, 25, 26, 27, 28, 29, 30, 31, 32, 33, 34, 11, 12, 13, 35, 36, 37, 38, 14, 15, 16, 39, 40, 41, 42, 50, 51, 52, 53, 54, 55, 56, 57, 58, 59, 60, 61, 62, 63] (by decide +kernel) (by decide +kernel)
set_option maxRecDepth 20000 in
theorem gX7_undo_X7_isVisible : GoodIn wsX7_undo (wsV RX7 83 RX7 yX7_isVisible wsX7_isVisible) := goodIn_app (goodIn_of _ (by decide +kernel)) ggX7_undo_X7_isVisible
set_option maxRecDepth 20000 in
theorem ggX7_undo_X7_make : GoodIn wsX7_undo wsX7_make := goodIn_r _ [46, 2, 47, 30, 25, 10, 48, 49, 14, 15, 8, 16, 50, 51, 52, 53, 54, 55, 56, 57, 58, 59, 60, 61, 62, 63] (by decide +kernel) (by decide +kernel)
set_option maxRecDepth 20000 in
theorem gX7_undo_X7_make : GoodIn wsX7_undo (wsV RX7 102 RX7 yX7_make wsX7_make) := goodIn_app (goodIn_of _ (by decide +kernel)) ggX7_undo_X7_make
theorem dX7_undo_0 : decode cX7_undo 0 = .ok (.aload_n 0, 1) := by decide +kernel
theorem dX7_undo_1 : decode cX7_undo 1 = .ok (.iload_n 1, 1) := by decide +kernel
theorem dX7_undo_2 : decode cX7_undo 2 = .ok (.invokevirtual 54, 3) := by decide +kernel
theorem dX7_undo_5 : decode cX7_undo 5 = .ok (.ifCond .ne 6, 3) := by decide +kernel
theorem dX7_undo_8 : decode cX7_undo 8 = .ok (.ldc 89, 2) := by decide +kernel
theorem dX7_undo_10 : decode cX7_undo 10 = .ok (.ireturn, 1) := by decide +kernel
theorem dX7_undo_11 : decode cX7_undo 11 = .ok (.aload_n 0, 1) := by decide +kernel
theorem dX7_undo_12 : decode cX7_undo 12 = .ok (.getfield 17, 3) := by decide +kernel
theorem dX7_undo_15 : decode cX7_undo 15 = .ok (.iload_n 1, 1) := by decide +kernel
theorem dX7_undo_16 : decode cX7_undo 16 = .ok (.iaload, 1) := by decide +kernel
theorem dX7_undo_17 : decode cX7_undo 17 = .ok (.istore_n 2, 1) := by decide +kernel
theorem dX7_undo_18 : decode cX7_undo 18 = .ok (.iload_n 2, 1) := by decide +kernel
theorem dX7_undo_19 : decode cX7_undo 19 = .ok (.ifCond .le 22, 3) := by decide +kernel
theorem dX7_undo_22 : decode cX7_undo 22 = .ok (.aload_n 0, 1) := by decide +kernel
theorem dX7_undo_23 : decode cX7_undo 23 = .ok (.iload_n 1, 1) := by decide +kernel
theorem dX7_undo_24 : decode cX7_undo 24 = .ok (.iload_n 1, 1) := by decide +kernel
theorem dX7_undo_25 : decode cX7_undo 25 = .ok (.iload_n 2, 1) := by decide +kernel
theorem dX7_undo_26 : decode cX7_undo 26 = .ok (.invokestatic 62, 3) := by decide +kernel
theorem dX7_undo_29 : decode cX7_undo 29 = .ok (.invokevirtual 83, 3) := by decide +kernel
theorem dX7_undo_32 : decode cX7_undo 32 = .ok (.ifCond .ne 9, 3) := by decide +kernel
theorem dX7_undo_35 : decode cX7_undo 35 = .ok (.iinc 2 (-1), 3) := by decide +kernel
theorem dX7_undo_38 : decode cX7_undo 38 = .ok (.goto (-20), 3) := by decide +kernel
theorem dX7_undo_41 : decode cX7_undo 41 = .ok (.iload_n 2, 1) := by decide +kernel
theorem dX7_undo_42 : decode cX7_undo 42 = .ok (.ifCond .ne 6, 3) := by decide +kernel
theorem dX7_undo_45 : decode cX7_undo 45 = .ok (.ldc 101, 2) := by decide +kernel
theorem dX7_undo_47 : decode cX7_undo 47 = .ok (.ireturn, 1) := by decide +kernel
theorem dX7_undo_48 : decode cX7_undo 48 = .ok (.aload_n 0, 1) := by decide +kernel
theorem dX7_undo_49 : decode cX7_undo 49 = .ok (.getfield 17, 3) := by decide +kernel
theorem dX7_undo_52 : decode cX7_undo 52 = .ok (.iload_n 1, 1) := by decide +kernel
theorem dX7_undo_53 : decode cX7_undo 53 = .ok (.iaload, 1) := by decide +kernel
theorem dX7_undo_54 : decode cX7_undo 54 = .ok (.bipush 20, 2) := by decide +kernel
theorem dX7_undo_56 : decode cX7_undo 56 = .ok (.if_icmp .ne 6, 3) := by decide +kernel
theorem dX7_undo_59 : decode cX7_undo 59 = .ok (.ldc 94, 2) := by decide +kernel
theorem dX7_undo_61 : decode cX7_undo 61 = .ok (.ireturn, 1) := by decide +kernel
theorem dX7_undo_62 : decode cX7_undo 62 = .ok (.aload_n 0, 1) := by decide +kernel
theorem dX7_undo_63 : decode cX7_undo 63 = .ok (.iload_n 1, 1) := by decide +kernel
theorem dX7_undo_64 : decode cX7_undo 64 = .ok (.iconst 1, 1) := by decide +kernel
theorem dX7_undo_65 : decode cX7_undo 65 = .ok (.iload_n 1, 1) := by decide +kernel
theorem dX7_undo_66 : decode cX7_undo 66 = .ok (.iconst (-1), 1) := by decide +kernel
theorem dX7_undo_67 : decode cX7_undo 67 = .ok (.iload_n 2, 1) := by decide +kernel
theorem dX7_undo_68 : decode cX7_undo 68 = .ok (.invokevirtual 102, 3) := by decide +kernel
theorem dX7_undo_71 : decode cX7_undo 71 = .ok (.istore_n 3, 1) := by decide +kernel
theorem dX7_undo_72 : decode cX7_undo 72 = .ok (.iload_n 3, 1) := by decide +kernel
theorem dX7_undo_73 : decode cX7_undo 73 = .ok (.ifCond .le 7, 3) := by decide +kernel
theorem dX7_undo_76 : decode cX7_undo 76 = .ok (.iload_n 2, 1) := by decide +kernel
theorem dX7_undo_77 : decode cX7_undo 77 = .ok (.goto 4, 3) := by decide +kernel
theorem dX7_undo_80 : decode cX7_undo 80 = .ok (.iconst 0, 1) := by decide +kernel
theorem dX7_undo_81 : decode cX7_undo 81 = .ok (.ireturn, 1) := by decide +kernel
set_option maxRecDepth 20000 in
theorem ggX7_redo_X7_isSite : GoodIn wsX7_redo wsX7_isSite := goodIn_r _ [9, 10, 11, 12, 8, 13, 50, 51, 52, 53, 54, 55, 56, 57, 58, 59, 60, 61, 62, 63] (by decide +kernel) (by decide +kernel)
set_option maxRecDepth 20000 in
theorem gX7_redo_X7_isSite : GoodIn wsX7_redo (wsV RX7 54 RX7 yX7_isSite wsX7_isSite) := goodIn_app (goodIn_of _ (by decide +kernel)) ggX7_redo_X7_isSite
set_option maxRecDepth 20000 in
theorem ggX7_redo_X7_place : GoodIn wsX7_redo wsX7_place := goodIn_r _ [16] (by decide +kernel) (by decide +kernel)
set_option maxRecDepth 20000 in
theorem gX7_redo_X7_place : GoodIn wsX7_redo (va_wsS RX7 62 yX7_place wsX7_place) := goodIn_app (goodIn_of _ (by decide +kernel)) ggX7_redo_X7_place
set_option maxRecDepth 20000 in
theorem ggX7_redo_X7_of : GoodIn wsX7_redo wsX7_of := goodIn_r _ [20, 21, 50, 51, 52, 53, 54, 55, 56, 57, 58, 59, 60, 61, 62, 63] (by decide +kernel) (by decide +kernel)
set_option maxRecDepth 20000 in
theorem gX7_redo_X7_of : GoodIn wsX7_redo (wsV RX7 58 RX7 yX7_of wsX7_of) := goodIn_app (goodIn_of _ (by decide +kernel)) ggX7_redo_X7_of
set_option maxRecDepth 20000 in
theorem ggX7_redo_X7_aim : GoodIn wsX7_redo wsX7_aim := goodIn_r _ [25, 17, 18, 19, 8, 20, 21, 14, 15, 16, 50, 51, 52, 53, 54, 55, 56, 57, 58, 59, 60, 61, 62, 63] (by decide +kernel) (by decide +kernel)
set_option maxRecDepth 20000 in
theorem gX7_redo_X7_aim : GoodIn wsX7_redo (wsV RX7 69 RX7 yX7_aim wsX7_aim) := goodIn_app (goodIn_of _ (by decide +kernel)) ggX7_redo_X7_aim
set_option maxRecDepth 20000 in
theorem ggX7_redo_X7_isVisible : GoodIn wsX7_redo wsX7_isVisible := goodIn_r _ [29, 30, 31, 32, 8, 33, 34, 17, 18, 19, 20, 21, 35, 36, 37, 38, 11, 12, 13, 22, 23, 24, 25, 14, 15, 16, 39, 40, 41, 42, 50, 51, 52, 53, 54, 55, 56, 57, 58, 59, 60, 61, 62, 63] (by decide +kernel) (by decide +kernel)
set_option maxRecDepth 20000 in
theorem gX7_redo_X7_isVisible : GoodIn wsX7_redo (wsV RX7 83 RX7 yX7_isVisible wsX7_isVisible) := goodIn_app (goodIn_of _ (by decide +kernel)) ggX7_redo_X7_isVisible
set_option maxRecDepth 20000 in
theorem ggX7_redo_X7_make : GoodIn wsX7_redo wsX7_make := goodIn_r _ [46, 2, 47, 21, 34, 10, 48, 49, 14, 15, 8, 16, 50, 51, 52, 53, 54, 55, 56, 57, 58, 59, 60, 61, 62, 63] (by decide +kernel) (by decide +kernel)
set_option maxRecDepth 20000 in
theorem gX7_redo_X7_make : GoodIn wsX7_redo (wsV RX7 102 RX7 yX7_make wsX7_make) := goodIn_app (goodIn_of _ (by decide +kernel)) ggX7_redo_X7_make
theorem dX7_redo_0 : decode cX7_redo 0 = .ok (.aload_n 0, 1) := by decide +kernel
theorem dX7_redo_1 : decode cX7_redo 1 = .ok (.iload_n 1, 1) := by decide +kernel
theorem dX7_redo_2 : decode cX7_redo 2 = .ok (.invokevirtual 54, 3) := by decide +kernel
theorem dX7_redo_5 : decode cX7_redo 5 = .ok (.ifCond .ne 6, 3) := by decide +kernel
theorem dX7_redo_8 : decode cX7_redo 8 = .ok (.ldc 89, 2) := by decide +kernel
theorem dX7_redo_10 : decode cX7_redo 10 = .ok (.ireturn, 1) := by decide +kernel
theorem dX7_redo_11 : decode cX7_redo 11 = .ok (.iconst 0, 1) := by decide +kernel
theorem dX7_redo_12 : decode cX7_redo 12 = .ok (.istore_n 2, 1) := by decide +kernel
theorem dX7_redo_13 : decode cX7_redo 13 = .ok (.iconst 1, 1) := by decide +kernel
theorem dX7_redo_14 : decode cX7_redo 14 = .ok (.istore_n 3, 1) := by decide +kernel
theorem dX7_redo_15 : decode cX7_redo 15 = .ok (.iload_n 3, 1) := by decide +kernel
theorem dX7_redo_16 : decode cX7_redo 16 = .ok (.aload_n 0, 1) := by decide +kernel
theorem dX7_redo_17 : decode cX7_redo 17 = .ok (.getfield 17, 3) := by decide +kernel
theorem dX7_redo_20 : decode cX7_redo 20 = .ok (.iload_n 1, 1) := by decide +kernel
theorem dX7_redo_21 : decode cX7_redo 21 = .ok (.iaload, 1) := by decide +kernel
theorem dX7_redo_22 : decode cX7_redo 22 = .ok (.if_icmp .gt 65, 3) := by decide +kernel
theorem dX7_redo_25 : decode cX7_redo 25 = .ok (.iload_n 1, 1) := by decide +kernel
theorem dX7_redo_26 : decode cX7_redo 26 = .ok (.iload_n 3, 1) := by decide +kernel
theorem dX7_redo_27 : decode cX7_redo 27 = .ok (.invokestatic 62, 3) := by decide +kernel
theorem dX7_redo_30 : decode cX7_redo 30 = .ok (.istore 4, 2) := by decide +kernel
theorem dX7_redo_32 : decode cX7_redo 32 = .ok (.aload_n 0, 1) := by decide +kernel
theorem dX7_redo_33 : decode cX7_redo 33 = .ok (.iload 4, 2) := by decide +kernel
theorem dX7_redo_35 : decode cX7_redo 35 = .ok (.iconst 0, 1) := by decide +kernel
theorem dX7_redo_36 : decode cX7_redo 36 = .ok (.invokevirtual 58, 3) := by decide +kernel
theorem dX7_redo_39 : decode cX7_redo 39 = .ok (.iconst 1, 1) := by decide +kernel
theorem dX7_redo_40 : decode cX7_redo 40 = .ok (.if_icmp .ne 21, 3) := by decide +kernel
theorem dX7_redo_43 : decode cX7_redo 43 = .ok (.aload_n 0, 1) := by decide +kernel
theorem dX7_redo_44 : decode cX7_redo 44 = .ok (.iload_n 1, 1) := by decide +kernel
theorem dX7_redo_45 : decode cX7_redo 45 = .ok (.aload_n 0, 1) := by decide +kernel
theorem dX7_redo_46 : decode cX7_redo 46 = .ok (.iload 4, 2) := by decide +kernel
theorem dX7_redo_48 : decode cX7_redo 48 = .ok (.invokevirtual 69, 3) := by decide +kernel
theorem dX7_redo_51 : decode cX7_redo 51 = .ok (.invokevirtual 83, 3) := by decide +kernel
theorem dX7_redo_54 : decode cX7_redo 54 = .ok (.ifCond .ne 7, 3) := by decide +kernel
theorem dX7_redo_57 : decode cX7_redo 57 = .ok (.iconst 1, 1) := by decide +kernel
theorem dX7_redo_58 : decode cX7_redo 58 = .ok (.goto 4, 3) := by decide +kernel
theorem dX7_redo_61 : decode cX7_redo 61 = .ok (.iconst 0, 1) := by decide +kernel
theorem dX7_redo_62 : decode cX7_redo 62 = .ok (.istore 5, 2) := by decide +kernel
theorem dX7_redo_64 : decode cX7_redo 64 = .ok (.iload 5, 2) := by decide +kernel
theorem dX7_redo_66 : decode cX7_redo 66 = .ok (.ifCond .eq 13, 3) := by decide +kernel
theorem dX7_redo_69 : decode cX7_redo 69 = .ok (.aload_n 0, 1) := by decide +kernel
theorem dX7_redo_70 : decode cX7_redo 70 = .ok (.iload 4, 2) := by decide +kernel
theorem dX7_redo_72 : decode cX7_redo 72 = .ok (.iconst 4, 1) := by decide +kernel
theorem dX7_redo_73 : decode cX7_redo 73 = .ok (.invokevirtual 58, 3) := by decide +kernel
theorem dX7_redo_76 : decode cX7_redo 76 = .ok (.goto 4, 3) := by decide +kernel
theorem dX7_redo_79 : decode cX7_redo 79 = .ok (.iload_n 2, 1) := by decide +kernel
theorem dX7_redo_80 : decode cX7_redo 80 = .ok (.istore_n 2, 1) := by decide +kernel
theorem dX7_redo_81 : decode cX7_redo 81 = .ok (.iinc 3 1, 3) := by decide +kernel
theorem dX7_redo_84 : decode cX7_redo 84 = .ok (.goto (-69), 3) := by decide +kernel
theorem dX7_redo_87 : decode cX7_redo 87 = .ok (.iload_n 2, 1) := by decide +kernel
theorem dX7_redo_88 : decode cX7_redo 88 = .ok (.ifCond .ne 6, 3) := by decide +kernel
theorem dX7_redo_91 : decode cX7_redo 91 = .ok (.ldc 101, 2) := by decide +kernel
theorem dX7_redo_93 : decode cX7_redo 93 = .ok (.ireturn, 1) := by decide +kernel
theorem dX7_redo_94 : decode cX7_redo 94 = .ok (.aload_n 0, 1) := by decide +kernel
theorem dX7_redo_95 : decode cX7_redo 95 = .ok (.getfield 17, 3) := by decide +kernel
theorem dX7_redo_98 : decode cX7_redo 98 = .ok (.iload_n 1, 1) := by decide +kernel
theorem dX7_redo_99 : decode cX7_redo 99 = .ok (.iaload, 1) := by decide +kernel
theorem dX7_redo_100 : decode cX7_redo 100 = .ok (.bipush 20, 2) := by decide +kernel
theorem dX7_redo_102 : decode cX7_redo 102 = .ok (.if_icmp .ne 6, 3) := by decide +kernel
theorem dX7_redo_105 : decode cX7_redo 105 = .ok (.ldc 94, 2) := by decide +kernel
theorem dX7_redo_107 : decode cX7_redo 107 = .ok (.ireturn, 1) := by decide +kernel
theorem dX7_redo_108 : decode cX7_redo 108 = .ok (.aload_n 0, 1) := by decide +kernel
theorem dX7_redo_109 : decode cX7_redo 109 = .ok (.iload_n 1, 1) := by decide +kernel
theorem dX7_redo_110 : decode cX7_redo 110 = .ok (.iconst 2, 1) := by decide +kernel
theorem dX7_redo_111 : decode cX7_redo 111 = .ok (.iload_n 1, 1) := by decide +kernel
theorem dX7_redo_112 : decode cX7_redo 112 = .ok (.iconst (-1), 1) := by decide +kernel
theorem dX7_redo_113 : decode cX7_redo 113 = .ok (.iload_n 2, 1) := by decide +kernel
theorem dX7_redo_114 : decode cX7_redo 114 = .ok (.invokevirtual 102, 3) := by decide +kernel
theorem dX7_redo_117 : decode cX7_redo 117 = .ok (.istore_n 3, 1) := by decide +kernel
theorem dX7_redo_118 : decode cX7_redo 118 = .ok (.iload_n 3, 1) := by decide +kernel
theorem dX7_redo_119 : decode cX7_redo 119 = .ok (.ifCond .le 7, 3) := by decide +kernel
theorem dX7_redo_122 : decode cX7_redo 122 = .ok (.iload_n 2, 1) := by decide +kernel
theorem dX7_redo_123 : decode cX7_redo 123 = .ok (.goto 4, 3) := by decide +kernel
theorem dX7_redo_126 : decode cX7_redo 126 = .ok (.iconst 0, 1) := by decide +kernel
theorem dX7_redo_127 : decode cX7_redo 127 = .ok (.ireturn, 1) := by decide +kernel
set_option maxRecDepth 20000 in
theorem ggX7_lift_X7_isSite : GoodIn wsX7_lift wsX7_isSite := goodIn_r _ [11, 12, 13, 14, 10, 15, 61, 62, 63, 64, 65, 66, 67, 68, 69, 70, 71, 72, 73, 74] (by decide +kernel) (by decide +kernel)
set_option maxRecDepth 20000 in
theorem gX7_lift_X7_isSite : GoodIn wsX7_lift (wsV RX7 54 RX7 yX7_isSite wsX7_isSite) := goodIn_app (goodIn_of _ (by decide +kernel)) ggX7_lift_X7_isSite
set_option maxRecDepth 20000 in
theorem ggX7_lift_X7_in : GoodIn wsX7_lift wsX7_in := goodIn_r _ [15] (by decide +kernel) (by decide +kernel)
set_option maxRecDepth 20000 in
theorem gX7_lift_X7_in : GoodIn wsX7_lift (va_wsS RX7 50 yX7_in wsX7_in) := goodIn_app (goodIn_of _ (by decide +kernel)) ggX7_lift_X7_in
set_option maxRecDepth 20000 in
theorem ggX7_lift_X7_workOut : GoodIn wsX7_lift wsX7_workOut := goodIn_r _ [19, 2, 20, 6, 21, 22, 23, 10, 24, 25, 26, 27, 28, 29, 30, 31, 32, 33, 34, 35, 36, 37, 38, 13, 14, 15, 39, 40, 41, 42, 43, 44, 45, 46, 47, 48, 49, 50, 51, 52, 53, 61, 62, 63, 64, 65, 66, 67, 68, 69, 70, 71, 72, 73, 74] (by decide +kernel) (by decide +kernel)
set_option maxRecDepth 20000 in
theorem gX7_lift_X7_workOut : GoodIn wsX7_lift (wsV RX7 98 RX7 yX7_workOut wsX7_workOut) := goodIn_app (goodIn_of _ (by decide +kernel)) ggX7_lift_X7_workOut
set_option maxRecDepth 20000 in
theorem ggX7_lift_X7_make : GoodIn wsX7_lift wsX7_make := goodIn_r _ [57, 4, 58, 34, 29, 12, 59, 60, 43, 44, 10, 45, 61, 62, 63, 64, 65, 66, 67, 68, 69, 70, 71, 72, 73, 74] (by decide +kernel) (by decide +kernel)
set_option maxRecDepth 20000 in
theorem gX7_lift_X7_make : GoodIn wsX7_lift (wsV RX7 102 RX7 yX7_make wsX7_make) := goodIn_app (goodIn_of _ (by decide +kernel)) ggX7_lift_X7_make
theorem dX7_lift_0 : decode cX7_lift 0 = .ok (.aload_n 0, 1) := by decide +kernel
theorem dX7_lift_1 : decode cX7_lift 1 = .ok (.iload_n 1, 1) := by decide +kernel
theorem dX7_lift_2 : decode cX7_lift 2 = .ok (.invokevirtual 54, 3) := by decide +kernel
theorem dX7_lift_5 : decode cX7_lift 5 = .ok (.ifCond .eq 16, 3) := by decide +kernel
theorem dX7_lift_8 : decode cX7_lift 8 = .ok (.iload_n 2, 1) := by decide +kernel
theorem dX7_lift_9 : decode cX7_lift 9 = .ok (.ifCond .lt 12, 3) := by decide +kernel
theorem dX7_lift_12 : decode cX7_lift 12 = .ok (.iload_n 3, 1) := by decide +kernel
theorem dX7_lift_13 : decode cX7_lift 13 = .ok (.iconst 0, 1) := by decide +kernel
theorem dX7_lift_14 : decode cX7_lift 14 = .ok (.iconst 3, 1) := by decide +kernel
theorem dX7_lift_15 : decode cX7_lift 15 = .ok (.invokestatic 50, 3) := by decide +kernel
theorem dX7_lift_18 : decode cX7_lift 18 = .ok (.ifCond .ne 6, 3) := by decide +kernel
theorem dX7_lift_21 : decode cX7_lift 21 = .ok (.ldc 89, 2) := by decide +kernel
theorem dX7_lift_23 : decode cX7_lift 23 = .ok (.ireturn, 1) := by decide +kernel
theorem dX7_lift_24 : decode cX7_lift 24 = .ok (.aload_n 0, 1) := by decide +kernel
theorem dX7_lift_25 : decode cX7_lift 25 = .ok (.iload_n 1, 1) := by decide +kernel
theorem dX7_lift_26 : decode cX7_lift 26 = .ok (.invokevirtual 98, 3) := by decide +kernel
theorem dX7_lift_29 : decode cX7_lift 29 = .ok (.iload_n 2, 1) := by decide +kernel
theorem dX7_lift_30 : decode cX7_lift 30 = .ok (.aload_n 0, 1) := by decide +kernel
theorem dX7_lift_31 : decode cX7_lift 31 = .ok (.getfield 80, 3) := by decide +kernel
theorem dX7_lift_34 : decode cX7_lift 34 = .ok (.if_icmp .lt 6, 3) := by decide +kernel
theorem dX7_lift_37 : decode cX7_lift 37 = .ok (.ldc 101, 2) := by decide +kernel
theorem dX7_lift_39 : decode cX7_lift 39 = .ok (.ireturn, 1) := by decide +kernel
theorem dX7_lift_40 : decode cX7_lift 40 = .ok (.aload_n 0, 1) := by decide +kernel
theorem dX7_lift_41 : decode cX7_lift 41 = .ok (.getfield 17, 3) := by decide +kernel
theorem dX7_lift_44 : decode cX7_lift 44 = .ok (.iload_n 1, 1) := by decide +kernel
theorem dX7_lift_45 : decode cX7_lift 45 = .ok (.iaload, 1) := by decide +kernel
theorem dX7_lift_46 : decode cX7_lift 46 = .ok (.bipush 20, 2) := by decide +kernel
theorem dX7_lift_48 : decode cX7_lift 48 = .ok (.if_icmp .ne 6, 3) := by decide +kernel
theorem dX7_lift_51 : decode cX7_lift 51 = .ok (.ldc 94, 2) := by decide +kernel
theorem dX7_lift_53 : decode cX7_lift 53 = .ok (.ireturn, 1) := by decide +kernel
theorem dX7_lift_54 : decode cX7_lift 54 = .ok (.aload_n 0, 1) := by decide +kernel
theorem dX7_lift_55 : decode cX7_lift 55 = .ok (.iload_n 1, 1) := by decide +kernel
theorem dX7_lift_56 : decode cX7_lift 56 = .ok (.iconst 3, 1) := by decide +kernel
theorem dX7_lift_57 : decode cX7_lift 57 = .ok (.aload_n 0, 1) := by decide +kernel
theorem dX7_lift_58 : decode cX7_lift 58 = .ok (.getfield 35, 3) := by decide +kernel
theorem dX7_lift_61 : decode cX7_lift 61 = .ok (.iload_n 2, 1) := by decide +kernel
theorem dX7_lift_62 : decode cX7_lift 62 = .ok (.iaload, 1) := by decide +kernel
theorem dX7_lift_63 : decode cX7_lift 63 = .ok (.bipush 20, 2) := by decide +kernel
theorem dX7_lift_65 : decode cX7_lift 65 = .ok (.idiv, 1) := by decide +kernel
theorem dX7_lift_66 : decode cX7_lift 66 = .ok (.iload_n 3, 1) := by decide +kernel
theorem dX7_lift_67 : decode cX7_lift 67 = .ok (.aload_n 0, 1) := by decide +kernel
theorem dX7_lift_68 : decode cX7_lift 68 = .ok (.getfield 35, 3) := by decide +kernel
theorem dX7_lift_71 : decode cX7_lift 71 = .ok (.iload_n 2, 1) := by decide +kernel
theorem dX7_lift_72 : decode cX7_lift 72 = .ok (.iaload, 1) := by decide +kernel
theorem dX7_lift_73 : decode cX7_lift 73 = .ok (.bipush 20, 2) := by decide +kernel
theorem dX7_lift_75 : decode cX7_lift 75 = .ok (.irem, 1) := by decide +kernel
theorem dX7_lift_76 : decode cX7_lift 76 = .ok (.iconst 1, 1) := by decide +kernel
theorem dX7_lift_77 : decode cX7_lift 77 = .ok (.iadd, 1) := by decide +kernel
theorem dX7_lift_78 : decode cX7_lift 78 = .ok (.invokevirtual 102, 3) := by decide +kernel
theorem dX7_lift_81 : decode cX7_lift 81 = .ok (.ireturn, 1) := by decide +kernel
theorem dX7_take_0 : decode cX7_take 0 = .ok (.aload_n 0, 1) := by decide +kernel
theorem dX7_take_1 : decode cX7_take 1 = .ok (.getfield 29, 3) := by decide +kernel
theorem dX7_take_4 : decode cX7_take 4 = .ok (.bipush 10, 2) := by decide +kernel
theorem dX7_take_6 : decode cX7_take 6 = .ok (.iload_n 1, 1) := by decide +kernel
theorem dX7_take_7 : decode cX7_take 7 = .ok (.imul, 1) := by decide +kernel
theorem dX7_take_8 : decode cX7_take 8 = .ok (.iaload, 1) := by decide +kernel
theorem dX7_take_9 : decode cX7_take 9 = .ok (.istore_n 2, 1) := by decide +kernel
theorem dX7_take_10 : decode cX7_take 10 = .ok (.aload_n 0, 1) := by decide +kernel
theorem dX7_take_11 : decode cX7_take 11 = .ok (.getfield 32, 3) := by decide +kernel
theorem dX7_take_14 : decode cX7_take 14 = .ok (.iload_n 1, 1) := by decide +kernel
theorem dX7_take_15 : decode cX7_take 15 = .ok (.dup2, 1) := by decide +kernel
theorem dX7_take_16 : decode cX7_take 16 = .ok (.iaload, 1) := by decide +kernel
theorem dX7_take_17 : decode cX7_take 17 = .ok (.iconst 1, 1) := by decide +kernel
theorem dX7_take_18 : decode cX7_take 18 = .ok (.isub, 1) := by decide +kernel
theorem dX7_take_19 : decode cX7_take 19 = .ok (.iastore, 1) := by decide +kernel
theorem dX7_take_20 : decode cX7_take 20 = .ok (.iconst 0, 1) := by decide +kernel
theorem dX7_take_21 : decode cX7_take 21 = .ok (.istore_n 3, 1) := by decide +kernel
theorem dX7_take_22 : decode cX7_take 22 = .ok (.iload_n 3, 1) := by decide +kernel
theorem dX7_take_23 : decode cX7_take 23 = .ok (.aload_n 0, 1) := by decide +kernel
theorem dX7_take_24 : decode cX7_take 24 = .ok (.getfield 32, 3) := by decide +kernel
theorem dX7_take_27 : decode cX7_take 27 = .ok (.iload_n 1, 1) := by decide +kernel
theorem dX7_take_28 : decode cX7_take 28 = .ok (.iaload, 1) := by decide +kernel
theorem dX7_take_29 : decode cX7_take 29 = .ok (.if_icmp .ge 33, 3) := by decide +kernel
theorem dX7_take_32 : decode cX7_take 32 = .ok (.aload_n 0, 1) := by decide +kernel
theorem dX7_take_33 : decode cX7_take 33 = .ok (.getfield 29, 3) := by decide +kernel
theorem dX7_take_36 : decode cX7_take 36 = .ok (.bipush 10, 2) := by decide +kernel
theorem dX7_take_38 : decode cX7_take 38 = .ok (.iload_n 1, 1) := by decide +kernel
theorem dX7_take_39 : decode cX7_take 39 = .ok (.imul, 1) := by decide +kernel
theorem dX7_take_40 : decode cX7_take 40 = .ok (.iload_n 3, 1) := by decide +kernel
theorem dX7_take_41 : decode cX7_take 41 = .ok (.iadd, 1) := by decide +kernel
theorem dX7_take_42 : decode cX7_take 42 = .ok (.aload_n 0, 1) := by decide +kernel
theorem dX7_take_43 : decode cX7_take 43 = .ok (.getfield 29, 3) := by decide +kernel
theorem dX7_take_46 : decode cX7_take 46 = .ok (.bipush 10, 2) := by decide +kernel
theorem dX7_take_48 : decode cX7_take 48 = .ok (.iload_n 1, 1) := by decide +kernel
theorem dX7_take_49 : decode cX7_take 49 = .ok (.imul, 1) := by decide +kernel
theorem dX7_take_50 : decode cX7_take 50 = .ok (.iload_n 3, 1) := by decide +kernel
theorem dX7_take_51 : decode cX7_take 51 = .ok (.iadd, 1) := by decide +kernel
theorem dX7_take_52 : decode cX7_take 52 = .ok (.iconst 1, 1) := by decide +kernel
theorem dX7_take_53 : decode cX7_take 53 = .ok (.iadd, 1) := by decide +kernel
theorem dX7_take_54 : decode cX7_take 54 = .ok (.iaload, 1) := by decide +kernel
theorem dX7_take_55 : decode cX7_take 55 = .ok (.iastore, 1) := by decide +kernel
theorem dX7_take_56 : decode cX7_take 56 = .ok (.iinc 3 1, 3) := by decide +kernel
theorem dX7_take_59 : decode cX7_take 59 = .ok (.goto (-37), 3) := by decide +kernel
theorem dX7_take_62 : decode cX7_take 62 = .ok (.iload_n 2, 1) := by decide +kernel
theorem dX7_take_63 : decode cX7_take 63 = .ok (.ireturn, 1) := by decide +kernel
set_option maxRecDepth 20000 in
theorem ggX7_deliver_X7_isPair : GoodIn wsX7_deliver wsX7_isPair := goodIn_r _ [8, 9, 10, 11, 7, 12, 13, 14, 15, 16, 36, 37, 38, 39, 40, 41, 42, 43, 44, 45, 46, 47, 48, 49] (by decide +kernel) (by decide +kernel)
set_option maxRecDepth 20000 in
theorem gX7_deliver_X7_isPair : GoodIn wsX7_deliver (wsV RX7 106 RX7 yX7_isPair wsX7_isPair) := goodIn_app (goodIn_of _ (by decide +kernel)) ggX7_deliver_X7_isPair
set_option maxRecDepth 20000 in
theorem ggX7_deliver_X7_take : GoodIn wsX7_deliver wsX7_take := goodIn_r _ [20, 21, 2, 36, 37, 38, 39, 40, 41, 42, 43, 44, 45, 46, 47, 48, 49] (by decide +kernel) (by decide +kernel)
set_option maxRecDepth 20000 in
theorem gX7_deliver_X7_take : GoodIn wsX7_deliver (wsV RX7 110 RX7 yX7_take wsX7_take) := goodIn_app (goodIn_of _ (by decide +kernel)) ggX7_deliver_X7_take
set_option maxRecDepth 20000 in
theorem ggX7_deliver_X7_place : GoodIn wsX7_deliver wsX7_place := goodIn_r _ [24] (by decide +kernel) (by decide +kernel)
set_option maxRecDepth 20000 in
theorem gX7_deliver_X7_place : GoodIn wsX7_deliver (va_wsS RX7 62 yX7_place wsX7_place) := goodIn_app (goodIn_of _ (by decide +kernel)) ggX7_deliver_X7_place
set_option maxRecDepth 20000 in
theorem ggX7_deliver_X7_learns : GoodIn wsX7_deliver wsX7_learns := goodIn_r _ [28, 29, 30, 31, 32, 33, 7, 34, 35, 36, 37, 38, 39, 40, 41, 42, 43, 44, 45, 46, 47, 48, 49] (by decide +kernel) (by decide +kernel)
set_option maxRecDepth 20000 in
theorem gX7_deliver_X7_learns : GoodIn wsX7_deliver (wsV RX7 113 RX7 yX7_learns wsX7_learns) := goodIn_app (goodIn_of _ (by decide +kernel)) ggX7_deliver_X7_learns
theorem dX7_deliver_0 : decode cX7_deliver 0 = .ok (.aload_n 0, 1) := by decide +kernel
theorem dX7_deliver_1 : decode cX7_deliver 1 = .ok (.iload_n 1, 1) := by decide +kernel
theorem dX7_deliver_2 : decode cX7_deliver 2 = .ok (.iload_n 2, 1) := by decide +kernel
theorem dX7_deliver_3 : decode cX7_deliver 3 = .ok (.invokevirtual 106, 3) := by decide +kernel
theorem dX7_deliver_6 : decode cX7_deliver 6 = .ok (.ifCond .ne 6, 3) := by decide +kernel
theorem dX7_deliver_9 : decode cX7_deliver 9 = .ok (.ldc 89, 2) := by decide +kernel
theorem dX7_deliver_11 : decode cX7_deliver 11 = .ok (.ireturn, 1) := by decide +kernel
theorem dX7_deliver_12 : decode cX7_deliver 12 = .ok (.iconst 5, 1) := by decide +kernel
theorem dX7_deliver_13 : decode cX7_deliver 13 = .ok (.iload_n 1, 1) := by decide +kernel
theorem dX7_deliver_14 : decode cX7_deliver 14 = .ok (.imul, 1) := by decide +kernel
theorem dX7_deliver_15 : decode cX7_deliver 15 = .ok (.iload_n 2, 1) := by decide +kernel
theorem dX7_deliver_16 : decode cX7_deliver 16 = .ok (.iadd, 1) := by decide +kernel
theorem dX7_deliver_17 : decode cX7_deliver 17 = .ok (.istore_n 3, 1) := by decide +kernel
theorem dX7_deliver_18 : decode cX7_deliver 18 = .ok (.aload_n 0, 1) := by decide +kernel
theorem dX7_deliver_19 : decode cX7_deliver 19 = .ok (.getfield 32, 3) := by decide +kernel
theorem dX7_deliver_22 : decode cX7_deliver 22 = .ok (.iload_n 3, 1) := by decide +kernel
theorem dX7_deliver_23 : decode cX7_deliver 23 = .ok (.iaload, 1) := by decide +kernel
theorem dX7_deliver_24 : decode cX7_deliver 24 = .ok (.ifCond .ne 6, 3) := by decide +kernel
theorem dX7_deliver_27 : decode cX7_deliver 27 = .ok (.ldc 109, 2) := by decide +kernel
theorem dX7_deliver_29 : decode cX7_deliver 29 = .ok (.ireturn, 1) := by decide +kernel
theorem dX7_deliver_30 : decode cX7_deliver 30 = .ok (.aload_n 0, 1) := by decide +kernel
theorem dX7_deliver_31 : decode cX7_deliver 31 = .ok (.iload_n 3, 1) := by decide +kernel
theorem dX7_deliver_32 : decode cX7_deliver 32 = .ok (.invokevirtual 110, 3) := by decide +kernel
theorem dX7_deliver_35 : decode cX7_deliver 35 = .ok (.istore 4, 2) := by decide +kernel
theorem dX7_deliver_37 : decode cX7_deliver 37 = .ok (.aload_n 0, 1) := by decide +kernel
theorem dX7_deliver_38 : decode cX7_deliver 38 = .ok (.iload_n 2, 1) := by decide +kernel
theorem dX7_deliver_39 : decode cX7_deliver 39 = .ok (.iload_n 1, 1) := by decide +kernel
theorem dX7_deliver_40 : decode cX7_deliver 40 = .ok (.iload 4, 2) := by decide +kernel
theorem dX7_deliver_42 : decode cX7_deliver 42 = .ok (.invokestatic 62, 3) := by decide +kernel
theorem dX7_deliver_45 : decode cX7_deliver 45 = .ok (.invokevirtual 113, 3) := by decide +kernel
theorem dX7_deliver_48 : decode cX7_deliver 48 = .ok (.bipush 100, 2) := by decide +kernel
theorem dX7_deliver_50 : decode cX7_deliver 50 = .ok (.iload_n 1, 1) := by decide +kernel
theorem dX7_deliver_51 : decode cX7_deliver 51 = .ok (.imul, 1) := by decide +kernel
theorem dX7_deliver_52 : decode cX7_deliver 52 = .ok (.iload 4, 2) := by decide +kernel
theorem dX7_deliver_54 : decode cX7_deliver 54 = .ok (.iadd, 1) := by decide +kernel
theorem dX7_deliver_55 : decode cX7_deliver 55 = .ok (.ireturn, 1) := by decide +kernel
set_option maxRecDepth 20000 in
theorem ggX7_lose_X7_isPair : GoodIn wsX7_lose wsX7_isPair := goodIn_r _ [8, 9, 10, 11, 7, 12, 13, 14, 15, 16, 22, 23, 24, 25, 26, 27, 28, 29, 30, 31, 32, 33, 34, 35] (by decide +kernel) (by decide +kernel)
set_option maxRecDepth 20000 in
theorem gX7_lose_X7_isPair : GoodIn wsX7_lose (wsV RX7 106 RX7 yX7_isPair wsX7_isPair) := goodIn_app (goodIn_of _ (by decide +kernel)) ggX7_lose_X7_isPair
set_option maxRecDepth 20000 in
theorem ggX7_lose_X7_take : GoodIn wsX7_lose wsX7_take := goodIn_r _ [20, 21, 2, 22, 23, 24, 25, 26, 27, 28, 29, 30, 31, 32, 33, 34, 35] (by decide +kernel) (by decide +kernel)
set_option maxRecDepth 20000 in
theorem gX7_lose_X7_take : GoodIn wsX7_lose (wsV RX7 110 RX7 yX7_take wsX7_take) := goodIn_app (goodIn_of _ (by decide +kernel)) ggX7_lose_X7_take
theorem dX7_lose_0 : decode cX7_lose 0 = .ok (.aload_n 0, 1) := by decide +kernel
theorem dX7_lose_1 : decode cX7_lose 1 = .ok (.iload_n 1, 1) := by decide +kernel
theorem dX7_lose_2 : decode cX7_lose 2 = .ok (.iload_n 2, 1) := by decide +kernel
theorem dX7_lose_3 : decode cX7_lose 3 = .ok (.invokevirtual 106, 3) := by decide +kernel
theorem dX7_lose_6 : decode cX7_lose 6 = .ok (.ifCond .ne 6, 3) := by decide +kernel
theorem dX7_lose_9 : decode cX7_lose 9 = .ok (.ldc 89, 2) := by decide +kernel
theorem dX7_lose_11 : decode cX7_lose 11 = .ok (.ireturn, 1) := by decide +kernel
theorem dX7_lose_12 : decode cX7_lose 12 = .ok (.iconst 5, 1) := by decide +kernel
theorem dX7_lose_13 : decode cX7_lose 13 = .ok (.iload_n 1, 1) := by decide +kernel
theorem dX7_lose_14 : decode cX7_lose 14 = .ok (.imul, 1) := by decide +kernel
theorem dX7_lose_15 : decode cX7_lose 15 = .ok (.iload_n 2, 1) := by decide +kernel
theorem dX7_lose_16 : decode cX7_lose 16 = .ok (.iadd, 1) := by decide +kernel
theorem dX7_lose_17 : decode cX7_lose 17 = .ok (.istore_n 3, 1) := by decide +kernel
theorem dX7_lose_18 : decode cX7_lose 18 = .ok (.aload_n 0, 1) := by decide +kernel
theorem dX7_lose_19 : decode cX7_lose 19 = .ok (.getfield 32, 3) := by decide +kernel
theorem dX7_lose_22 : decode cX7_lose 22 = .ok (.iload_n 3, 1) := by decide +kernel
theorem dX7_lose_23 : decode cX7_lose 23 = .ok (.iaload, 1) := by decide +kernel
theorem dX7_lose_24 : decode cX7_lose 24 = .ok (.ifCond .ne 6, 3) := by decide +kernel
theorem dX7_lose_27 : decode cX7_lose 27 = .ok (.ldc 109, 2) := by decide +kernel
theorem dX7_lose_29 : decode cX7_lose 29 = .ok (.ireturn, 1) := by decide +kernel
theorem dX7_lose_30 : decode cX7_lose 30 = .ok (.aload_n 0, 1) := by decide +kernel
theorem dX7_lose_31 : decode cX7_lose 31 = .ok (.iload_n 3, 1) := by decide +kernel
theorem dX7_lose_32 : decode cX7_lose 32 = .ok (.invokevirtual 110, 3) := by decide +kernel
theorem dX7_lose_35 : decode cX7_lose 35 = .ok (.istore 4, 2) := by decide +kernel
theorem dX7_lose_37 : decode cX7_lose 37 = .ok (.aload_n 0, 1) := by decide +kernel
theorem dX7_lose_38 : decode cX7_lose 38 = .ok (.getfield 32, 3) := by decide +kernel
theorem dX7_lose_41 : decode cX7_lose 41 = .ok (.iload_n 3, 1) := by decide +kernel
theorem dX7_lose_42 : decode cX7_lose 42 = .ok (.iaload, 1) := by decide +kernel
theorem dX7_lose_43 : decode cX7_lose 43 = .ok (.ireturn, 1) := by decide +kernel
set_option maxRecDepth 20000 in
theorem ggX7_deliverAll_X7_take : GoodIn wsX7_deliverAll wsX7_take := goodIn_r _ [6, 7, 1, 22, 23, 24, 25, 26, 27, 28, 29, 30, 31, 32, 33, 34, 35] (by decide +kernel) (by decide +kernel)
set_option maxRecDepth 20000 in
theorem gX7_deliverAll_X7_take : GoodIn wsX7_deliverAll (wsV RX7 110 RX7 yX7_take wsX7_take) := goodIn_app (goodIn_of _ (by decide +kernel)) ggX7_deliverAll_X7_take
set_option maxRecDepth 20000 in
theorem ggX7_deliverAll_X7_place : GoodIn wsX7_deliverAll wsX7_place := goodIn_r _ [10] (by decide +kernel) (by decide +kernel)
set_option maxRecDepth 20000 in
theorem gX7_deliverAll_X7_place : GoodIn wsX7_deliverAll (va_wsS RX7 62 yX7_place wsX7_place) := goodIn_app (goodIn_of _ (by decide +kernel)) ggX7_deliverAll_X7_place
set_option maxRecDepth 20000 in
theorem ggX7_deliverAll_X7_learns : GoodIn wsX7_deliverAll wsX7_learns := goodIn_r _ [14, 15, 16, 17, 18, 19, 5, 20, 21, 22, 23, 24, 25, 26, 27, 28, 29, 30, 31, 32, 33, 34, 35] (by decide +kernel) (by decide +kernel)
set_option maxRecDepth 20000 in
theorem gX7_deliverAll_X7_learns : GoodIn wsX7_deliverAll (wsV RX7 113 RX7 yX7_learns wsX7_learns) := goodIn_app (goodIn_of _ (by decide +kernel)) ggX7_deliverAll_X7_learns
theorem dX7_deliverAll_0 : decode cX7_deliverAll 0 = .ok (.iconst 0, 1) := by decide +kernel
theorem dX7_deliverAll_1 : decode cX7_deliverAll 1 = .ok (.istore_n 1, 1) := by decide +kernel
theorem dX7_deliverAll_2 : decode cX7_deliverAll 2 = .ok (.iconst 0, 1) := by decide +kernel
theorem dX7_deliverAll_3 : decode cX7_deliverAll 3 = .ok (.istore_n 2, 1) := by decide +kernel
theorem dX7_deliverAll_4 : decode cX7_deliverAll 4 = .ok (.iload_n 2, 1) := by decide +kernel
theorem dX7_deliverAll_5 : decode cX7_deliverAll 5 = .ok (.bipush 25, 2) := by decide +kernel
theorem dX7_deliverAll_7 : decode cX7_deliverAll 7 = .ok (.if_icmp .ge 42, 3) := by decide +kernel
theorem dX7_deliverAll_10 : decode cX7_deliverAll 10 = .ok (.aload_n 0, 1) := by decide +kernel
theorem dX7_deliverAll_11 : decode cX7_deliverAll 11 = .ok (.getfield 32, 3) := by decide +kernel
theorem dX7_deliverAll_14 : decode cX7_deliverAll 14 = .ok (.iload_n 2, 1) := by decide +kernel
theorem dX7_deliverAll_15 : decode cX7_deliverAll 15 = .ok (.iaload, 1) := by decide +kernel
theorem dX7_deliverAll_16 : decode cX7_deliverAll 16 = .ok (.ifCond .le 27, 3) := by decide +kernel
theorem dX7_deliverAll_19 : decode cX7_deliverAll 19 = .ok (.aload_n 0, 1) := by decide +kernel
theorem dX7_deliverAll_20 : decode cX7_deliverAll 20 = .ok (.iload_n 2, 1) := by decide +kernel
theorem dX7_deliverAll_21 : decode cX7_deliverAll 21 = .ok (.iconst 5, 1) := by decide +kernel
theorem dX7_deliverAll_22 : decode cX7_deliverAll 22 = .ok (.irem, 1) := by decide +kernel
theorem dX7_deliverAll_23 : decode cX7_deliverAll 23 = .ok (.iload_n 2, 1) := by decide +kernel
theorem dX7_deliverAll_24 : decode cX7_deliverAll 24 = .ok (.iconst 5, 1) := by decide +kernel
theorem dX7_deliverAll_25 : decode cX7_deliverAll 25 = .ok (.idiv, 1) := by decide +kernel
theorem dX7_deliverAll_26 : decode cX7_deliverAll 26 = .ok (.aload_n 0, 1) := by decide +kernel
theorem dX7_deliverAll_27 : decode cX7_deliverAll 27 = .ok (.iload_n 2, 1) := by decide +kernel
theorem dX7_deliverAll_28 : decode cX7_deliverAll 28 = .ok (.invokevirtual 110, 3) := by decide +kernel
theorem dX7_deliverAll_31 : decode cX7_deliverAll 31 = .ok (.invokestatic 62, 3) := by decide +kernel
theorem dX7_deliverAll_34 : decode cX7_deliverAll 34 = .ok (.invokevirtual 113, 3) := by decide +kernel
theorem dX7_deliverAll_37 : decode cX7_deliverAll 37 = .ok (.iinc 1 1, 3) := by decide +kernel
theorem dX7_deliverAll_40 : decode cX7_deliverAll 40 = .ok (.goto (-30), 3) := by decide +kernel
theorem dX7_deliverAll_43 : decode cX7_deliverAll 43 = .ok (.iinc 2 1, 3) := by decide +kernel
theorem dX7_deliverAll_46 : decode cX7_deliverAll 46 = .ok (.goto (-42), 3) := by decide +kernel
theorem dX7_deliverAll_49 : decode cX7_deliverAll 49 = .ok (.iload_n 1, 1) := by decide +kernel
theorem dX7_deliverAll_50 : decode cX7_deliverAll 50 = .ok (.ireturn, 1) := by decide +kernel
set_option maxRecDepth 20000 in
theorem ggX7_waiting_X7_isPair : GoodIn wsX7_waiting wsX7_isPair := goodIn_r _ [7, 8, 9, 10, 6, 11, 12, 13, 14, 15, 16, 17, 18, 19, 20, 21, 22, 23, 24, 25, 26, 27, 28, 29] (by decide +kernel) (by decide +kernel)
set_option maxRecDepth 20000 in
theorem gX7_waiting_X7_isPair : GoodIn wsX7_waiting (wsV RX7 106 RX7 yX7_isPair wsX7_isPair) := goodIn_app (goodIn_of _ (by decide +kernel)) ggX7_waiting_X7_isPair
theorem dX7_waiting_0 : decode cX7_waiting 0 = .ok (.aload_n 0, 1) := by decide +kernel
theorem dX7_waiting_1 : decode cX7_waiting 1 = .ok (.iload_n 1, 1) := by decide +kernel
theorem dX7_waiting_2 : decode cX7_waiting 2 = .ok (.iload_n 2, 1) := by decide +kernel
theorem dX7_waiting_3 : decode cX7_waiting 3 = .ok (.invokevirtual 106, 3) := by decide +kernel
theorem dX7_waiting_6 : decode cX7_waiting 6 = .ok (.ifCond .eq 16, 3) := by decide +kernel
theorem dX7_waiting_9 : decode cX7_waiting 9 = .ok (.aload_n 0, 1) := by decide +kernel
theorem dX7_waiting_10 : decode cX7_waiting 10 = .ok (.getfield 32, 3) := by decide +kernel
theorem dX7_waiting_13 : decode cX7_waiting 13 = .ok (.iconst 5, 1) := by decide +kernel
theorem dX7_waiting_14 : decode cX7_waiting 14 = .ok (.iload_n 1, 1) := by decide +kernel
theorem dX7_waiting_15 : decode cX7_waiting 15 = .ok (.imul, 1) := by decide +kernel
theorem dX7_waiting_16 : decode cX7_waiting 16 = .ok (.iload_n 2, 1) := by decide +kernel
theorem dX7_waiting_17 : decode cX7_waiting 17 = .ok (.iadd, 1) := by decide +kernel
theorem dX7_waiting_18 : decode cX7_waiting 18 = .ok (.iaload, 1) := by decide +kernel
theorem dX7_waiting_19 : decode cX7_waiting 19 = .ok (.goto 5, 3) := by decide +kernel
theorem dX7_waiting_22 : decode cX7_waiting 22 = .ok (.ldc 89, 2) := by decide +kernel
theorem dX7_waiting_24 : decode cX7_waiting 24 = .ok (.ireturn, 1) := by decide +kernel
set_option maxRecDepth 20000 in
theorem ggX7_greatest_X7_place : GoodIn wsX7_greatest wsX7_place := goodIn_r _ [5] (by decide +kernel) (by decide +kernel)
set_option maxRecDepth 20000 in
theorem gX7_greatest_X7_place : GoodIn wsX7_greatest (va_wsS RX7 62 yX7_place wsX7_place) := goodIn_app (goodIn_of _ (by decide +kernel)) ggX7_greatest_X7_place
set_option maxRecDepth 20000 in
theorem ggX7_greatest_X7_doesKnow : GoodIn wsX7_greatest wsX7_doesKnow := goodIn_r _ [9, 10, 11, 12, 13, 14, 15, 16, 17, 18, 19, 20, 21, 22, 23, 24] (by decide +kernel) (by decide +kernel)
set_option maxRecDepth 20000 in
theorem gX7_greatest_X7_doesKnow : GoodIn wsX7_greatest (wsV RX7 65 RX7 yX7_doesKnow wsX7_doesKnow) := goodIn_app (goodIn_of _ (by decide +kernel)) ggX7_greatest_X7_doesKnow
theorem dX7_greatest_0 : decode cX7_greatest 0 = .ok (.iconst 0, 1) := by decide +kernel
theorem dX7_greatest_1 : decode cX7_greatest 1 = .ok (.istore_n 3, 1) := by decide +kernel
theorem dX7_greatest_2 : decode cX7_greatest 2 = .ok (.iconst 1, 1) := by decide +kernel
theorem dX7_greatest_3 : decode cX7_greatest 3 = .ok (.istore 4, 2) := by decide +kernel
theorem dX7_greatest_5 : decode cX7_greatest 5 = .ok (.iload 4, 2) := by decide +kernel
theorem dX7_greatest_7 : decode cX7_greatest 7 = .ok (.aload_n 0, 1) := by decide +kernel
theorem dX7_greatest_8 : decode cX7_greatest 8 = .ok (.getfield 17, 3) := by decide +kernel
theorem dX7_greatest_11 : decode cX7_greatest 11 = .ok (.iload_n 2, 1) := by decide +kernel
theorem dX7_greatest_12 : decode cX7_greatest 12 = .ok (.iaload, 1) := by decide +kernel
theorem dX7_greatest_13 : decode cX7_greatest 13 = .ok (.if_icmp .gt 30, 3) := by decide +kernel
theorem dX7_greatest_16 : decode cX7_greatest 16 = .ok (.aload_n 0, 1) := by decide +kernel
theorem dX7_greatest_17 : decode cX7_greatest 17 = .ok (.iload_n 1, 1) := by decide +kernel
theorem dX7_greatest_18 : decode cX7_greatest 18 = .ok (.iload_n 2, 1) := by decide +kernel
theorem dX7_greatest_19 : decode cX7_greatest 19 = .ok (.iload 4, 2) := by decide +kernel
theorem dX7_greatest_21 : decode cX7_greatest 21 = .ok (.invokestatic 62, 3) := by decide +kernel
theorem dX7_greatest_24 : decode cX7_greatest 24 = .ok (.invokevirtual 65, 3) := by decide +kernel
theorem dX7_greatest_27 : decode cX7_greatest 27 = .ok (.ifCond .eq 8, 3) := by decide +kernel
theorem dX7_greatest_30 : decode cX7_greatest 30 = .ok (.iload 4, 2) := by decide +kernel
theorem dX7_greatest_32 : decode cX7_greatest 32 = .ok (.goto 4, 3) := by decide +kernel
theorem dX7_greatest_35 : decode cX7_greatest 35 = .ok (.iload_n 3, 1) := by decide +kernel
theorem dX7_greatest_36 : decode cX7_greatest 36 = .ok (.istore_n 3, 1) := by decide +kernel
theorem dX7_greatest_37 : decode cX7_greatest 37 = .ok (.iinc 4 1, 3) := by decide +kernel
theorem dX7_greatest_40 : decode cX7_greatest 40 = .ok (.goto (-35), 3) := by decide +kernel
theorem dX7_greatest_43 : decode cX7_greatest 43 = .ok (.iload_n 3, 1) := by decide +kernel
theorem dX7_greatest_44 : decode cX7_greatest 44 = .ok (.ireturn, 1) := by decide +kernel
set_option maxRecDepth 20000 in
theorem ggX7_gap_X7_isSite : GoodIn wsX7_gap wsX7_isSite := goodIn_r _ [7, 8, 9, 10, 6, 11, 25, 26, 27, 28, 29, 30, 31, 32, 33, 34, 35, 36, 37, 38] (by decide +kernel) (by decide +kernel)
set_option maxRecDepth 20000 in
theorem gX7_gap_X7_isSite : GoodIn wsX7_gap (wsV RX7 54 RX7 yX7_isSite wsX7_isSite) := goodIn_app (goodIn_of _ (by decide +kernel)) ggX7_gap_X7_isSite
set_option maxRecDepth 20000 in
theorem ggX7_gap_X7_greatest : GoodIn wsX7_gap wsX7_greatest := goodIn_r _ [15, 16, 17, 18, 6, 19, 20, 21, 22, 23, 24, 25, 26, 27, 28, 29, 30, 31, 32, 33, 34, 35, 36, 37, 38] (by decide +kernel) (by decide +kernel)
set_option maxRecDepth 20000 in
theorem gX7_gap_X7_greatest : GoodIn wsX7_gap (wsV RX7 117 RX7 yX7_greatest wsX7_greatest) := goodIn_app (goodIn_of _ (by decide +kernel)) ggX7_gap_X7_greatest
set_option maxRecDepth 20000 in
theorem ggX7_gap_X7_place : GoodIn wsX7_gap wsX7_place := goodIn_r _ [19] (by decide +kernel) (by decide +kernel)
set_option maxRecDepth 20000 in
theorem gX7_gap_X7_place : GoodIn wsX7_gap (va_wsS RX7 62 yX7_place wsX7_place) := goodIn_app (goodIn_of _ (by decide +kernel)) ggX7_gap_X7_place
set_option maxRecDepth 20000 in
theorem ggX7_gap_X7_doesKnow : GoodIn wsX7_gap wsX7_doesKnow := goodIn_r _ [23, 24, 25, 26, 27, 28, 29, 30, 31, 32, 33, 34, 35, 36, 37, 38] (by decide +kernel) (by decide +kernel)
set_option maxRecDepth 20000 in
theorem gX7_gap_X7_doesKnow : GoodIn wsX7_gap (wsV RX7 65 RX7 yX7_doesKnow wsX7_doesKnow) := goodIn_app (goodIn_of _ (by decide +kernel)) ggX7_gap_X7_doesKnow
theorem dX7_gap_0 : decode cX7_gap 0 = .ok (.aload_n 0, 1) := by decide +kernel
theorem dX7_gap_1 : decode cX7_gap 1 = .ok (.iload_n 1, 1) := by decide +kernel
theorem dX7_gap_2 : decode cX7_gap 2 = .ok (.invokevirtual 54, 3) := by decide +kernel
theorem dX7_gap_5 : decode cX7_gap 5 = .ok (.ifCond .eq 15, 3) := by decide +kernel
theorem dX7_gap_8 : decode cX7_gap 8 = .ok (.aload_n 0, 1) := by decide +kernel
theorem dX7_gap_9 : decode cX7_gap 9 = .ok (.iload_n 2, 1) := by decide +kernel
theorem dX7_gap_10 : decode cX7_gap 10 = .ok (.invokevirtual 54, 3) := by decide +kernel
theorem dX7_gap_13 : decode cX7_gap 13 = .ok (.ifCond .eq 7, 3) := by decide +kernel
theorem dX7_gap_16 : decode cX7_gap 16 = .ok (.iload_n 3, 1) := by decide +kernel
theorem dX7_gap_17 : decode cX7_gap 17 = .ok (.ifCond .ge 6, 3) := by decide +kernel
theorem dX7_gap_20 : decode cX7_gap 20 = .ok (.ldc 89, 2) := by decide +kernel
theorem dX7_gap_22 : decode cX7_gap 22 = .ok (.ireturn, 1) := by decide +kernel
theorem dX7_gap_23 : decode cX7_gap 23 = .ok (.aload_n 0, 1) := by decide +kernel
theorem dX7_gap_24 : decode cX7_gap 24 = .ok (.iload_n 1, 1) := by decide +kernel
theorem dX7_gap_25 : decode cX7_gap 25 = .ok (.iload_n 2, 1) := by decide +kernel
theorem dX7_gap_26 : decode cX7_gap 26 = .ok (.invokevirtual 117, 3) := by decide +kernel
theorem dX7_gap_29 : decode cX7_gap 29 = .ok (.istore 4, 2) := by decide +kernel
theorem dX7_gap_31 : decode cX7_gap 31 = .ok (.iconst 0, 1) := by decide +kernel
theorem dX7_gap_32 : decode cX7_gap 32 = .ok (.istore 5, 2) := by decide +kernel
theorem dX7_gap_34 : decode cX7_gap 34 = .ok (.iconst 1, 1) := by decide +kernel
theorem dX7_gap_35 : decode cX7_gap 35 = .ok (.istore 6, 2) := by decide +kernel
theorem dX7_gap_37 : decode cX7_gap 37 = .ok (.iload 6, 2) := by decide +kernel
theorem dX7_gap_39 : decode cX7_gap 39 = .ok (.iload 4, 2) := by decide +kernel
theorem dX7_gap_41 : decode cX7_gap 41 = .ok (.if_icmp .gt 115, 3) := by decide +kernel
theorem dX7_gap_44 : decode cX7_gap 44 = .ok (.aload_n 0, 1) := by decide +kernel
theorem dX7_gap_45 : decode cX7_gap 45 = .ok (.iload_n 1, 1) := by decide +kernel
theorem dX7_gap_46 : decode cX7_gap 46 = .ok (.iload_n 2, 1) := by decide +kernel
theorem dX7_gap_47 : decode cX7_gap 47 = .ok (.iload 6, 2) := by decide +kernel
theorem dX7_gap_49 : decode cX7_gap 49 = .ok (.invokestatic 62, 3) := by decide +kernel
theorem dX7_gap_52 : decode cX7_gap 52 = .ok (.invokevirtual 65, 3) := by decide +kernel
theorem dX7_gap_55 : decode cX7_gap 55 = .ok (.ifCond .ne 29, 3) := by decide +kernel
theorem dX7_gap_58 : decode cX7_gap 58 = .ok (.iload 6, 2) := by decide +kernel
theorem dX7_gap_60 : decode cX7_gap 60 = .ok (.iconst 1, 1) := by decide +kernel
theorem dX7_gap_61 : decode cX7_gap 61 = .ok (.if_icmp .eq 19, 3) := by decide +kernel
theorem dX7_gap_64 : decode cX7_gap 64 = .ok (.aload_n 0, 1) := by decide +kernel
theorem dX7_gap_65 : decode cX7_gap 65 = .ok (.iload_n 1, 1) := by decide +kernel
theorem dX7_gap_66 : decode cX7_gap 66 = .ok (.iload_n 2, 1) := by decide +kernel
theorem dX7_gap_67 : decode cX7_gap 67 = .ok (.iload 6, 2) := by decide +kernel
theorem dX7_gap_69 : decode cX7_gap 69 = .ok (.iconst 1, 1) := by decide +kernel
theorem dX7_gap_70 : decode cX7_gap 70 = .ok (.isub, 1) := by decide +kernel
theorem dX7_gap_71 : decode cX7_gap 71 = .ok (.invokestatic 62, 3) := by decide +kernel
theorem dX7_gap_74 : decode cX7_gap 74 = .ok (.invokevirtual 65, 3) := by decide +kernel
theorem dX7_gap_77 : decode cX7_gap 77 = .ok (.ifCond .eq 7, 3) := by decide +kernel
theorem dX7_gap_80 : decode cX7_gap 80 = .ok (.iconst 1, 1) := by decide +kernel
theorem dX7_gap_81 : decode cX7_gap 81 = .ok (.goto 4, 3) := by decide +kernel
theorem dX7_gap_84 : decode cX7_gap 84 = .ok (.iconst 0, 1) := by decide +kernel
theorem dX7_gap_85 : decode cX7_gap 85 = .ok (.istore 7, 2) := by decide +kernel
theorem dX7_gap_87 : decode cX7_gap 87 = .ok (.iload 5, 2) := by decide +kernel
theorem dX7_gap_89 : decode cX7_gap 89 = .ok (.iload 7, 2) := by decide +kernel
theorem dX7_gap_91 : decode cX7_gap 91 = .ok (.ifCond .eq 7, 3) := by decide +kernel
theorem dX7_gap_94 : decode cX7_gap 94 = .ok (.iconst 1, 1) := by decide +kernel
theorem dX7_gap_95 : decode cX7_gap 95 = .ok (.goto 4, 3) := by decide +kernel
theorem dX7_gap_98 : decode cX7_gap 98 = .ok (.iconst 0, 1) := by decide +kernel
theorem dX7_gap_99 : decode cX7_gap 99 = .ok (.iadd, 1) := by decide +kernel
theorem dX7_gap_100 : decode cX7_gap 100 = .ok (.istore 5, 2) := by decide +kernel
theorem dX7_gap_102 : decode cX7_gap 102 = .ok (.iload 7, 2) := by decide +kernel
theorem dX7_gap_104 : decode cX7_gap 104 = .ok (.ifCond .eq 46, 3) := by decide +kernel
theorem dX7_gap_107 : decode cX7_gap 107 = .ok (.iload 5, 2) := by decide +kernel
theorem dX7_gap_109 : decode cX7_gap 109 = .ok (.iload_n 3, 1) := by decide +kernel
theorem dX7_gap_110 : decode cX7_gap 110 = .ok (.iconst 1, 1) := by decide +kernel
theorem dX7_gap_111 : decode cX7_gap 111 = .ok (.iadd, 1) := by decide +kernel
theorem dX7_gap_112 : decode cX7_gap 112 = .ok (.if_icmp .ne 38, 3) := by decide +kernel
theorem dX7_gap_115 : decode cX7_gap 115 = .ok (.iload 6, 2) := by decide +kernel
theorem dX7_gap_117 : decode cX7_gap 117 = .ok (.istore 8, 2) := by decide +kernel
theorem dX7_gap_119 : decode cX7_gap 119 = .ok (.aload_n 0, 1) := by decide +kernel
theorem dX7_gap_120 : decode cX7_gap 120 = .ok (.iload_n 1, 1) := by decide +kernel
theorem dX7_gap_121 : decode cX7_gap 121 = .ok (.iload_n 2, 1) := by decide +kernel
theorem dX7_gap_122 : decode cX7_gap 122 = .ok (.iload 8, 2) := by decide +kernel
theorem dX7_gap_124 : decode cX7_gap 124 = .ok (.iconst 1, 1) := by decide +kernel
theorem dX7_gap_125 : decode cX7_gap 125 = .ok (.iadd, 1) := by decide +kernel
theorem dX7_gap_126 : decode cX7_gap 126 = .ok (.invokestatic 62, 3) := by decide +kernel
theorem dX7_gap_129 : decode cX7_gap 129 = .ok (.invokevirtual 65, 3) := by decide +kernel
theorem dX7_gap_132 : decode cX7_gap 132 = .ok (.ifCond .ne 9, 3) := by decide +kernel
theorem dX7_gap_135 : decode cX7_gap 135 = .ok (.iinc 8 1, 3) := by decide +kernel
theorem dX7_gap_138 : decode cX7_gap 138 = .ok (.goto (-19), 3) := by decide +kernel
theorem dX7_gap_141 : decode cX7_gap 141 = .ok (.bipush 100, 2) := by decide +kernel
theorem dX7_gap_143 : decode cX7_gap 143 = .ok (.iload 6, 2) := by decide +kernel
theorem dX7_gap_145 : decode cX7_gap 145 = .ok (.imul, 1) := by decide +kernel
theorem dX7_gap_146 : decode cX7_gap 146 = .ok (.iload 8, 2) := by decide +kernel
theorem dX7_gap_148 : decode cX7_gap 148 = .ok (.iadd, 1) := by decide +kernel
theorem dX7_gap_149 : decode cX7_gap 149 = .ok (.ireturn, 1) := by decide +kernel
theorem dX7_gap_150 : decode cX7_gap 150 = .ok (.iinc 6 1, 3) := by decide +kernel
theorem dX7_gap_153 : decode cX7_gap 153 = .ok (.goto (-116), 3) := by decide +kernel
theorem dX7_gap_156 : decode cX7_gap 156 = .ok (.ldc 109, 2) := by decide +kernel
theorem dX7_gap_158 : decode cX7_gap 158 = .ok (.ireturn, 1) := by decide +kernel
set_option maxRecDepth 20000 in
theorem ggX7_isGiven_X7_doesKnow : GoodIn wsX7_isGiven wsX7_doesKnow := goodIn_r _ [5, 6, 15, 16, 17, 18, 19, 20, 21, 22, 23, 24, 25, 26, 27, 28] (by decide +kernel) (by decide +kernel)
set_option maxRecDepth 20000 in
theorem gX7_isGiven_X7_doesKnow : GoodIn wsX7_isGiven (wsV RX7 65 RX7 yX7_doesKnow wsX7_doesKnow) := goodIn_app (goodIn_of _ (by decide +kernel)) ggX7_isGiven_X7_doesKnow
set_option maxRecDepth 20000 in
theorem ggX7_isGiven_X7_greatest : GoodIn wsX7_isGiven wsX7_greatest := goodIn_r _ [10, 11, 12, 13, 4, 14, 1, 2, 3, 5, 6, 15, 16, 17, 18, 19, 20, 21, 22, 23, 24, 25, 26, 27, 28] (by decide +kernel) (by decide +kernel)
set_option maxRecDepth 20000 in
theorem gX7_isGiven_X7_greatest : GoodIn wsX7_isGiven (wsV RX7 117 RX7 yX7_greatest wsX7_greatest) := goodIn_app (goodIn_of _ (by decide +kernel)) ggX7_isGiven_X7_greatest
theorem dX7_isGiven_0 : decode cX7_isGiven 0 = .ok (.aload_n 0, 1) := by decide +kernel
theorem dX7_isGiven_1 : decode cX7_isGiven 1 = .ok (.iload_n 1, 1) := by decide +kernel
theorem dX7_isGiven_2 : decode cX7_isGiven 2 = .ok (.iload_n 3, 1) := by decide +kernel
theorem dX7_isGiven_3 : decode cX7_isGiven 3 = .ok (.invokevirtual 65, 3) := by decide +kernel
theorem dX7_isGiven_6 : decode cX7_isGiven 6 = .ok (.ifCond .ne 34, 3) := by decide +kernel
theorem dX7_isGiven_9 : decode cX7_isGiven 9 = .ok (.aload_n 0, 1) := by decide +kernel
theorem dX7_isGiven_10 : decode cX7_isGiven 10 = .ok (.iload_n 2, 1) := by decide +kernel
theorem dX7_isGiven_11 : decode cX7_isGiven 11 = .ok (.iload_n 3, 1) := by decide +kernel
theorem dX7_isGiven_12 : decode cX7_isGiven 12 = .ok (.invokevirtual 65, 3) := by decide +kernel
theorem dX7_isGiven_15 : decode cX7_isGiven 15 = .ok (.ifCond .eq 25, 3) := by decide +kernel
theorem dX7_isGiven_18 : decode cX7_isGiven 18 = .ok (.iload_n 3, 1) := by decide +kernel
theorem dX7_isGiven_19 : decode cX7_isGiven 19 = .ok (.bipush 20, 2) := by decide +kernel
theorem dX7_isGiven_21 : decode cX7_isGiven 21 = .ok (.irem, 1) := by decide +kernel
theorem dX7_isGiven_22 : decode cX7_isGiven 22 = .ok (.iconst 1, 1) := by decide +kernel
theorem dX7_isGiven_23 : decode cX7_isGiven 23 = .ok (.iadd, 1) := by decide +kernel
theorem dX7_isGiven_24 : decode cX7_isGiven 24 = .ok (.aload_n 0, 1) := by decide +kernel
theorem dX7_isGiven_25 : decode cX7_isGiven 25 = .ok (.iload_n 1, 1) := by decide +kernel
theorem dX7_isGiven_26 : decode cX7_isGiven 26 = .ok (.iload_n 3, 1) := by decide +kernel
theorem dX7_isGiven_27 : decode cX7_isGiven 27 = .ok (.bipush 20, 2) := by decide +kernel
theorem dX7_isGiven_29 : decode cX7_isGiven 29 = .ok (.idiv, 1) := by decide +kernel
theorem dX7_isGiven_30 : decode cX7_isGiven 30 = .ok (.invokevirtual 117, 3) := by decide +kernel
theorem dX7_isGiven_33 : decode cX7_isGiven 33 = .ok (.if_icmp .ge 7, 3) := by decide +kernel
theorem dX7_isGiven_36 : decode cX7_isGiven 36 = .ok (.iconst 1, 1) := by decide +kernel
theorem dX7_isGiven_37 : decode cX7_isGiven 37 = .ok (.goto 4, 3) := by decide +kernel
theorem dX7_isGiven_40 : decode cX7_isGiven 40 = .ok (.iconst 0, 1) := by decide +kernel
theorem dX7_isGiven_41 : decode cX7_isGiven 41 = .ok (.ireturn, 1) := by decide +kernel
set_option maxRecDepth 20000 in
theorem ggX7_givenMany_X7_isGiven : GoodIn wsX7_givenMany wsX7_isGiven := goodIn_r _ [5, 6, 7, 8, 4, 9, 10, 11, 12, 13, 14, 15, 16, 17, 18, 19, 20, 21, 22, 23, 24, 25, 26, 27, 28, 29, 30, 31, 32] (by decide +kernel) (by decide +kernel)
set_option maxRecDepth 20000 in
theorem gX7_givenMany_X7_isGiven : GoodIn wsX7_givenMany (wsV RX7 120 RX7 yX7_isGiven wsX7_isGiven) := goodIn_app (goodIn_of _ (by decide +kernel)) ggX7_givenMany_X7_isGiven
theorem dX7_givenMany_0 : decode cX7_givenMany 0 = .ok (.iconst 0, 1) := by decide +kernel
theorem dX7_givenMany_1 : decode cX7_givenMany 1 = .ok (.istore_n 3, 1) := by decide +kernel
theorem dX7_givenMany_2 : decode cX7_givenMany 2 = .ok (.iconst 0, 1) := by decide +kernel
theorem dX7_givenMany_3 : decode cX7_givenMany 3 = .ok (.istore 4, 2) := by decide +kernel
theorem dX7_givenMany_5 : decode cX7_givenMany 5 = .ok (.iload 4, 2) := by decide +kernel
theorem dX7_givenMany_7 : decode cX7_givenMany 7 = .ok (.bipush 100, 2) := by decide +kernel
theorem dX7_givenMany_9 : decode cX7_givenMany 9 = .ok (.if_icmp .ge 28, 3) := by decide +kernel
theorem dX7_givenMany_12 : decode cX7_givenMany 12 = .ok (.iload_n 3, 1) := by decide +kernel
theorem dX7_givenMany_13 : decode cX7_givenMany 13 = .ok (.aload_n 0, 1) := by decide +kernel
theorem dX7_givenMany_14 : decode cX7_givenMany 14 = .ok (.iload_n 1, 1) := by decide +kernel
theorem dX7_givenMany_15 : decode cX7_givenMany 15 = .ok (.iload_n 2, 1) := by decide +kernel
theorem dX7_givenMany_16 : decode cX7_givenMany 16 = .ok (.iload 4, 2) := by decide +kernel
theorem dX7_givenMany_18 : decode cX7_givenMany 18 = .ok (.invokevirtual 120, 3) := by decide +kernel
theorem dX7_givenMany_21 : decode cX7_givenMany 21 = .ok (.ifCond .eq 7, 3) := by decide +kernel
theorem dX7_givenMany_24 : decode cX7_givenMany 24 = .ok (.iconst 1, 1) := by decide +kernel
theorem dX7_givenMany_25 : decode cX7_givenMany 25 = .ok (.goto 4, 3) := by decide +kernel
theorem dX7_givenMany_28 : decode cX7_givenMany 28 = .ok (.iconst 0, 1) := by decide +kernel
theorem dX7_givenMany_29 : decode cX7_givenMany 29 = .ok (.iadd, 1) := by decide +kernel
theorem dX7_givenMany_30 : decode cX7_givenMany 30 = .ok (.istore_n 3, 1) := by decide +kernel
theorem dX7_givenMany_31 : decode cX7_givenMany 31 = .ok (.iinc 4 1, 3) := by decide +kernel
theorem dX7_givenMany_34 : decode cX7_givenMany 34 = .ok (.goto (-29), 3) := by decide +kernel
theorem dX7_givenMany_37 : decode cX7_givenMany 37 = .ok (.iload_n 3, 1) := by decide +kernel
theorem dX7_givenMany_38 : decode cX7_givenMany 38 = .ok (.ireturn, 1) := by decide +kernel
set_option maxRecDepth 20000 in
theorem ggX7_repair_X7_isPair : GoodIn wsX7_repair wsX7_isPair := goodIn_r _ [6, 7, 8, 9, 5, 10, 11, 12, 13, 14, 42, 43, 44, 45, 46, 47, 48, 49, 50, 51, 52, 53, 54, 55] (by decide +kernel) (by decide +kernel)
set_option maxRecDepth 20000 in
theorem gX7_repair_X7_isPair : GoodIn wsX7_repair (wsV RX7 106 RX7 yX7_isPair wsX7_isPair) := goodIn_app (goodIn_of _ (by decide +kernel)) ggX7_repair_X7_isPair
set_option maxRecDepth 20000 in
theorem ggX7_repair_X7_isGiven : GoodIn wsX7_repair wsX7_isGiven := goodIn_r _ [18, 19, 20, 21, 5, 22, 23, 24, 25, 26, 27, 28, 29, 30, 31, 42, 43, 44, 45, 46, 47, 48, 49, 50, 51, 52, 53, 54, 55] (by decide +kernel) (by decide +kernel)
set_option maxRecDepth 20000 in
theorem gX7_repair_X7_isGiven : GoodIn wsX7_repair (wsV RX7 120 RX7 yX7_isGiven wsX7_isGiven) := goodIn_app (goodIn_of _ (by decide +kernel)) ggX7_repair_X7_isGiven
set_option maxRecDepth 20000 in
theorem ggX7_repair_X7_learns : GoodIn wsX7_repair wsX7_learns := goodIn_r _ [35, 23, 36, 37, 38, 39, 5, 40, 41, 42, 43, 44, 45, 46, 47, 48, 49, 50, 51, 52, 53, 54, 55] (by decide +kernel) (by decide +kernel)

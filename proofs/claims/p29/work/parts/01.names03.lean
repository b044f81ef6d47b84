theorem dX6_knows_10 : decode cX6_knows 10 = .ok (.invokevirtual 78, 3) := by decide +kernel
theorem dX6_knows_13 : decode cX6_knows 13 = .ok (.ifCond .eq 8, 3) := by decide +kernel
theorem dX6_knows_16 : decode cX6_knows 16 = .ok (.iload_n 3, 1) := by decide +kernel
theorem dX6_knows_17 : decode cX6_knows 17 = .ok (.iconst 1, 1) := by decide +kernel
theorem dX6_knows_18 : decode cX6_knows 18 = .ok (.if_icmp .ge 6, 3) := by decide +kernel
theorem dX6_knows_21 : decode cX6_knows 21 = .ok (.ldc 67, 2) := by decide +kernel
theorem dX6_knows_23 : decode cX6_knows 23 = .ok (.ireturn, 1) := by decide +kernel
theorem dX6_knows_24 : decode cX6_knows 24 = .ok (.iload_n 3, 1) := by decide +kernel
theorem dX6_knows_25 : decode cX6_knows 25 = .ok (.aload_n 0, 1) := by decide +kernel
theorem dX6_knows_26 : decode cX6_knows 26 = .ok (.getfield 12, 3) := by decide +kernel
theorem dX6_knows_29 : decode cX6_knows 29 = .ok (.iload_n 2, 1) := by decide +kernel
theorem dX6_knows_30 : decode cX6_knows 30 = .ok (.invokevirtual 89, 3) := by decide +kernel
theorem dX6_knows_33 : decode cX6_knows 33 = .ok (.if_icmp .le 6, 3) := by decide +kernel
theorem dX6_knows_36 : decode cX6_knows 36 = .ok (.ldc 162, 2) := by decide +kernel
theorem dX6_knows_38 : decode cX6_knows 38 = .ok (.ireturn, 1) := by decide +kernel
theorem dX6_knows_39 : decode cX6_knows 39 = .ok (.aload_n 0, 1) := by decide +kernel
theorem dX6_knows_40 : decode cX6_knows 40 = .ok (.getfield 28, 3) := by decide +kernel
theorem dX6_knows_43 : decode cX6_knows 43 = .ok (.iload_n 1, 1) := by decide +kernel
theorem dX6_knows_44 : decode cX6_knows 44 = .ok (.iload_n 2, 1) := by decide +kernel
theorem dX6_knows_45 : decode cX6_knows 45 = .ok (.iload_n 3, 1) := by decide +kernel
theorem dX6_knows_46 : decode cX6_knows 46 = .ok (.invokestatic 178, 3) := by decide +kernel
theorem dX6_knows_49 : decode cX6_knows 49 = .ok (.invokevirtual 181, 3) := by decide +kernel
theorem dX6_knows_52 : decode cX6_knows 52 = .ok (.ifCond .eq 7, 3) := by decide +kernel
theorem dX6_knows_55 : decode cX6_knows 55 = .ok (.iconst 1, 1) := by decide +kernel
theorem dX6_knows_56 : decode cX6_knows 56 = .ok (.goto 4, 3) := by decide +kernel
theorem dX6_knows_59 : decode cX6_knows 59 = .ok (.iconst 0, 1) := by decide +kernel
theorem dX6_knows_60 : decode cX6_knows 60 = .ok (.ireturn, 1) := by decide +kernel
set_option maxRecDepth 20000 in
theorem ggX6_stroke_X6_isWithin : GoodIn wsX6_stroke wsX6_isWithin := goodIn_r _ [9] (by decide +kernel) (by decide +kernel)
set_option maxRecDepth 20000 in
theorem gX6_stroke_X6_isWithin : GoodIn wsX6_stroke (va_wsS RX6 63 yX6_isWithin wsX6_isWithin) := goodIn_app (goodIn_of _ (by decide +kernel)) ggX6_stroke_X6_isWithin
set_option maxRecDepth 20000 in
theorem ggX6_stroke_X6_isSite : GoodIn wsX6_stroke wsX6_isSite := goodIn_r _ [13, 14, 6, 7, 8, 9, 141, 142, 143, 144, 145, 146, 147, 148, 149] (by decide +kernel) (by decide +kernel)
set_option maxRecDepth 20000 in
theorem gX6_stroke_X6_isSite : GoodIn wsX6_stroke (wsV RX6 78 RX6 yX6_isSite wsX6_isSite) := goodIn_app (goodIn_of _ (by decide +kernel)) ggX6_stroke_X6_isSite
set_option maxRecDepth 20000 in
theorem ggX6_stroke_X0_show : GoodIn wsX6_stroke wsX0_show := goodIn_r _ [19, 20, 21, 22, 23, 24, 25, 26, 27, 28, 29, 30, 31, 32, 33, 34, 35, 36, 37, 38, 39, 40, 41, 42, 43, 44, 45, 46, 47, 48, 49, 50, 51, 52, 53, 54, 55, 56, 57, 58, 18, 59, 60, 61, 62, 63, 64, 65, 66, 67, 68, 69, 70, 71, 72, 73, 74, 75, 76, 77, 78, 79, 80, 81, 82, 83, 84, 85, 86, 87, 88, 89, 90, 91, 92, 150, 151, 152, 153, 154, 155, 156, 157, 158, 159, 160, 161, 162, 163] (by decide +kernel) (by decide +kernel)
set_option maxRecDepth 20000 in
theorem gX6_stroke_X0_show : GoodIn wsX6_stroke (wsV RX6 92 RX0 yX0_show wsX0_show) := goodIn_app (goodIn_of _ (by decide +kernel)) ggX6_stroke_X0_show
set_option maxRecDepth 20000 in
theorem ggX6_stroke_X0_strokeCount : GoodIn wsX6_stroke wsX0_strokeCount := goodIn_r _ [96, 22, 150, 151, 152, 153] (by decide +kernel) (by decide +kernel)
set_option maxRecDepth 20000 in
theorem gX6_stroke_X0_strokeCount : GoodIn wsX6_stroke (wsV RX6 96 RX0 yX0_strokeCount wsX0_strokeCount) := goodIn_app (goodIn_of _ (by decide +kernel)) ggX6_stroke_X0_strokeCount
set_option maxRecDepth 20000 in
theorem ggX6_stroke_X0_strokeIn : GoodIn wsX6_stroke wsX0_strokeIn := goodIn_r _ [100, 83, 88, 40, 41, 32, 42, 34, 150, 151, 152, 153, 162] (by decide +kernel) (by decide +kernel)
set_option maxRecDepth 20000 in
theorem gX6_stroke_X0_strokeIn : GoodIn wsX6_stroke (wsV RX6 148 RX0 yX0_strokeIn wsX0_strokeIn) := goodIn_app (goodIn_of _ (by decide +kernel)) ggX6_stroke_X0_strokeIn
set_option maxRecDepth 20000 in
theorem ggX6_stroke_X6_coordinate : GoodIn wsX6_stroke wsX6_coordinate := goodIn_r _ [104, 3, 5, 105, 106, 107, 108, 109, 110, 111, 40, 41, 32, 42, 34, 112, 113, 114, 115, 116, 117, 118, 119, 120, 121, 141, 142, 143, 144, 145, 146, 147, 148, 149, 154, 155, 156, 157, 158, 159, 160, 161, 164, 165, 166, 167, 168, 162] (by decide +kernel) (by decide +kernel)
set_option maxRecDepth 20000 in
theorem gX6_stroke_X6_coordinate : GoodIn wsX6_stroke (wsV RX6 216 RX6 yX6_coordinate wsX6_coordinate) := goodIn_app (goodIn_of _ (by decide +kernel)) ggX6_stroke_X6_coordinate
set_option maxRecDepth 20000 in
theorem ggX6_stroke_X6_strokeValue : GoodIn wsX6_stroke wsX6_strokeValue := goodIn_r _ [125, 2, 3, 126, 127, 8, 128, 129, 130, 131, 132, 133, 134, 18, 135, 21, 88, 40, 41, 32, 42, 34, 136, 137, 138, 108, 139, 140, 111, 105, 106, 107, 109, 110, 141, 142, 143, 144, 145, 146, 147, 148, 149, 154, 155, 156, 157, 158, 159, 160, 161, 150, 151, 152, 153, 162, 164, 165, 166, 167, 168] (by decide +kernel) (by decide +kernel)
set_option maxRecDepth 20000 in
theorem gX6_stroke_X6_strokeValue : GoodIn wsX6_stroke (wsV RX6 219 RX6 yX6_strokeValue wsX6_strokeValue) := goodIn_app (goodIn_of _ (by decide +kernel)) ggX6_stroke_X6_strokeValue
theorem dX6_stroke_0 : decode cX6_stroke 0 = .ok (.iload_n 3, 1) := by decide +kernel
theorem dX6_stroke_1 : decode cX6_stroke 1 = .ok (.bipush 10, 2) := by decide +kernel
theorem dX6_stroke_3 : decode cX6_stroke 3 = .ok (.bipush 25, 2) := by decide +kernel
theorem dX6_stroke_5 : decode cX6_stroke 5 = .ok (.invokestatic 63, 3) := by decide +kernel
theorem dX6_stroke_8 : decode cX6_stroke 8 = .ok (.istore 4, 2) := by decide +kernel
theorem dX6_stroke_10 : decode cX6_stroke 10 = .ok (.aload_n 0, 1) := by decide +kernel
theorem dX6_stroke_11 : decode cX6_stroke 11 = .ok (.iload_n 1, 1) := by decide +kernel
theorem dX6_stroke_12 : decode cX6_stroke 12 = .ok (.invokevirtual 78, 3) := by decide +kernel
theorem dX6_stroke_15 : decode cX6_stroke 15 = .ok (.ifCond .eq 21, 3) := by decide +kernel
theorem dX6_stroke_18 : decode cX6_stroke 18 = .ok (.iload_n 2, 1) := by decide +kernel
theorem dX6_stroke_19 : decode cX6_stroke 19 = .ok (.ifCond .lt 17, 3) := by decide +kernel
theorem dX6_stroke_22 : decode cX6_stroke 22 = .ok (.iload 4, 2) := by decide +kernel
theorem dX6_stroke_24 : decode cX6_stroke 24 = .ok (.ifCond .ne 15, 3) := by decide +kernel
theorem dX6_stroke_27 : decode cX6_stroke 27 = .ok (.iload_n 3, 1) := by decide +kernel
theorem dX6_stroke_28 : decode cX6_stroke 28 = .ok (.iconst 0, 1) := by decide +kernel
theorem dX6_stroke_29 : decode cX6_stroke 29 = .ok (.iconst 4, 1) := by decide +kernel
theorem dX6_stroke_30 : decode cX6_stroke 30 = .ok (.invokestatic 63, 3) := by decide +kernel
theorem dX6_stroke_33 : decode cX6_stroke 33 = .ok (.ifCond .ne 6, 3) := by decide +kernel
theorem dX6_stroke_36 : decode cX6_stroke 36 = .ok (.ldc 67, 2) := by decide +kernel
theorem dX6_stroke_38 : decode cX6_stroke 38 = .ok (.ireturn, 1) := by decide +kernel
theorem dX6_stroke_39 : decode cX6_stroke 39 = .ok (.aload_n 0, 1) := by decide +kernel
theorem dX6_stroke_40 : decode cX6_stroke 40 = .ok (.getfield 45, 3) := by decide +kernel
theorem dX6_stroke_43 : decode cX6_stroke 43 = .ok (.aload_n 0, 1) := by decide +kernel
theorem dX6_stroke_44 : decode cX6_stroke 44 = .ok (.getfield 12, 3) := by decide +kernel
theorem dX6_stroke_47 : decode cX6_stroke 47 = .ok (.aload_n 0, 1) := by decide +kernel
theorem dX6_stroke_48 : decode cX6_stroke 48 = .ok (.getfield 28, 3) := by decide +kernel
theorem dX6_stroke_51 : decode cX6_stroke 51 = .ok (.iload_n 1, 1) := by decide +kernel
theorem dX6_stroke_52 : decode cX6_stroke 52 = .ok (.invokevirtual 92, 3) := by decide +kernel
theorem dX6_stroke_55 : decode cX6_stroke 55 = .ok (.iload_n 2, 1) := by decide +kernel
theorem dX6_stroke_56 : decode cX6_stroke 56 = .ok (.aload_n 0, 1) := by decide +kernel
theorem dX6_stroke_57 : decode cX6_stroke 57 = .ok (.getfield 45, 3) := by decide +kernel
theorem dX6_stroke_60 : decode cX6_stroke 60 = .ok (.invokevirtual 96, 3) := by decide +kernel
theorem dX6_stroke_63 : decode cX6_stroke 63 = .ok (.if_icmp .lt 6, 3) := by decide +kernel
theorem dX6_stroke_66 : decode cX6_stroke 66 = .ok (.ldc 162, 2) := by decide +kernel
theorem dX6_stroke_68 : decode cX6_stroke 68 = .ok (.ireturn, 1) := by decide +kernel
theorem dX6_stroke_69 : decode cX6_stroke 69 = .ok (.aload_n 0, 1) := by decide +kernel
theorem dX6_stroke_70 : decode cX6_stroke 70 = .ok (.getfield 45, 3) := by decide +kernel
theorem dX6_stroke_73 : decode cX6_stroke 73 = .ok (.iload_n 2, 1) := by decide +kernel
theorem dX6_stroke_74 : decode cX6_stroke 74 = .ok (.invokevirtual 148, 3) := by decide +kernel
theorem dX6_stroke_77 : decode cX6_stroke 77 = .ok (.istore 5, 2) := by decide +kernel
theorem dX6_stroke_79 : decode cX6_stroke 79 = .ok (.iload 4, 2) := by decide +kernel
theorem dX6_stroke_81 : decode cX6_stroke 81 = .ok (.ifCond .eq 16, 3) := by decide +kernel
theorem dX6_stroke_84 : decode cX6_stroke 84 = .ok (.aload_n 0, 1) := by decide +kernel
theorem dX6_stroke_85 : decode cX6_stroke 85 = .ok (.iload 5, 2) := by decide +kernel
theorem dX6_stroke_87 : decode cX6_stroke 87 = .ok (.iload_n 3, 1) := by decide +kernel
theorem dX6_stroke_88 : decode cX6_stroke 88 = .ok (.bipush 10, 2) := by decide +kernel
theorem dX6_stroke_90 : decode cX6_stroke 90 = .ok (.isub, 1) := by decide +kernel
theorem dX6_stroke_91 : decode cX6_stroke 91 = .ok (.invokevirtual 216, 3) := by decide +kernel
theorem dX6_stroke_94 : decode cX6_stroke 94 = .ok (.goto 10, 3) := by decide +kernel
theorem dX6_stroke_97 : decode cX6_stroke 97 = .ok (.aload_n 0, 1) := by decide +kernel
theorem dX6_stroke_98 : decode cX6_stroke 98 = .ok (.iload 5, 2) := by decide +kernel
theorem dX6_stroke_100 : decode cX6_stroke 100 = .ok (.iload_n 3, 1) := by decide +kernel
theorem dX6_stroke_101 : decode cX6_stroke 101 = .ok (.invokevirtual 219, 3) := by decide +kernel
theorem dX6_stroke_104 : decode cX6_stroke 104 = .ok (.ireturn, 1) := by decide +kernel
set_option maxRecDepth 20000 in
theorem ggX6_strokeAt_X6_isSite : GoodIn wsX6_strokeAt wsX6_isSite := goodIn_r _ [10, 11, 12, 13, 9, 14, 118, 119, 120, 121, 122, 123, 124, 125, 126] (by decide +kernel) (by decide +kernel)
set_option maxRecDepth 20000 in
theorem gX6_strokeAt_X6_isSite : GoodIn wsX6_strokeAt (wsV RX6 78 RX6 yX6_isSite wsX6_isSite) := goodIn_app (goodIn_of _ (by decide +kernel)) ggX6_strokeAt_X6_isSite
set_option maxRecDepth 20000 in
theorem ggX6_strokeAt_X6_isWithin : GoodIn wsX6_strokeAt wsX6_isWithin := goodIn_r _ [14] (by decide +kernel) (by decide +kernel)
set_option maxRecDepth 20000 in
theorem gX6_strokeAt_X6_isWithin : GoodIn wsX6_strokeAt (va_wsS RX6 63 yX6_isWithin wsX6_isWithin) := goodIn_app (goodIn_of _ (by decide +kernel)) ggX6_strokeAt_X6_isWithin
set_option maxRecDepth 20000 in
theorem ggX6_strokeAt_X0_show : GoodIn wsX6_strokeAt wsX0_show := goodIn_r _ [19, 20, 21, 22, 23, 24, 25, 26, 27, 28, 29, 30, 31, 32, 33, 34, 35, 36, 37, 38, 39, 40, 41, 42, 43, 44, 45, 46, 47, 48, 49, 50, 51, 52, 53, 54, 55, 56, 57, 58, 18, 59, 60, 61, 62, 63, 64, 65, 66, 67, 68, 69, 70, 71, 72, 73, 74, 75, 76, 77, 78, 79, 80, 81, 82, 83, 84, 85, 86, 87, 88, 89, 90, 91, 92, 135, 136, 137, 138, 127, 128, 129, 130, 131, 132, 133, 134, 139, 140] (by decide +kernel) (by decide +kernel)
set_option maxRecDepth 20000 in
theorem gX6_strokeAt_X0_show : GoodIn wsX6_strokeAt (wsV RX6 92 RX0 yX0_show wsX0_show) := goodIn_app (goodIn_of _ (by decide +kernel)) ggX6_strokeAt_X0_show
set_option maxRecDepth 20000 in
theorem ggX6_strokeAt_X0_strokeCount : GoodIn wsX6_strokeAt wsX0_strokeCount := goodIn_r _ [96, 22, 135, 136, 137, 138] (by decide +kernel) (by decide +kernel)
set_option maxRecDepth 20000 in
theorem gX6_strokeAt_X0_strokeCount : GoodIn wsX6_strokeAt (wsV RX6 96 RX0 yX0_strokeCount wsX0_strokeCount) := goodIn_app (goodIn_of _ (by decide +kernel)) ggX6_strokeAt_X0_strokeCount
set_option maxRecDepth 20000 in
theorem ggX6_strokeAt_X0_strokeIn : GoodIn wsX6_strokeAt wsX0_strokeIn := goodIn_r _ [100, 83, 88, 40, 41, 32, 42, 34, 135, 136, 137, 138, 139] (by decide +kernel) (by decide +kernel)
set_option maxRecDepth 20000 in
theorem gX6_strokeAt_X0_strokeIn : GoodIn wsX6_strokeAt (wsV RX6 148 RX0 yX0_strokeIn wsX0_strokeIn) := goodIn_app (goodIn_of _ (by decide +kernel)) ggX6_strokeAt_X0_strokeIn
set_option maxRecDepth 20000 in
theorem ggX6_strokeAt_X1_hasPoint : GoodIn wsX6_strokeAt wsX1_hasPoint := goodIn_r _ [105, 106, 107, 40, 41, 32, 42, 34, 108, 109, 110, 104, 111, 112, 113, 114, 115, 116, 117, 141, 142, 143, 144, 145, 139] (by decide +kernel) (by decide +kernel)
set_option maxRecDepth 20000 in
theorem gX6_strokeAt_X1_hasPoint : GoodIn wsX6_strokeAt (wsV RX6 222 RX1 yX1_hasPoint wsX1_hasPoint) := goodIn_app (goodIn_of _ (by decide +kernel)) ggX6_strokeAt_X1_hasPoint
theorem dX6_strokeAt_0 : decode cX6_strokeAt 0 = .ok (.aload_n 0, 1) := by decide +kernel
theorem dX6_strokeAt_1 : decode cX6_strokeAt 1 = .ok (.iload_n 1, 1) := by decide +kernel
theorem dX6_strokeAt_2 : decode cX6_strokeAt 2 = .ok (.invokevirtual 78, 3) := by decide +kernel
theorem dX6_strokeAt_5 : decode cX6_strokeAt 5 = .ok (.ifCond .eq 27, 3) := by decide +kernel
theorem dX6_strokeAt_8 : decode cX6_strokeAt 8 = .ok (.iload_n 2, 1) := by decide +kernel
theorem dX6_strokeAt_9 : decode cX6_strokeAt 9 = .ok (.bipush (-100), 2) := by decide +kernel
theorem dX6_strokeAt_11 : decode cX6_strokeAt 11 = .ok (.sipush 200, 3) := by decide +kernel
theorem dX6_strokeAt_14 : decode cX6_strokeAt 14 = .ok (.invokestatic 63, 3) := by decide +kernel
theorem dX6_strokeAt_17 : decode cX6_strokeAt 17 = .ok (.ifCond .eq 15, 3) := by decide +kernel
theorem dX6_strokeAt_20 : decode cX6_strokeAt 20 = .ok (.iload_n 3, 1) := by decide +kernel
theorem dX6_strokeAt_21 : decode cX6_strokeAt 21 = .ok (.bipush (-100), 2) := by decide +kernel
theorem dX6_strokeAt_23 : decode cX6_strokeAt 23 = .ok (.sipush 200, 3) := by decide +kernel
theorem dX6_strokeAt_26 : decode cX6_strokeAt 26 = .ok (.invokestatic 63, 3) := by decide +kernel
theorem dX6_strokeAt_29 : decode cX6_strokeAt 29 = .ok (.ifCond .ne 6, 3) := by decide +kernel
theorem dX6_strokeAt_32 : decode cX6_strokeAt 32 = .ok (.ldc 67, 2) := by decide +kernel
theorem dX6_strokeAt_34 : decode cX6_strokeAt 34 = .ok (.ireturn, 1) := by decide +kernel
theorem dX6_strokeAt_35 : decode cX6_strokeAt 35 = .ok (.aload_n 0, 1) := by decide +kernel
theorem dX6_strokeAt_36 : decode cX6_strokeAt 36 = .ok (.getfield 45, 3) := by decide +kernel
theorem dX6_strokeAt_39 : decode cX6_strokeAt 39 = .ok (.aload_n 0, 1) := by decide +kernel
theorem dX6_strokeAt_40 : decode cX6_strokeAt 40 = .ok (.getfield 12, 3) := by decide +kernel
theorem dX6_strokeAt_43 : decode cX6_strokeAt 43 = .ok (.aload_n 0, 1) := by decide +kernel
theorem dX6_strokeAt_44 : decode cX6_strokeAt 44 = .ok (.getfield 28, 3) := by decide +kernel
theorem dX6_strokeAt_47 : decode cX6_strokeAt 47 = .ok (.iload_n 1, 1) := by decide +kernel
theorem dX6_strokeAt_48 : decode cX6_strokeAt 48 = .ok (.invokevirtual 92, 3) := by decide +kernel
theorem dX6_strokeAt_51 : decode cX6_strokeAt 51 = .ok (.aload_n 0, 1) := by decide +kernel
theorem dX6_strokeAt_52 : decode cX6_strokeAt 52 = .ok (.getfield 45, 3) := by decide +kernel
theorem dX6_strokeAt_55 : decode cX6_strokeAt 55 = .ok (.invokevirtual 96, 3) := by decide +kernel
theorem dX6_strokeAt_58 : decode cX6_strokeAt 58 = .ok (.iconst 1, 1) := by decide +kernel
theorem dX6_strokeAt_59 : decode cX6_strokeAt 59 = .ok (.isub, 1) := by decide +kernel
theorem dX6_strokeAt_60 : decode cX6_strokeAt 60 = .ok (.istore 4, 2) := by decide +kernel
theorem dX6_strokeAt_62 : decode cX6_strokeAt 62 = .ok (.iload 4, 2) := by decide +kernel
theorem dX6_strokeAt_64 : decode cX6_strokeAt 64 = .ok (.ifCond .lt 36, 3) := by decide +kernel
theorem dX6_strokeAt_67 : decode cX6_strokeAt 67 = .ok (.aload_n 0, 1) := by decide +kernel
theorem dX6_strokeAt_68 : decode cX6_strokeAt 68 = .ok (.getfield 12, 3) := by decide +kernel
theorem dX6_strokeAt_71 : decode cX6_strokeAt 71 = .ok (.getfield 207, 3) := by decide +kernel
theorem dX6_strokeAt_74 : decode cX6_strokeAt 74 = .ok (.aload_n 0, 1) := by decide +kernel
theorem dX6_strokeAt_75 : decode cX6_strokeAt 75 = .ok (.getfield 45, 3) := by decide +kernel
theorem dX6_strokeAt_78 : decode cX6_strokeAt 78 = .ok (.iload 4, 2) := by decide +kernel
theorem dX6_strokeAt_80 : decode cX6_strokeAt 80 = .ok (.invokevirtual 148, 3) := by decide +kernel
theorem dX6_strokeAt_83 : decode cX6_strokeAt 83 = .ok (.iload_n 2, 1) := by decide +kernel
theorem dX6_strokeAt_84 : decode cX6_strokeAt 84 = .ok (.iload_n 3, 1) := by decide +kernel
theorem dX6_strokeAt_85 : decode cX6_strokeAt 85 = .ok (.invokevirtual 222, 3) := by decide +kernel
theorem dX6_strokeAt_88 : decode cX6_strokeAt 88 = .ok (.ifCond .eq 6, 3) := by decide +kernel
theorem dX6_strokeAt_91 : decode cX6_strokeAt 91 = .ok (.iload 4, 2) := by decide +kernel
theorem dX6_strokeAt_93 : decode cX6_strokeAt 93 = .ok (.ireturn, 1) := by decide +kernel
theorem dX6_strokeAt_94 : decode cX6_strokeAt 94 = .ok (.iinc 4 (-1), 3) := by decide +kernel
theorem dX6_strokeAt_97 : decode cX6_strokeAt 97 = .ok (.goto (-35), 3) := by decide +kernel
theorem dX6_strokeAt_100 : decode cX6_strokeAt 100 = .ok (.ldc 162, 2) := by decide +kernel
theorem dX6_strokeAt_102 : decode cX6_strokeAt 102 = .ok (.ireturn, 1) := by decide +kernel
set_option maxRecDepth 20000 in
theorem ggX6_digest_X6_isSite : GoodIn wsX6_digest wsX6_isSite := goodIn_r _ [8, 9, 10, 11, 7, 12, 125, 126, 127, 128, 129, 130, 131, 132, 133] (by decide +kernel) (by decide +kernel)
set_option maxRecDepth 20000 in
theorem gX6_digest_X6_isSite : GoodIn wsX6_digest (wsV RX6 78 RX6 yX6_isSite wsX6_isSite) := goodIn_app (goodIn_of _ (by decide +kernel)) ggX6_digest_X6_isSite
set_option maxRecDepth 20000 in
theorem ggX6_digest_X0_show : GoodIn wsX6_digest wsX0_show := goodIn_r _ [17, 18, 19, 20, 21, 22, 23, 24, 25, 26, 27, 28, 29, 30, 31, 32, 33, 34, 35, 36, 37, 38, 39, 40, 41, 42, 43, 44, 45, 46, 47, 48, 49, 50, 51, 52, 53, 54, 55, 56, 16, 57, 58, 59, 60, 61, 62, 63, 64, 65, 66, 67, 68, 69, 70, 71, 72, 73, 74, 75, 76, 77, 78, 79, 80, 81, 82, 83, 84, 85, 86, 87, 88, 89, 90, 134, 135, 136, 137, 138, 139, 140, 141, 142, 143, 144, 145, 146, 147] (by decide +kernel) (by decide +kernel)
set_option maxRecDepth 20000 in
theorem gX6_digest_X0_show : GoodIn wsX6_digest (wsV RX6 92 RX0 yX0_show wsX0_show) := goodIn_app (goodIn_of _ (by decide +kernel)) ggX6_digest_X0_show
set_option maxRecDepth 20000 in
theorem ggX6_digest_X0_hash : GoodIn wsX6_digest wsX0_hash := goodIn_r _ [94, 20, 81, 19, 86, 38, 39, 30, 40, 32, 95, 7, 96, 97, 98, 99, 100, 101, 102, 103, 104, 105, 106, 107, 108, 16, 109, 110, 111, 112, 113, 114, 115, 116, 117, 118, 119, 120, 121, 122, 123, 124, 134, 135, 136, 137, 138, 139, 140, 141, 142, 143, 144, 145, 146, 148, 149, 150, 151, 152] (by decide +kernel) (by decide +kernel)
set_option maxRecDepth 20000 in
theorem gX6_digest_X0_hash : GoodIn wsX6_digest (wsV RX6 225 RX0 yX0_hash wsX0_hash) := goodIn_app (goodIn_of _ (by decide +kernel)) ggX6_digest_X0_hash
theorem dX6_digest_0 : decode cX6_digest 0 = .ok (.aload_n 0, 1) := by decide +kernel
theorem dX6_digest_1 : decode cX6_digest 1 = .ok (.iload_n 1, 1) := by decide +kernel
theorem dX6_digest_2 : decode cX6_digest 2 = .ok (.invokevirtual 78, 3) := by decide +kernel
theorem dX6_digest_5 : decode cX6_digest 5 = .ok (.ifCond .ne 5, 3) := by decide +kernel
theorem dX6_digest_8 : decode cX6_digest 8 = .ok (.iconst 0, 1) := by decide +kernel
theorem dX6_digest_9 : decode cX6_digest 9 = .ok (.ireturn, 1) := by decide +kernel
theorem dX6_digest_10 : decode cX6_digest 10 = .ok (.aload_n 0, 1) := by decide +kernel
theorem dX6_digest_11 : decode cX6_digest 11 = .ok (.getfield 45, 3) := by decide +kernel
theorem dX6_digest_14 : decode cX6_digest 14 = .ok (.aload_n 0, 1) := by decide +kernel
theorem dX6_digest_15 : decode cX6_digest 15 = .ok (.getfield 12, 3) := by decide +kernel
theorem dX6_digest_18 : decode cX6_digest 18 = .ok (.aload_n 0, 1) := by decide +kernel
theorem dX6_digest_19 : decode cX6_digest 19 = .ok (.getfield 28, 3) := by decide +kernel
theorem dX6_digest_22 : decode cX6_digest 22 = .ok (.iload_n 1, 1) := by decide +kernel
theorem dX6_digest_23 : decode cX6_digest 23 = .ok (.invokevirtual 92, 3) := by decide +kernel
theorem dX6_digest_26 : decode cX6_digest 26 = .ok (.aload_n 0, 1) := by decide +kernel
theorem dX6_digest_27 : decode cX6_digest 27 = .ok (.getfield 45, 3) := by decide +kernel
theorem dX6_digest_30 : decode cX6_digest 30 = .ok (.aload_n 0, 1) := by decide +kernel
theorem dX6_digest_31 : decode cX6_digest 31 = .ok (.getfield 12, 3) := by decide +kernel
theorem dX6_digest_34 : decode cX6_digest 34 = .ok (.invokevirtual 225, 3) := by decide +kernel
theorem dX6_digest_37 : decode cX6_digest 37 = .ok (.ireturn, 1) := by decide +kernel
set_option maxRecDepth 20000 in
theorem ggX6_areSame_X6_isSite : GoodIn wsX6_areSame wsX6_isSite := goodIn_r _ [7, 8, 9, 10, 6, 11, 109, 110, 111, 112, 113, 114, 115, 116, 117] (by decide +kernel) (by decide +kernel)
set_option maxRecDepth 20000 in
theorem gX6_areSame_X6_isSite : GoodIn wsX6_areSame (wsV RX6 78 RX6 yX6_isSite wsX6_isSite) := goodIn_app (goodIn_of _ (by decide +kernel)) ggX6_areSame_X6_isSite
set_option maxRecDepth 20000 in
theorem ggX6_areSame_X6_showSame : GoodIn wsX6_areSame wsX6_showSame := goodIn_r _ [15, 16, 17, 18, 19, 20, 21, 22, 23, 24, 25, 26, 27, 28, 29, 30, 31, 32, 33, 34, 35, 36, 37, 38, 39, 40, 41, 42, 43, 44, 45, 46, 47, 48, 49, 50, 51, 52, 53, 54, 55, 56, 57, 58, 59, 60, 61, 62, 63, 64, 65, 66, 67, 68, 69, 70, 71, 72, 73, 74, 75, 76, 77, 78, 79, 80, 81, 82, 83, 84, 85, 86, 87, 88, 89, 90, 91, 92, 93, 94, 95, 96, 97, 98, 99, 100, 101, 102, 103, 104, 105, 106, 107, 108, 109, 110, 111, 112, 113, 114, 115, 116, 117, 118, 119, 120, 121, 122, 123, 124, 125, 126, 127, 128, 129, 130, 131] (by decide +kernel) (by decide +kernel)
set_option maxRecDepth 20000 in
theorem gX6_areSame_X6_showSame : GoodIn wsX6_areSame (wsV RX6 229 RX6 yX6_showSame wsX6_showSame) := goodIn_app (goodIn_of _ (by decide +kernel)) ggX6_areSame_X6_showSame
theorem dX6_areSame_0 : decode cX6_areSame 0 = .ok (.aload_n 0, 1) := by decide +kernel
theorem dX6_areSame_1 : decode cX6_areSame 1 = .ok (.iload_n 1, 1) := by decide +kernel
theorem dX6_areSame_2 : decode cX6_areSame 2 = .ok (.invokevirtual 78, 3) := by decide +kernel
theorem dX6_areSame_5 : decode cX6_areSame 5 = .ok (.ifCond .eq 11, 3) := by decide +kernel
theorem dX6_areSame_8 : decode cX6_areSame 8 = .ok (.aload_n 0, 1) := by decide +kernel
theorem dX6_areSame_9 : decode cX6_areSame 9 = .ok (.iload_n 2, 1) := by decide +kernel
theorem dX6_areSame_10 : decode cX6_areSame 10 = .ok (.invokevirtual 78, 3) := by decide +kernel
theorem dX6_areSame_13 : decode cX6_areSame 13 = .ok (.ifCond .ne 6, 3) := by decide +kernel
theorem dX6_areSame_16 : decode cX6_areSame 16 = .ok (.ldc 67, 2) := by decide +kernel
theorem dX6_areSame_18 : decode cX6_areSame 18 = .ok (.ireturn, 1) := by decide +kernel
theorem dX6_areSame_19 : decode cX6_areSame 19 = .ok (.aload_n 0, 1) := by decide +kernel
theorem dX6_areSame_20 : decode cX6_areSame 20 = .ok (.aload_n 0, 1) := by decide +kernel
theorem dX6_areSame_21 : decode cX6_areSame 21 = .ok (.getfield 28, 3) := by decide +kernel
theorem dX6_areSame_24 : decode cX6_areSame 24 = .ok (.iload_n 1, 1) := by decide +kernel
theorem dX6_areSame_25 : decode cX6_areSame 25 = .ok (.iload_n 2, 1) := by decide +kernel
theorem dX6_areSame_26 : decode cX6_areSame 26 = .ok (.invokevirtual 229, 3) := by decide +kernel
theorem dX6_areSame_29 : decode cX6_areSame 29 = .ok (.ifCond .eq 7, 3) := by decide +kernel
theorem dX6_areSame_32 : decode cX6_areSame 32 = .ok (.iconst 1, 1) := by decide +kernel
theorem dX6_areSame_33 : decode cX6_areSame 33 = .ok (.goto 4, 3) := by decide +kernel
theorem dX6_areSame_36 : decode cX6_areSame 36 = .ok (.iconst 0, 1) := by decide +kernel
theorem dX6_areSame_37 : decode cX6_areSame 37 = .ok (.ireturn, 1) := by decide +kernel
set_option maxRecDepth 20000 in
theorem ggX6_differing_X6_lookAhead : GoodIn wsX6_differing wsX6_lookAhead := goodIn_r _ [7, 2, 8, 1, 9, 10, 11, 12, 13, 14, 15, 16, 17, 18, 19, 20, 21, 22, 23, 24, 25, 26, 27, 28, 29, 30, 31, 32, 33, 34, 35, 36, 37, 38, 39, 40, 41, 42, 43, 44, 45, 129, 130, 131, 132, 133, 134, 135, 136, 137, 138, 139, 140, 141] (by decide +kernel) (by decide +kernel)
set_option maxRecDepth 20000 in
theorem gX6_differing_X6_lookAhead : GoodIn wsX6_differing (wsV RX6 233 RX6 yX6_lookAhead wsX6_lookAhead) := goodIn_app (goodIn_of _ (by decide +kernel)) ggX6_differing_X6_lookAhead
set_option maxRecDepth 20000 in
theorem ggX6_differing_X6_showSame : GoodIn wsX6_differing wsX6_showSame := goodIn_r _ [49, 50, 51, 52, 53, 54, 55, 56, 57, 58, 59, 60, 61, 62, 63, 64, 65, 66, 67, 68, 69, 19, 70, 21, 71, 17, 18, 20, 22, 23, 24, 25, 72, 73, 74, 75, 76, 77, 78, 79, 80, 13, 81, 15, 82, 83, 84, 85, 86, 87, 88, 89, 90, 91, 92, 93, 94, 95, 96, 97, 43, 44, 45, 98, 99, 100, 101, 102, 103, 104, 105, 106, 107, 108, 109, 110, 111, 112, 113, 114, 115, 116, 117, 118, 119, 120, 121, 122, 123, 124, 125, 126, 127, 128, 129, 130, 131, 132, 133, 134, 135, 136, 137, 142, 143, 144, 145, 146, 147, 148, 149, 150, 151, 152, 153, 139, 138] (by decide +kernel) (by decide +kernel)
set_option maxRecDepth 20000 in
theorem gX6_differing_X6_showSame : GoodIn wsX6_differing (wsV RX6 229 RX6 yX6_showSame wsX6_showSame) := goodIn_app (goodIn_of _ (by decide +kernel)) ggX6_differing_X6_showSame
theorem dX6_differing_0 : decode cX6_differing 0 = .ok (.aload_n 0, 1) := by decide +kernel
theorem dX6_differing_1 : decode cX6_differing 1 = .ok (.invokevirtual 233, 3) := by decide +kernel
theorem dX6_differing_4 : decode cX6_differing 4 = .ok (.iconst 0, 1) := by decide +kernel
theorem dX6_differing_5 : decode cX6_differing 5 = .ok (.istore_n 1, 1) := by decide +kernel
theorem dX6_differing_6 : decode cX6_differing 6 = .ok (.iconst 0, 1) := by decide +kernel
theorem dX6_differing_7 : decode cX6_differing 7 = .ok (.istore_n 2, 1) := by decide +kernel
theorem dX6_differing_8 : decode cX6_differing 8 = .ok (.iload_n 2, 1) := by decide +kernel
theorem dX6_differing_9 : decode cX6_differing 9 = .ok (.aload_n 0, 1) := by decide +kernel
theorem dX6_differing_10 : decode cX6_differing 10 = .ok (.getfield 59, 3) := by decide +kernel
theorem dX6_differing_13 : decode cX6_differing 13 = .ok (.if_icmp .ge 43, 3) := by decide +kernel
theorem dX6_differing_16 : decode cX6_differing 16 = .ok (.iload_n 2, 1) := by decide +kernel
theorem dX6_differing_17 : decode cX6_differing 17 = .ok (.iconst 1, 1) := by decide +kernel
theorem dX6_differing_18 : decode cX6_differing 18 = .ok (.iadd, 1) := by decide +kernel
theorem dX6_differing_19 : decode cX6_differing 19 = .ok (.istore_n 3, 1) := by decide +kernel
theorem dX6_differing_20 : decode cX6_differing 20 = .ok (.iload_n 3, 1) := by decide +kernel
theorem dX6_differing_21 : decode cX6_differing 21 = .ok (.aload_n 0, 1) := by decide +kernel
theorem dX6_differing_22 : decode cX6_differing 22 = .ok (.getfield 59, 3) := by decide +kernel
theorem dX6_differing_25 : decode cX6_differing 25 = .ok (.if_icmp .ge 25, 3) := by decide +kernel
theorem dX6_differing_28 : decode cX6_differing 28 = .ok (.aload_n 0, 1) := by decide +kernel
theorem dX6_differing_29 : decode cX6_differing 29 = .ok (.aload_n 0, 1) := by decide +kernel
theorem dX6_differing_30 : decode cX6_differing 30 = .ok (.getfield 32, 3) := by decide +kernel
theorem dX6_differing_33 : decode cX6_differing 33 = .ok (.iload_n 2, 1) := by decide +kernel
theorem dX6_differing_34 : decode cX6_differing 34 = .ok (.iload_n 3, 1) := by decide +kernel
theorem dX6_differing_35 : decode cX6_differing 35 = .ok (.invokevirtual 229, 3) := by decide +kernel
theorem dX6_differing_38 : decode cX6_differing 38 = .ok (.ifCond .ne 6, 3) := by decide +kernel
theorem dX6_differing_41 : decode cX6_differing 41 = .ok (.iinc 1 1, 3) := by decide +kernel
theorem dX6_differing_44 : decode cX6_differing 44 = .ok (.iinc 3 1, 3) := by decide +kernel
theorem dX6_differing_47 : decode cX6_differing 47 = .ok (.goto (-27), 3) := by decide +kernel
theorem dX6_differing_50 : decode cX6_differing 50 = .ok (.iinc 2 1, 3) := by decide +kernel
theorem dX6_differing_53 : decode cX6_differing 53 = .ok (.goto (-45), 3) := by decide +kernel
theorem dX6_differing_56 : decode cX6_differing 56 = .ok (.iload_n 1, 1) := by decide +kernel
theorem dX6_differing_57 : decode cX6_differing 57 = .ok (.ireturn, 1) := by decide +kernel
set_option maxRecDepth 20000 in
theorem ggX6_bestHelper_X6_isSite : GoodIn wsX6_bestHelper wsX6_isSite := goodIn_r _ [8, 3, 9, 10, 7, 11, 48, 49, 50, 51, 52, 53, 54, 55, 56] (by decide +kernel) (by decide +kernel)
set_option maxRecDepth 20000 in
theorem gX6_bestHelper_X6_isSite : GoodIn wsX6_bestHelper (wsV RX6 78 RX6 yX6_isSite wsX6_isSite) := goodIn_app (goodIn_of _ (by decide +kernel)) ggX6_bestHelper_X6_isSite
set_option maxRecDepth 20000 in
theorem ggX6_bestHelper_X6_repairable : GoodIn wsX6_bestHelper wsX6_repairable := goodIn_r _ [15, 16, 17, 18, 7, 19, 20, 21, 22, 23, 24, 25, 26, 27, 28, 29, 30, 31, 32, 33, 34, 35, 36, 37, 38, 39, 40, 41, 42, 43, 44, 45, 46, 47, 48, 49, 50, 51, 52, 53, 54, 55, 56, 57, 58] (by decide +kernel) (by decide +kernel)
set_option maxRecDepth 20000 in
theorem gX6_bestHelper_X6_repairable : GoodIn wsX6_bestHelper (wsV RX6 236 RX6 yX6_repairable wsX6_repairable) := goodIn_app (goodIn_of _ (by decide +kernel)) ggX6_bestHelper_X6_repairable
theorem dX6_bestHelper_0 : decode cX6_bestHelper 0 = .ok (.aload_n 0, 1) := by decide +kernel
theorem dX6_bestHelper_1 : decode cX6_bestHelper 1 = .ok (.iload_n 1, 1) := by decide +kernel
theorem dX6_bestHelper_2 : decode cX6_bestHelper 2 = .ok (.invokevirtual 78, 3) := by decide +kernel
theorem dX6_bestHelper_5 : decode cX6_bestHelper 5 = .ok (.ifCond .ne 6, 3) := by decide +kernel
theorem dX6_bestHelper_8 : decode cX6_bestHelper 8 = .ok (.ldc 67, 2) := by decide +kernel
theorem dX6_bestHelper_10 : decode cX6_bestHelper 10 = .ok (.ireturn, 1) := by decide +kernel
theorem dX6_bestHelper_11 : decode cX6_bestHelper 11 = .ok (.ldc 162, 2) := by decide +kernel
theorem dX6_bestHelper_13 : decode cX6_bestHelper 13 = .ok (.istore_n 2, 1) := by decide +kernel
theorem dX6_bestHelper_14 : decode cX6_bestHelper 14 = .ok (.iconst 0, 1) := by decide +kernel
theorem dX6_bestHelper_15 : decode cX6_bestHelper 15 = .ok (.istore_n 3, 1) := by decide +kernel
theorem dX6_bestHelper_16 : decode cX6_bestHelper 16 = .ok (.iconst 0, 1) := by decide +kernel
theorem dX6_bestHelper_17 : decode cX6_bestHelper 17 = .ok (.istore 4, 2) := by decide +kernel
theorem dX6_bestHelper_19 : decode cX6_bestHelper 19 = .ok (.iload 4, 2) := by decide +kernel
theorem dX6_bestHelper_21 : decode cX6_bestHelper 21 = .ok (.aload_n 0, 1) := by decide +kernel
theorem dX6_bestHelper_22 : decode cX6_bestHelper 22 = .ok (.getfield 59, 3) := by decide +kernel
theorem dX6_bestHelper_25 : decode cX6_bestHelper 25 = .ok (.if_icmp .ge 30, 3) := by decide +kernel
theorem dX6_bestHelper_28 : decode cX6_bestHelper 28 = .ok (.aload_n 0, 1) := by decide +kernel
theorem dX6_bestHelper_29 : decode cX6_bestHelper 29 = .ok (.iload_n 1, 1) := by decide +kernel
theorem dX6_bestHelper_30 : decode cX6_bestHelper 30 = .ok (.iload 4, 2) := by decide +kernel
theorem dX6_bestHelper_32 : decode cX6_bestHelper 32 = .ok (.invokevirtual 236, 3) := by decide +kernel
theorem dX6_bestHelper_35 : decode cX6_bestHelper 35 = .ok (.istore 5, 2) := by decide +kernel
theorem dX6_bestHelper_37 : decode cX6_bestHelper 37 = .ok (.iload 5, 2) := by decide +kernel
theorem dX6_bestHelper_39 : decode cX6_bestHelper 39 = .ok (.iload_n 3, 1) := by decide +kernel
theorem dX6_bestHelper_40 : decode cX6_bestHelper 40 = .ok (.if_icmp .le 9, 3) := by decide +kernel
theorem dX6_bestHelper_43 : decode cX6_bestHelper 43 = .ok (.iload 4, 2) := by decide +kernel
theorem dX6_bestHelper_45 : decode cX6_bestHelper 45 = .ok (.istore_n 2, 1) := by decide +kernel
theorem dX6_bestHelper_46 : decode cX6_bestHelper 46 = .ok (.iload 5, 2) := by decide +kernel
theorem dX6_bestHelper_48 : decode cX6_bestHelper 48 = .ok (.istore_n 3, 1) := by decide +kernel
theorem dX6_bestHelper_49 : decode cX6_bestHelper 49 = .ok (.iinc 4 1, 3) := by decide +kernel
theorem dX6_bestHelper_52 : decode cX6_bestHelper 52 = .ok (.goto (-33), 3) := by decide +kernel
theorem dX6_bestHelper_55 : decode cX6_bestHelper 55 = .ok (.iload_n 2, 1) := by decide +kernel
theorem dX6_bestHelper_56 : decode cX6_bestHelper 56 = .ok (.ireturn, 1) := by decide +kernel
set_option maxRecDepth 20000 in
theorem ggX6_endangered_X6_isSite : GoodIn wsX6_endangered wsX6_isSite := goodIn_r _ [8, 9, 10, 11, 7, 12, 48, 49, 50, 51, 52, 53, 54, 55, 56] (by decide +kernel) (by decide +kernel)
set_option maxRecDepth 20000 in
theorem gX6_endangered_X6_isSite : GoodIn wsX6_endangered (wsV RX6 78 RX6 yX6_isSite wsX6_isSite) := goodIn_app (goodIn_of _ (by decide +kernel)) ggX6_endangered_X6_isSite
set_option maxRecDepth 20000 in
theorem ggX6_endangered_X4_madeBy : GoodIn wsX6_endangered wsX4_madeBy := goodIn_r _ [17, 18, 19, 20, 21, 22, 23, 24, 57, 58, 59, 60, 61, 62, 63, 64, 65] (by decide +kernel) (by decide +kernel)
set_option maxRecDepth 20000 in
theorem gX6_endangered_X4_madeBy : GoodIn wsX6_endangered (wsV RX6 89 RX4 yX4_madeBy wsX4_madeBy) := goodIn_app (goodIn_of _ (by decide +kernel)) ggX6_endangered_X4_madeBy
set_option maxRecDepth 20000 in
theorem ggX6_endangered_X6_idOf : GoodIn wsX6_endangered wsX6_idOf := goodIn_r _ [27] (by decide +kernel) (by decide +kernel)
set_option maxRecDepth 20000 in
theorem gX6_endangered_X6_idOf : GoodIn wsX6_endangered (va_wsS RX6 178 yX6_idOf wsX6_idOf) := goodIn_app (goodIn_of _ (by decide +kernel)) ggX6_endangered_X6_idOf
set_option maxRecDepth 20000 in
theorem ggX6_endangered_X6_isKnownBeside : GoodIn wsX6_endangered wsX6_isKnownBeside := goodIn_r _ [31, 9, 32, 33, 34, 35, 36, 37, 38, 39, 20, 21, 22, 23, 24, 48, 49, 50, 51, 52, 53, 54, 55, 56, 66, 65] (by decide +kernel) (by decide +kernel)
set_option maxRecDepth 20000 in
theorem gX6_endangered_X6_isKnownBeside : GoodIn wsX6_endangered (wsV RX6 239 RX6 yX6_isKnownBeside wsX6_isKnownBeside) := goodIn_app (goodIn_of _ (by decide +kernel)) ggX6_endangered_X6_isKnownBeside
set_option maxRecDepth 20000 in
theorem ggX6_endangered_X3_carry : GoodIn wsX6_endangered wsX3_carry := goodIn_r _ [44, 45, 46, 47, 20, 21, 22, 23, 24, 67, 68, 65] (by decide +kernel) (by decide +kernel)
set_option maxRecDepth 20000 in
theorem gX6_endangered_X3_carry : GoodIn wsX6_endangered (wsV RX6 242 RX3 yX3_carry wsX3_carry) := goodIn_app (goodIn_of _ (by decide +kernel)) ggX6_endangered_X3_carry
theorem dX6_endangered_0 : decode cX6_endangered 0 = .ok (.aload_n 0, 1) := by decide +kernel
theorem dX6_endangered_1 : decode cX6_endangered 1 = .ok (.iload_n 1, 1) := by decide +kernel
theorem dX6_endangered_2 : decode cX6_endangered 2 = .ok (.invokevirtual 78, 3) := by decide +kernel
theorem dX6_endangered_5 : decode cX6_endangered 5 = .ok (.ifCond .ne 6, 3) := by decide +kernel
theorem dX6_endangered_8 : decode cX6_endangered 8 = .ok (.ldc 67, 2) := by decide +kernel
theorem dX6_endangered_10 : decode cX6_endangered 10 = .ok (.ireturn, 1) := by decide +kernel
theorem dX6_endangered_11 : decode cX6_endangered 11 = .ok (.iconst 0, 1) := by decide +kernel
theorem dX6_endangered_12 : decode cX6_endangered 12 = .ok (.istore_n 2, 1) := by decide +kernel
theorem dX6_endangered_13 : decode cX6_endangered 13 = .ok (.iconst 1, 1) := by decide +kernel
theorem dX6_endangered_14 : decode cX6_endangered 14 = .ok (.istore_n 3, 1) := by decide +kernel
theorem dX6_endangered_15 : decode cX6_endangered 15 = .ok (.iload_n 3, 1) := by decide +kernel
theorem dX6_endangered_16 : decode cX6_endangered 16 = .ok (.aload_n 0, 1) := by decide +kernel
theorem dX6_endangered_17 : decode cX6_endangered 17 = .ok (.getfield 12, 3) := by decide +kernel
theorem dX6_endangered_20 : decode cX6_endangered 20 = .ok (.iload_n 1, 1) := by decide +kernel
theorem dX6_endangered_21 : decode cX6_endangered 21 = .ok (.invokevirtual 89, 3) := by decide +kernel
theorem dX6_endangered_24 : decode cX6_endangered 24 = .ok (.if_icmp .gt 41, 3) := by decide +kernel
theorem dX6_endangered_27 : decode cX6_endangered 27 = .ok (.iload_n 1, 1) := by decide +kernel
theorem dX6_endangered_28 : decode cX6_endangered 28 = .ok (.iload_n 3, 1) := by decide +kernel
theorem dX6_endangered_29 : decode cX6_endangered 29 = .ok (.invokestatic 178, 3) := by decide +kernel
theorem dX6_endangered_32 : decode cX6_endangered 32 = .ok (.istore 4, 2) := by decide +kernel
theorem dX6_endangered_34 : decode cX6_endangered 34 = .ok (.aload_n 0, 1) := by decide +kernel
theorem dX6_endangered_35 : decode cX6_endangered 35 = .ok (.iload_n 1, 1) := by decide +kernel
theorem dX6_endangered_36 : decode cX6_endangered 36 = .ok (.iload 4, 2) := by decide +kernel
theorem dX6_endangered_38 : decode cX6_endangered 38 = .ok (.invokevirtual 239, 3) := by decide +kernel
theorem dX6_endangered_41 : decode cX6_endangered 41 = .ok (.ifCond .ne 18, 3) := by decide +kernel
theorem dX6_endangered_44 : decode cX6_endangered 44 = .ok (.aload_n 0, 1) := by decide +kernel
theorem dX6_endangered_45 : decode cX6_endangered 45 = .ok (.getfield 38, 3) := by decide +kernel
theorem dX6_endangered_48 : decode cX6_endangered 48 = .ok (.iload 4, 2) := by decide +kernel
theorem dX6_endangered_50 : decode cX6_endangered 50 = .ok (.invokevirtual 242, 3) := by decide +kernel
theorem dX6_endangered_53 : decode cX6_endangered 53 = .ok (.ifCond .ne 6, 3) := by decide +kernel
theorem dX6_endangered_56 : decode cX6_endangered 56 = .ok (.iinc 2 1, 3) := by decide +kernel
theorem dX6_endangered_59 : decode cX6_endangered 59 = .ok (.iinc 3 1, 3) := by decide +kernel
theorem dX6_endangered_62 : decode cX6_endangered 62 = .ok (.goto (-47), 3) := by decide +kernel
theorem dX6_endangered_65 : decode cX6_endangered 65 = .ok (.iload_n 2, 1) := by decide +kernel
theorem dX6_endangered_66 : decode cX6_endangered 66 = .ok (.ireturn, 1) := by decide +kernel
theorem dX6_isWithin_0 : decode cX6_isWithin 0 = .ok (.iload_n 0, 1) := by decide +kernel
theorem dX6_isWithin_1 : decode cX6_isWithin 1 = .ok (.iload_n 1, 1) := by decide +kernel
theorem dX6_isWithin_2 : decode cX6_isWithin 2 = .ok (.if_icmp .lt 12, 3) := by decide +kernel
theorem dX6_isWithin_5 : decode cX6_isWithin 5 = .ok (.iload_n 0, 1) := by decide +kernel
theorem dX6_isWithin_6 : decode cX6_isWithin 6 = .ok (.iload_n 2, 1) := by decide +kernel
theorem dX6_isWithin_7 : decode cX6_isWithin 7 = .ok (.if_icmp .gt 7, 3) := by decide +kernel
theorem dX6_isWithin_10 : decode cX6_isWithin 10 = .ok (.iconst 1, 1) := by decide +kernel
theorem dX6_isWithin_11 : decode cX6_isWithin 11 = .ok (.goto 4, 3) := by decide +kernel
theorem dX6_isWithin_14 : decode cX6_isWithin 14 = .ok (.iconst 0, 1) := by decide +kernel
theorem dX6_isWithin_15 : decode cX6_isWithin 15 = .ok (.ireturn, 1) := by decide +kernel
set_option maxRecDepth 20000 in
theorem ggX6_isSite_X6_isWithin : GoodIn wsX6_isSite wsX6_isWithin := goodIn_r _ [5] (by decide +kernel) (by decide +kernel)
set_option maxRecDepth 20000 in
theorem gX6_isSite_X6_isWithin : GoodIn wsX6_isSite (va_wsS RX6 63 yX6_isWithin wsX6_isWithin) := goodIn_app (goodIn_of _ (by decide +kernel)) ggX6_isSite_X6_isWithin
theorem dX6_isSite_0 : decode cX6_isSite 0 = .ok (.iload_n 1, 1) := by decide +kernel
theorem dX6_isSite_1 : decode cX6_isSite 1 = .ok (.iconst 0, 1) := by decide +kernel
theorem dX6_isSite_2 : decode cX6_isSite 2 = .ok (.aload_n 0, 1) := by decide +kernel
theorem dX6_isSite_3 : decode cX6_isSite 3 = .ok (.getfield 59, 3) := by decide +kernel
theorem dX6_isSite_6 : decode cX6_isSite 6 = .ok (.iconst 1, 1) := by decide +kernel
theorem dX6_isSite_7 : decode cX6_isSite 7 = .ok (.isub, 1) := by decide +kernel
theorem dX6_isSite_8 : decode cX6_isSite 8 = .ok (.invokestatic 63, 3) := by decide +kernel
theorem dX6_isSite_11 : decode cX6_isSite 11 = .ok (.ireturn, 1) := by decide +kernel
set_option maxRecDepth 20000 in
theorem ggX6_areTwoSites_X6_isSite : GoodIn wsX6_areTwoSites wsX6_isSite := goodIn_r _ [5, 6, 7, 8, 4, 9, 10, 11, 12, 13, 14, 15, 16, 17, 18] (by decide +kernel) (by decide +kernel)
set_option maxRecDepth 20000 in
theorem gX6_areTwoSites_X6_isSite : GoodIn wsX6_areTwoSites (wsV RX6 78 RX6 yX6_isSite wsX6_isSite) := goodIn_app (goodIn_of _ (by decide +kernel)) ggX6_areTwoSites_X6_isSite
theorem dX6_areTwoSites_0 : decode cX6_areTwoSites 0 = .ok (.aload_n 0, 1) := by decide +kernel
theorem dX6_areTwoSites_1 : decode cX6_areTwoSites 1 = .ok (.iload_n 1, 1) := by decide +kernel
theorem dX6_areTwoSites_2 : decode cX6_areTwoSites 2 = .ok (.invokevirtual 78, 3) := by decide +kernel
theorem dX6_areTwoSites_5 : decode cX6_areTwoSites 5 = .ok (.ifCond .eq 20, 3) := by decide +kernel
theorem dX6_areTwoSites_8 : decode cX6_areTwoSites 8 = .ok (.aload_n 0, 1) := by decide +kernel
theorem dX6_areTwoSites_9 : decode cX6_areTwoSites 9 = .ok (.iload_n 2, 1) := by decide +kernel
theorem dX6_areTwoSites_10 : decode cX6_areTwoSites 10 = .ok (.invokevirtual 78, 3) := by decide +kernel
theorem dX6_areTwoSites_13 : decode cX6_areTwoSites 13 = .ok (.ifCond .eq 12, 3) := by decide +kernel
theorem dX6_areTwoSites_16 : decode cX6_areTwoSites 16 = .ok (.iload_n 1, 1) := by decide +kernel
theorem dX6_areTwoSites_17 : decode cX6_areTwoSites 17 = .ok (.iload_n 2, 1) := by decide +kernel
theorem dX6_areTwoSites_18 : decode cX6_areTwoSites 18 = .ok (.if_icmp .eq 7, 3) := by decide +kernel
theorem dX6_areTwoSites_21 : decode cX6_areTwoSites 21 = .ok (.iconst 1, 1) := by decide +kernel
theorem dX6_areTwoSites_22 : decode cX6_areTwoSites 22 = .ok (.goto 4, 3) := by decide +kernel
theorem dX6_areTwoSites_25 : decode cX6_areTwoSites 25 = .ok (.iconst 0, 1) := by decide +kernel
theorem dX6_areTwoSites_26 : decode cX6_areTwoSites 26 = .ok (.ireturn, 1) := by decide +kernel
set_option maxRecDepth 20000 in
theorem ggX6_hasMadeAll_X4_madeBy : GoodIn wsX6_hasMadeAll wsX4_madeBy := goodIn_r _ [6, 7, 8, 9, 10, 11, 12, 13, 23, 24, 25, 26, 27, 28, 29, 30, 31] (by decide +kernel) (by decide +kernel)
set_option maxRecDepth 20000 in
theorem gX6_hasMadeAll_X4_madeBy : GoodIn wsX6_hasMadeAll (wsV RX6 89 RX4 yX4_madeBy wsX4_madeBy) := goodIn_app (goodIn_of _ (by decide +kernel)) ggX6_hasMadeAll_X4_madeBy
theorem dX6_hasMadeAll_0 : decode cX6_hasMadeAll 0 = .ok (.aload_n 0, 1) := by decide +kernel
theorem dX6_hasMadeAll_1 : decode cX6_hasMadeAll 1 = .ok (.getfield 12, 3) := by decide +kernel
theorem dX6_hasMadeAll_4 : decode cX6_hasMadeAll 4 = .ok (.iload_n 1, 1) := by decide +kernel
theorem dX6_hasMadeAll_5 : decode cX6_hasMadeAll 5 = .ok (.invokevirtual 89, 3) := by decide +kernel
theorem dX6_hasMadeAll_8 : decode cX6_hasMadeAll 8 = .ok (.bipush 20, 2) := by decide +kernel
theorem dX6_hasMadeAll_10 : decode cX6_hasMadeAll 10 = .ok (.if_icmp .lt 7, 3) := by decide +kernel
theorem dX6_hasMadeAll_13 : decode cX6_hasMadeAll 13 = .ok (.iconst 1, 1) := by decide +kernel
theorem dX6_hasMadeAll_14 : decode cX6_hasMadeAll 14 = .ok (.goto 4, 3) := by decide +kernel
theorem dX6_hasMadeAll_17 : decode cX6_hasMadeAll 17 = .ok (.iconst 0, 1) := by decide +kernel
theorem dX6_hasMadeAll_18 : decode cX6_hasMadeAll 18 = .ok (.ireturn, 1) := by decide +kernel
theorem dX6_idOf_0 : decode cX6_idOf 0 = .ok (.iload_n 0, 1) := by decide +kernel
theorem dX6_idOf_1 : decode cX6_idOf 1 = .ok (.bipush 20, 2) := by decide +kernel
theorem dX6_idOf_3 : decode cX6_idOf 3 = .ok (.imul, 1) := by decide +kernel
theorem dX6_idOf_4 : decode cX6_idOf 4 = .ok (.iload_n 1, 1) := by decide +kernel
theorem dX6_idOf_5 : decode cX6_idOf 5 = .ok (.iadd, 1) := by decide +kernel
theorem dX6_idOf_6 : decode cX6_idOf 6 = .ok (.iconst 1, 1) := by decide +kernel
theorem dX6_idOf_7 : decode cX6_idOf 7 = .ok (.isub, 1) := by decide +kernel
theorem dX6_idOf_8 : decode cX6_idOf 8 = .ok (.ireturn, 1) := by decide +kernel
theorem dX6_authorOf_0 : decode cX6_authorOf 0 = .ok (.iload_n 0, 1) := by decide +kernel
theorem dX6_authorOf_1 : decode cX6_authorOf 1 = .ok (.bipush 20, 2) := by decide +kernel
theorem dX6_authorOf_3 : decode cX6_authorOf 3 = .ok (.idiv, 1) := by decide +kernel
theorem dX6_authorOf_4 : decode cX6_authorOf 4 = .ok (.ireturn, 1) := by decide +kernel
theorem dX6_numberOf_0 : decode cX6_numberOf 0 = .ok (.iload_n 0, 1) := by decide +kernel
theorem dX6_numberOf_1 : decode cX6_numberOf 1 = .ok (.bipush 20, 2) := by decide +kernel
theorem dX6_numberOf_3 : decode cX6_numberOf 3 = .ok (.irem, 1) := by decide +kernel
theorem dX6_numberOf_4 : decode cX6_numberOf 4 = .ok (.iconst 1, 1) := by decide +kernel
theorem dX6_numberOf_5 : decode cX6_numberOf 5 = .ok (.iadd, 1) := by decide +kernel
theorem dX6_numberOf_6 : decode cX6_numberOf 6 = .ok (.ireturn, 1) := by decide +kernel
set_option maxRecDepth 20000 in
theorem ggX6_tick_X5_get : GoodIn wsX6_tick wsX5_get := goodIn_r _ [6, 7, 21] (by decide +kernel) (by decide +kernel)
set_option maxRecDepth 20000 in
theorem gX6_tick_X5_get : GoodIn wsX6_tick (wsV RX6 82 RX5 yX5_get wsX5_get) := goodIn_app (goodIn_of _ (by decide +kernel)) ggX6_tick_X5_get
set_option maxRecDepth 20000 in
theorem ggX6_tick_X5_set : GoodIn wsX6_tick wsX5_set := goodIn_r _ [11, 7, 21] (by decide +kernel) (by decide +kernel)
set_option maxRecDepth 20000 in
theorem gX6_tick_X5_set : GoodIn wsX6_tick (wsV RX6 195 RX5 yX5_set wsX5_set) := goodIn_app (goodIn_of _ (by decide +kernel)) ggX6_tick_X5_set
theorem dX6_tick_0 : decode cX6_tick 0 = .ok (.aload_n 0, 1) := by decide +kernel
theorem dX6_tick_1 : decode cX6_tick 1 = .ok (.getfield 55, 3) := by decide +kernel
theorem dX6_tick_4 : decode cX6_tick 4 = .ok (.iload_n 1, 1) := by decide +kernel
theorem dX6_tick_5 : decode cX6_tick 5 = .ok (.aload_n 0, 1) := by decide +kernel
theorem dX6_tick_6 : decode cX6_tick 6 = .ok (.getfield 55, 3) := by decide +kernel
theorem dX6_tick_9 : decode cX6_tick 9 = .ok (.iload_n 1, 1) := by decide +kernel
theorem dX6_tick_10 : decode cX6_tick 10 = .ok (.invokevirtual 82, 3) := by decide +kernel
theorem dX6_tick_13 : decode cX6_tick 13 = .ok (.iconst 1, 1) := by decide +kernel
theorem dX6_tick_14 : decode cX6_tick 14 = .ok (.iadd, 1) := by decide +kernel
theorem dX6_tick_15 : decode cX6_tick 15 = .ok (.invokevirtual 195, 3) := by decide +kernel
theorem dX6_tick_18 : decode cX6_tick 18 = .ok (.aload_n 0, 1) := by decide +kernel
theorem dX6_tick_19 : decode cX6_tick 19 = .ok (.getfield 55, 3) := by decide +kernel
theorem dX6_tick_22 : decode cX6_tick 22 = .ok (.iload_n 1, 1) := by decide +kernel
theorem dX6_tick_23 : decode cX6_tick 23 = .ok (.invokevirtual 82, 3) := by decide +kernel
theorem dX6_tick_26 : decode cX6_tick 26 = .ok (.ireturn, 1) := by decide +kernel
set_option maxRecDepth 20000 in
theorem ggX6_publish_X2_learn : GoodIn wsX6_publish wsX2_learn := goodIn_r _ [8, 9, 10, 11, 12, 13, 14, 15, 37, 38] (by decide +kernel) (by decide +kernel)
set_option maxRecDepth 20000 in
theorem gX6_publish_X2_learn : GoodIn wsX6_publish (wsV RX6 245 RX2 yX2_learn wsX2_learn) := goodIn_app (goodIn_of _ (by decide +kernel)) ggX6_publish_X2_learn
set_option maxRecDepth 20000 in
theorem ggX6_publish_X3_send : GoodIn wsX6_publish wsX3_send := goodIn_r _ [20, 21, 22, 23, 24, 25, 13, 26, 15, 27, 11, 12, 14, 39, 40, 38] (by decide +kernel) (by decide +kernel)
set_option maxRecDepth 20000 in
theorem gX6_publish_X3_send : GoodIn wsX6_publish (wsV RX6 248 RX3 yX3_send wsX3_send) := goodIn_app (goodIn_of _ (by decide +kernel)) ggX6_publish_X3_send
theorem dX6_publish_0 : decode cX6_publish 0 = .ok (.aload_n 0, 1) := by decide +kernel
theorem dX6_publish_1 : decode cX6_publish 1 = .ok (.getfield 28, 3) := by decide +kernel
theorem dX6_publish_4 : decode cX6_publish 4 = .ok (.iload_n 1, 1) := by decide +kernel
theorem dX6_publish_5 : decode cX6_publish 5 = .ok (.iload_n 2, 1) := by decide +kernel
theorem dX6_publish_6 : decode cX6_publish 6 = .ok (.invokevirtual 245, 3) := by decide +kernel
theorem dX6_publish_9 : decode cX6_publish 9 = .ok (.iconst 0, 1) := by decide +kernel
theorem dX6_publish_10 : decode cX6_publish 10 = .ok (.istore_n 3, 1) := by decide +kernel
theorem dX6_publish_11 : decode cX6_publish 11 = .ok (.iload_n 3, 1) := by decide +kernel
theorem dX6_publish_12 : decode cX6_publish 12 = .ok (.aload_n 0, 1) := by decide +kernel
theorem dX6_publish_13 : decode cX6_publish 13 = .ok (.getfield 59, 3) := by decide +kernel
theorem dX6_publish_16 : decode cX6_publish 16 = .ok (.if_icmp .ge 24, 3) := by decide +kernel
theorem dX6_publish_19 : decode cX6_publish 19 = .ok (.iload_n 3, 1) := by decide +kernel
theorem dX6_publish_20 : decode cX6_publish 20 = .ok (.iload_n 1, 1) := by decide +kernel
theorem dX6_publish_21 : decode cX6_publish 21 = .ok (.if_icmp .eq 13, 3) := by decide +kernel
theorem dX6_publish_24 : decode cX6_publish 24 = .ok (.aload_n 0, 1) := by decide +kernel
theorem dX6_publish_25 : decode cX6_publish 25 = .ok (.getfield 38, 3) := by decide +kernel
theorem dX6_publish_28 : decode cX6_publish 28 = .ok (.iload_n 1, 1) := by decide +kernel
theorem dX6_publish_29 : decode cX6_publish 29 = .ok (.iload_n 3, 1) := by decide +kernel
theorem dX6_publish_30 : decode cX6_publish 30 = .ok (.iload_n 2, 1) := by decide +kernel
theorem dX6_publish_31 : decode cX6_publish 31 = .ok (.invokevirtual 248, 3) := by decide +kernel
theorem dX6_publish_34 : decode cX6_publish 34 = .ok (.iinc 3 1, 3) := by decide +kernel
theorem dX6_publish_37 : decode cX6_publish 37 = .ok (.goto (-26), 3) := by decide +kernel
theorem dX6_publish_40 : decode cX6_publish 40 = .ok (.return_, 1) := by decide +kernel
set_option maxRecDepth 20000 in
theorem ggX6_receive_X2_learn : GoodIn wsX6_receive wsX2_learn := goodIn_r _ [12, 13, 14, 15, 16, 17, 18, 19, 41, 42] (by decide +kernel) (by decide +kernel)
set_option maxRecDepth 20000 in
theorem gX6_receive_X2_learn : GoodIn wsX6_receive (wsV RX6 245 RX2 yX2_learn wsX2_learn) := goodIn_app (goodIn_of _ (by decide +kernel)) ggX6_receive_X2_learn
set_option maxRecDepth 20000 in
theorem ggX6_receive_X5_get : GoodIn wsX6_receive wsX5_get := goodIn_r _ [23, 19, 42] (by decide +kernel) (by decide +kernel)
set_option maxRecDepth 20000 in
theorem gX6_receive_X5_get : GoodIn wsX6_receive (wsV RX6 82 RX5 yX5_get wsX5_get) := goodIn_app (goodIn_of _ (by decide +kernel)) ggX6_receive_X5_get
set_option maxRecDepth 20000 in
theorem ggX6_receive_X4_timeOf : GoodIn wsX6_receive wsX4_timeOf := goodIn_r _ [28, 29, 30, 21, 22, 17, 23, 19, 43, 44, 45, 46, 47, 48, 49, 50, 42] (by decide +kernel) (by decide +kernel)
set_option maxRecDepth 20000 in
theorem gX6_receive_X4_timeOf : GoodIn wsX6_receive (wsV RX6 201 RX4 yX4_timeOf wsX4_timeOf) := goodIn_app (goodIn_of _ (by decide +kernel)) ggX6_receive_X4_timeOf
set_option maxRecDepth 20000 in
theorem ggX6_receive_X5_set : GoodIn wsX6_receive wsX5_set := goodIn_r _ [18, 19, 42] (by decide +kernel) (by decide +kernel)
set_option maxRecDepth 20000 in
theorem gX6_receive_X5_set : GoodIn wsX6_receive (wsV RX6 195 RX5 yX5_set wsX5_set) := goodIn_app (goodIn_of _ (by decide +kernel)) ggX6_receive_X5_set
theorem dX6_receive_0 : decode cX6_receive 0 = .ok (.aload_n 0, 1) := by decide +kernel
theorem dX6_receive_1 : decode cX6_receive 1 = .ok (.getfield 28, 3) := by decide +kernel
theorem dX6_receive_4 : decode cX6_receive 4 = .ok (.iload_n 1, 1) := by decide +kernel
theorem dX6_receive_5 : decode cX6_receive 5 = .ok (.iload_n 2, 1) := by decide +kernel
theorem dX6_receive_6 : decode cX6_receive 6 = .ok (.invokevirtual 245, 3) := by decide +kernel
theorem dX6_receive_9 : decode cX6_receive 9 = .ok (.aload_n 0, 1) := by decide +kernel
theorem dX6_receive_10 : decode cX6_receive 10 = .ok (.getfield 55, 3) := by decide +kernel
theorem dX6_receive_13 : decode cX6_receive 13 = .ok (.iload_n 1, 1) := by decide +kernel
theorem dX6_receive_14 : decode cX6_receive 14 = .ok (.aload_n 0, 1) := by decide +kernel
theorem dX6_receive_15 : decode cX6_receive 15 = .ok (.getfield 55, 3) := by decide +kernel
theorem dX6_receive_18 : decode cX6_receive 18 = .ok (.iload_n 1, 1) := by decide +kernel
theorem dX6_receive_19 : decode cX6_receive 19 = .ok (.invokevirtual 82, 3) := by decide +kernel
theorem dX6_receive_22 : decode cX6_receive 22 = .ok (.aload_n 0, 1) := by decide +kernel
theorem dX6_receive_23 : decode cX6_receive 23 = .ok (.getfield 12, 3) := by decide +kernel
theorem dX6_receive_26 : decode cX6_receive 26 = .ok (.iload_n 2, 1) := by decide +kernel
theorem dX6_receive_27 : decode cX6_receive 27 = .ok (.invokevirtual 201, 3) := by decide +kernel
theorem dX6_receive_30 : decode cX6_receive 30 = .ok (.invokestatic 190, 3) := by decide +kernel
theorem dX6_receive_33 : decode cX6_receive 33 = .ok (.invokevirtual 195, 3) := by decide +kernel
theorem dX6_receive_36 : decode cX6_receive 36 = .ok (.return_, 1) := by decide +kernel
set_option maxRecDepth 20000 in
theorem ggX6_changeOwn_X6_hasMadeAll : GoodIn wsX6_changeOwn wsX6_hasMadeAll := goodIn_r _ [8, 3, 9, 10, 11, 12, 13, 14, 15, 16, 17, 18, 19, 20, 88, 89, 90, 91, 92, 93, 94, 95, 96, 97, 98, 99, 100, 101, 102, 103, 104, 105] (by decide +kernel) (by decide +kernel)
set_option maxRecDepth 20000 in
theorem gX6_changeOwn_X6_hasMadeAll : GoodIn wsX6_changeOwn (wsV RX6 118 RX6 yX6_hasMadeAll wsX6_hasMadeAll) := goodIn_app (goodIn_of _ (by decide +kernel)) ggX6_changeOwn_X6_hasMadeAll
set_option maxRecDepth 20000 in
theorem ggX6_changeOwn_X6_tick : GoodIn wsX6_changeOwn wsX6_tick := goodIn_r _ [24, 25, 26, 16, 17, 18, 19, 20, 27, 28, 29, 30, 88, 89, 90, 91, 92, 93, 94, 95, 96, 105] (by decide +kernel) (by decide +kernel)
set_option maxRecDepth 20000 in
theorem gX6_changeOwn_X6_tick : GoodIn wsX6_changeOwn (wsV RX6 121 RX6 yX6_tick wsX6_tick) := goodIn_app (goodIn_of _ (by decide +kernel)) ggX6_changeOwn_X6_tick
set_option maxRecDepth 20000 in
theorem ggX6_changeOwn_X4_addChange : GoodIn wsX6_changeOwn wsX4_addChange := goodIn_r _ [34, 35, 36, 37, 38, 39, 12, 40, 14, 41, 42, 15, 16, 17, 18, 19, 20, 43, 7, 44, 45, 28, 29, 30, 46, 47, 48, 49, 50, 51, 52, 53, 54, 55, 56, 57, 58, 59, 60, 61, 97, 98, 99, 100, 101, 102, 103, 104, 105] (by decide +kernel) (by decide +kernel)
set_option maxRecDepth 20000 in
theorem gX6_changeOwn_X4_addChange : GoodIn wsX6_changeOwn (wsV RX6 151 RX4 yX4_addChange wsX4_addChange) := goodIn_app (goodIn_of _ (by decide +kernel)) ggX6_changeOwn_X4_addChange
set_option maxRecDepth 20000 in
theorem ggX6_changeOwn_X6_publish : GoodIn wsX6_changeOwn wsX6_publish := goodIn_r _ [65, 66, 67, 68, 69, 70, 71, 72, 73, 74, 75, 28, 29, 18, 30, 20, 76, 77, 78, 79, 80, 81, 82, 83, 16, 17, 19, 84, 88, 89, 90, 91, 92, 93, 94, 95, 96, 106, 105, 107, 108] (by decide +kernel) (by decide +kernel)
set_option maxRecDepth 20000 in
theorem gX6_changeOwn_X6_publish : GoodIn wsX6_changeOwn (wsV RX6 131 RX6 yX6_publish wsX6_publish) := goodIn_app (goodIn_of _ (by decide +kernel)) ggX6_changeOwn_X6_publish
set_option maxRecDepth 20000 in
theorem ggX6_changeOwn_X6_numberOf : GoodIn wsX6_changeOwn wsX6_numberOf := goodIn_r _ [87] (by decide +kernel) (by decide +kernel)
set_option maxRecDepth 20000 in
theorem gX6_changeOwn_X6_numberOf : GoodIn wsX6_changeOwn (va_wsS RX6 135 yX6_numberOf wsX6_numberOf) := goodIn_app (goodIn_of _ (by decide +kernel)) ggX6_changeOwn_X6_numberOf
theorem dX6_changeOwn_0 : decode cX6_changeOwn 0 = .ok (.iload_n 3, 1) := by decide +kernel
theorem dX6_changeOwn_1 : decode cX6_changeOwn 1 = .ok (.iconst (-1), 1) := by decide +kernel
theorem dX6_changeOwn_2 : decode cX6_changeOwn 2 = .ok (.if_icmp .ne 6, 3) := by decide +kernel
theorem dX6_changeOwn_5 : decode cX6_changeOwn 5 = .ok (.ldc 110, 2) := by decide +kernel
theorem dX6_changeOwn_7 : decode cX6_changeOwn 7 = .ok (.ireturn, 1) := by decide +kernel
theorem dX6_changeOwn_8 : decode cX6_changeOwn 8 = .ok (.aload_n 0, 1) := by decide +kernel
theorem dX6_changeOwn_9 : decode cX6_changeOwn 9 = .ok (.iload_n 1, 1) := by decide +kernel
theorem dX6_changeOwn_10 : decode cX6_changeOwn 10 = .ok (.invokevirtual 118, 3) := by decide +kernel
theorem dX6_changeOwn_13 : decode cX6_changeOwn 13 = .ok (.ifCond .eq 6, 3) := by decide +kernel
theorem dX6_changeOwn_16 : decode cX6_changeOwn 16 = .ok (.ldc 77, 2) := by decide +kernel
theorem dX6_changeOwn_18 : decode cX6_changeOwn 18 = .ok (.ireturn, 1) := by decide +kernel
theorem dX6_changeOwn_19 : decode cX6_changeOwn 19 = .ok (.aload_n 0, 1) := by decide +kernel
theorem dX6_changeOwn_20 : decode cX6_changeOwn 20 = .ok (.iload_n 1, 1) := by decide +kernel
theorem dX6_changeOwn_21 : decode cX6_changeOwn 21 = .ok (.aload_n 0, 1) := by decide +kernel
theorem dX6_changeOwn_22 : decode cX6_changeOwn 22 = .ok (.getfield 12, 3) := by decide +kernel
theorem dX6_changeOwn_25 : decode cX6_changeOwn 25 = .ok (.iload_n 1, 1) := by decide +kernel
theorem dX6_changeOwn_26 : decode cX6_changeOwn 26 = .ok (.aload_n 0, 1) := by decide +kernel
theorem dX6_changeOwn_27 : decode cX6_changeOwn 27 = .ok (.iload_n 1, 1) := by decide +kernel
theorem dX6_changeOwn_28 : decode cX6_changeOwn 28 = .ok (.invokevirtual 121, 3) := by decide +kernel
theorem dX6_changeOwn_31 : decode cX6_changeOwn 31 = .ok (.iload_n 2, 1) := by decide +kernel
theorem dX6_changeOwn_32 : decode cX6_changeOwn 32 = .ok (.iload_n 3, 1) := by decide +kernel
theorem dX6_changeOwn_33 : decode cX6_changeOwn 33 = .ok (.iconst (-1), 1) := by decide +kernel
theorem dX6_changeOwn_34 : decode cX6_changeOwn 34 = .ok (.invokevirtual 151, 3) := by decide +kernel
theorem dX6_changeOwn_37 : decode cX6_changeOwn 37 = .ok (.invokevirtual 131, 3) := by decide +kernel
theorem dX6_changeOwn_40 : decode cX6_changeOwn 40 = .ok (.iload_n 3, 1) := by decide +kernel
theorem dX6_changeOwn_41 : decode cX6_changeOwn 41 = .ok (.invokestatic 135, 3) := by decide +kernel
theorem dX6_changeOwn_44 : decode cX6_changeOwn 44 = .ok (.ireturn, 1) := by decide +kernel
set_option maxRecDepth 20000 in
theorem ggX6_lastVisibleOwn_X0_show : GoodIn wsX6_lastVisibleOwn wsX0_show := goodIn_r _ [8, 9, 10, 11, 12, 13, 14, 15, 16, 17, 18, 19, 20, 21, 22, 23, 24, 25, 26, 27, 28, 29, 30, 31, 32, 33, 34, 35, 36, 37, 38, 39, 40, 41, 42, 43, 44, 45, 46, 47, 7, 48, 49, 50, 51, 52, 53, 54, 55, 56, 57, 58, 59, 60, 61, 62, 63, 64, 65, 66, 67, 68, 69, 70, 71, 72, 73, 74, 75, 76, 77, 78, 79, 80, 81, 102, 103, 104, 105, 106, 107, 108, 109, 110, 111, 112, 113, 114, 115] (by decide +kernel) (by decide +kernel)
set_option maxRecDepth 20000 in
theorem gX6_lastVisibleOwn_X0_show : GoodIn wsX6_lastVisibleOwn (wsV RX6 92 RX0 yX0_show wsX0_show) := goodIn_app (goodIn_of _ (by decide +kernel)) ggX6_lastVisibleOwn_X0_show
set_option maxRecDepth 20000 in
theorem ggX6_lastVisibleOwn_X4_madeBy : GoodIn wsX6_lastVisibleOwn wsX4_madeBy := goodIn_r _ [85, 86, 37, 29, 30, 21, 31, 23, 106, 107, 108, 109, 110, 111, 112, 113, 114] (by decide +kernel) (by decide +kernel)
set_option maxRecDepth 20000 in
theorem gX6_lastVisibleOwn_X4_madeBy : GoodIn wsX6_lastVisibleOwn (wsV RX6 89 RX4 yX4_madeBy wsX4_madeBy) := goodIn_app (goodIn_of _ (by decide +kernel)) ggX6_lastVisibleOwn_X4_madeBy
set_option maxRecDepth 20000 in
theorem ggX6_lastVisibleOwn_X6_idOf : GoodIn wsX6_lastVisibleOwn wsX6_idOf := goodIn_r _ [90] (by decide +kernel) (by decide +kernel)
set_option maxRecDepth 20000 in
theorem gX6_lastVisibleOwn_X6_idOf : GoodIn wsX6_lastVisibleOwn (va_wsS RX6 178 yX6_idOf wsX6_idOf) := goodIn_app (goodIn_of _ (by decide +kernel)) ggX6_lastVisibleOwn_X6_idOf
set_option maxRecDepth 20000 in
theorem ggX6_lastVisibleOwn_X4_isStroke : GoodIn wsX6_lastVisibleOwn wsX4_isStroke := goodIn_r _ [76, 58, 37, 29, 30, 21, 31, 23, 106, 107, 108, 109, 110, 111, 112, 113, 114] (by decide +kernel) (by decide +kernel)
set_option maxRecDepth 20000 in
theorem gX6_lastVisibleOwn_X4_isStroke : GoodIn wsX6_lastVisibleOwn (wsV RX6 204 RX4 yX4_isStroke wsX4_isStroke) := goodIn_app (goodIn_of _ (by decide +kernel)) ggX6_lastVisibleOwn_X4_isStroke
set_option maxRecDepth 20000 in
theorem ggX6_lastVisibleOwn_X0_isUndone : GoodIn wsX6_lastVisibleOwn wsX0_isUndone := goodIn_r _ [81, 9, 77, 29, 30, 21, 31, 23, 102, 103, 104, 105, 114] (by decide +kernel) (by decide +kernel)
set_option maxRecDepth 20000 in
theorem gX6_lastVisibleOwn_X0_isUndone : GoodIn wsX6_lastVisibleOwn (wsV RX6 251 RX0 yX0_isUndone wsX0_isUndone) := goodIn_app (goodIn_of _ (by decide +kernel)) ggX6_lastVisibleOwn_X0_isUndone
theorem dX6_lastVisibleOwn_0 : decode cX6_lastVisibleOwn 0 = .ok (.aload_n 0, 1) := by decide +kernel
theorem dX6_lastVisibleOwn_1 : decode cX6_lastVisibleOwn 1 = .ok (.getfield 45, 3) := by decide +kernel
theorem dX6_lastVisibleOwn_4 : decode cX6_lastVisibleOwn 4 = .ok (.aload_n 0, 1) := by decide +kernel
theorem dX6_lastVisibleOwn_5 : decode cX6_lastVisibleOwn 5 = .ok (.getfield 12, 3) := by decide +kernel
theorem dX6_lastVisibleOwn_8 : decode cX6_lastVisibleOwn 8 = .ok (.aload_n 0, 1) := by decide +kernel
theorem dX6_lastVisibleOwn_9 : decode cX6_lastVisibleOwn 9 = .ok (.getfield 28, 3) := by decide +kernel
theorem dX6_lastVisibleOwn_12 : decode cX6_lastVisibleOwn 12 = .ok (.iload_n 1, 1) := by decide +kernel
theorem dX6_lastVisibleOwn_13 : decode cX6_lastVisibleOwn 13 = .ok (.invokevirtual 92, 3) := by decide +kernel
theorem dX6_lastVisibleOwn_16 : decode cX6_lastVisibleOwn 16 = .ok (.aload_n 0, 1) := by decide +kernel
theorem dX6_lastVisibleOwn_17 : decode cX6_lastVisibleOwn 17 = .ok (.getfield 12, 3) := by decide +kernel
theorem dX6_lastVisibleOwn_20 : decode cX6_lastVisibleOwn 20 = .ok (.iload_n 1, 1) := by decide +kernel
theorem dX6_lastVisibleOwn_21 : decode cX6_lastVisibleOwn 21 = .ok (.invokevirtual 89, 3) := by decide +kernel
theorem dX6_lastVisibleOwn_24 : decode cX6_lastVisibleOwn 24 = .ok (.istore_n 2, 1) := by decide +kernel
theorem dX6_lastVisibleOwn_25 : decode cX6_lastVisibleOwn 25 = .ok (.iload_n 2, 1) := by decide +kernel
theorem dX6_lastVisibleOwn_26 : decode cX6_lastVisibleOwn 26 = .ok (.iconst 1, 1) := by decide +kernel
theorem dX6_lastVisibleOwn_27 : decode cX6_lastVisibleOwn 27 = .ok (.if_icmp .lt 39, 3) := by decide +kernel
theorem dX6_lastVisibleOwn_30 : decode cX6_lastVisibleOwn 30 = .ok (.iload_n 1, 1) := by decide +kernel
theorem dX6_lastVisibleOwn_31 : decode cX6_lastVisibleOwn 31 = .ok (.iload_n 2, 1) := by decide +kernel
theorem dX6_lastVisibleOwn_32 : decode cX6_lastVisibleOwn 32 = .ok (.invokestatic 178, 3) := by decide +kernel
theorem dX6_lastVisibleOwn_35 : decode cX6_lastVisibleOwn 35 = .ok (.istore_n 3, 1) := by decide +kernel
theorem dX6_lastVisibleOwn_36 : decode cX6_lastVisibleOwn 36 = .ok (.aload_n 0, 1) := by decide +kernel
theorem dX6_lastVisibleOwn_37 : decode cX6_lastVisibleOwn 37 = .ok (.getfield 12, 3) := by decide +kernel
theorem dX6_lastVisibleOwn_40 : decode cX6_lastVisibleOwn 40 = .ok (.iload_n 3, 1) := by decide +kernel
theorem dX6_lastVisibleOwn_41 : decode cX6_lastVisibleOwn 41 = .ok (.invokevirtual 204, 3) := by decide +kernel
theorem dX6_lastVisibleOwn_44 : decode cX6_lastVisibleOwn 44 = .ok (.ifCond .eq 16, 3) := by decide +kernel
theorem dX6_lastVisibleOwn_47 : decode cX6_lastVisibleOwn 47 = .ok (.aload_n 0, 1) := by decide +kernel
theorem dX6_lastVisibleOwn_48 : decode cX6_lastVisibleOwn 48 = .ok (.getfield 45, 3) := by decide +kernel
theorem dX6_lastVisibleOwn_51 : decode cX6_lastVisibleOwn 51 = .ok (.iload_n 3, 1) := by decide +kernel
theorem dX6_lastVisibleOwn_52 : decode cX6_lastVisibleOwn 52 = .ok (.invokevirtual 251, 3) := by decide +kernel
theorem dX6_lastVisibleOwn_55 : decode cX6_lastVisibleOwn 55 = .ok (.ifCond .ne 5, 3) := by decide +kernel
theorem dX6_lastVisibleOwn_58 : decode cX6_lastVisibleOwn 58 = .ok (.iload_n 3, 1) := by decide +kernel
theorem dX6_lastVisibleOwn_59 : decode cX6_lastVisibleOwn 59 = .ok (.ireturn, 1) := by decide +kernel
theorem dX6_lastVisibleOwn_60 : decode cX6_lastVisibleOwn 60 = .ok (.iinc 2 (-1), 3) := by decide +kernel
theorem dX6_lastVisibleOwn_63 : decode cX6_lastVisibleOwn 63 = .ok (.goto (-38), 3) := by decide +kernel
theorem dX6_lastVisibleOwn_66 : decode cX6_lastVisibleOwn 66 = .ok (.iconst (-1), 1) := by decide +kernel
theorem dX6_lastVisibleOwn_67 : decode cX6_lastVisibleOwn 67 = .ok (.ireturn, 1) := by decide +kernel
set_option maxRecDepth 20000 in
theorem ggX6_lastUndoneOwn_X0_show : GoodIn wsX6_lastUndoneOwn wsX0_show := goodIn_r _ [8, 9, 10, 11, 12, 13, 14, 15, 16, 17, 18, 19, 20, 21, 22, 23, 24, 25, 26, 27, 28, 29, 30, 31, 32, 33, 34, 35, 36, 37, 38, 39, 40, 41, 42, 43, 44, 45, 46, 47, 7, 48, 49, 50, 51, 52, 53, 54, 55, 56, 57, 58, 59, 60, 61, 62, 63, 64, 65, 66, 67, 68, 69, 70, 71, 72, 73, 74, 75, 76, 77, 78, 79, 80, 81, 103, 104, 105, 106, 107, 108, 109, 110, 111, 112, 113, 114, 115, 116] (by decide +kernel) (by decide +kernel)
set_option maxRecDepth 20000 in
theorem gX6_lastUndoneOwn_X0_show : GoodIn wsX6_lastUndoneOwn (wsV RX6 92 RX0 yX0_show wsX0_show) := goodIn_app (goodIn_of _ (by decide +kernel)) ggX6_lastUndoneOwn_X0_show
set_option maxRecDepth 20000 in
theorem ggX6_lastUndoneOwn_X4_madeBy : GoodIn wsX6_lastUndoneOwn wsX4_madeBy := goodIn_r _ [85, 86, 37, 29, 30, 21, 31, 23, 107, 108, 109, 110, 111, 112, 113, 114, 115] (by decide +kernel) (by decide +kernel)
set_option maxRecDepth 20000 in
theorem gX6_lastUndoneOwn_X4_madeBy : GoodIn wsX6_lastUndoneOwn (wsV RX6 89 RX4 yX4_madeBy wsX4_madeBy) := goodIn_app (goodIn_of _ (by decide +kernel)) ggX6_lastUndoneOwn_X4_madeBy
set_option maxRecDepth 20000 in
theorem ggX6_lastUndoneOwn_X6_idOf : GoodIn wsX6_lastUndoneOwn wsX6_idOf := goodIn_r _ [90] (by decide +kernel) (by decide +kernel)
set_option maxRecDepth 20000 in
theorem gX6_lastUndoneOwn_X6_idOf : GoodIn wsX6_lastUndoneOwn (va_wsS RX6 178 yX6_idOf wsX6_idOf) := goodIn_app (goodIn_of _ (by decide +kernel)) ggX6_lastUndoneOwn_X6_idOf
set_option maxRecDepth 20000 in
theorem ggX6_lastUndoneOwn_X4_kindOf : GoodIn wsX6_lastUndoneOwn wsX4_kindOf := goodIn_r _ [57, 58, 37, 29, 30, 21, 31, 23, 107, 108, 109, 110, 111, 112, 113, 114, 115] (by decide +kernel) (by decide +kernel)
set_option maxRecDepth 20000 in
theorem gX6_lastUndoneOwn_X4_kindOf : GoodIn wsX6_lastUndoneOwn (wsV RX6 198 RX4 yX4_kindOf wsX4_kindOf) := goodIn_app (goodIn_of _ (by decide +kernel)) ggX6_lastUndoneOwn_X4_kindOf
set_option maxRecDepth 20000 in
theorem ggX6_lastUndoneOwn_X4_targetOf : GoodIn wsX6_lastUndoneOwn wsX4_targetOf := goodIn_r _ [52, 53, 37, 29, 30, 21, 31, 23, 107, 108, 109, 110, 111, 112, 113, 114, 115] (by decide +kernel) (by decide +kernel)
set_option maxRecDepth 20000 in
theorem gX6_lastUndoneOwn_X4_targetOf : GoodIn wsX6_lastUndoneOwn (wsV RX6 210 RX4 yX4_targetOf wsX4_targetOf) := goodIn_app (goodIn_of _ (by decide +kernel)) ggX6_lastUndoneOwn_X4_targetOf
set_option maxRecDepth 20000 in
theorem ggX6_lastUndoneOwn_X0_isUndone : GoodIn wsX6_lastUndoneOwn wsX0_isUndone := goodIn_r _ [81, 9, 77, 29, 30, 21, 31, 23, 103, 104, 105, 106, 115] (by decide +kernel) (by decide +kernel)
set_option maxRecDepth 20000 in
theorem gX6_lastUndoneOwn_X0_isUndone : GoodIn wsX6_lastUndoneOwn (wsV RX6 251 RX0 yX0_isUndone wsX0_isUndone) := goodIn_app (goodIn_of _ (by decide +kernel)) ggX6_lastUndoneOwn_X0_isUndone
theorem dX6_lastUndoneOwn_0 : decode cX6_lastUndoneOwn 0 = .ok (.aload_n 0, 1) := by decide +kernel
theorem dX6_lastUndoneOwn_1 : decode cX6_lastUndoneOwn 1 = .ok (.getfield 45, 3) := by decide +kernel
theorem dX6_lastUndoneOwn_4 : decode cX6_lastUndoneOwn 4 = .ok (.aload_n 0, 1) := by decide +kernel
theorem dX6_lastUndoneOwn_5 : decode cX6_lastUndoneOwn 5 = .ok (.getfield 12, 3) := by decide +kernel
theorem dX6_lastUndoneOwn_8 : decode cX6_lastUndoneOwn 8 = .ok (.aload_n 0, 1) := by decide +kernel
theorem dX6_lastUndoneOwn_9 : decode cX6_lastUndoneOwn 9 = .ok (.getfield 28, 3) := by decide +kernel
theorem dX6_lastUndoneOwn_12 : decode cX6_lastUndoneOwn 12 = .ok (.iload_n 1, 1) := by decide +kernel
theorem dX6_lastUndoneOwn_13 : decode cX6_lastUndoneOwn 13 = .ok (.invokevirtual 92, 3) := by decide +kernel
theorem dX6_lastUndoneOwn_16 : decode cX6_lastUndoneOwn 16 = .ok (.aload_n 0, 1) := by decide +kernel
theorem dX6_lastUndoneOwn_17 : decode cX6_lastUndoneOwn 17 = .ok (.getfield 12, 3) := by decide +kernel
theorem dX6_lastUndoneOwn_20 : decode cX6_lastUndoneOwn 20 = .ok (.iload_n 1, 1) := by decide +kernel
theorem dX6_lastUndoneOwn_21 : decode cX6_lastUndoneOwn 21 = .ok (.invokevirtual 89, 3) := by decide +kernel
theorem dX6_lastUndoneOwn_24 : decode cX6_lastUndoneOwn 24 = .ok (.istore_n 2, 1) := by decide +kernel
theorem dX6_lastUndoneOwn_25 : decode cX6_lastUndoneOwn 25 = .ok (.iload_n 2, 1) := by decide +kernel
theorem dX6_lastUndoneOwn_26 : decode cX6_lastUndoneOwn 26 = .ok (.iconst 1, 1) := by decide +kernel
theorem dX6_lastUndoneOwn_27 : decode cX6_lastUndoneOwn 27 = .ok (.if_icmp .lt 54, 3) := by decide +kernel
theorem dX6_lastUndoneOwn_30 : decode cX6_lastUndoneOwn 30 = .ok (.iload_n 1, 1) := by decide +kernel
theorem dX6_lastUndoneOwn_31 : decode cX6_lastUndoneOwn 31 = .ok (.iload_n 2, 1) := by decide +kernel
theorem dX6_lastUndoneOwn_32 : decode cX6_lastUndoneOwn 32 = .ok (.invokestatic 178, 3) := by decide +kernel
theorem dX6_lastUndoneOwn_35 : decode cX6_lastUndoneOwn 35 = .ok (.istore_n 3, 1) := by decide +kernel
theorem dX6_lastUndoneOwn_36 : decode cX6_lastUndoneOwn 36 = .ok (.aload_n 0, 1) := by decide +kernel
theorem dX6_lastUndoneOwn_37 : decode cX6_lastUndoneOwn 37 = .ok (.getfield 12, 3) := by decide +kernel
theorem dX6_lastUndoneOwn_40 : decode cX6_lastUndoneOwn 40 = .ok (.iload_n 3, 1) := by decide +kernel
theorem dX6_lastUndoneOwn_41 : decode cX6_lastUndoneOwn 41 = .ok (.invokevirtual 198, 3) := by decide +kernel
theorem dX6_lastUndoneOwn_44 : decode cX6_lastUndoneOwn 44 = .ok (.iconst 1, 1) := by decide +kernel
theorem dX6_lastUndoneOwn_45 : decode cX6_lastUndoneOwn 45 = .ok (.if_icmp .ne 30, 3) := by decide +kernel
theorem dX6_lastUndoneOwn_48 : decode cX6_lastUndoneOwn 48 = .ok (.aload_n 0, 1) := by decide +kernel
theorem dX6_lastUndoneOwn_49 : decode cX6_lastUndoneOwn 49 = .ok (.getfield 45, 3) := by decide +kernel
theorem dX6_lastUndoneOwn_52 : decode cX6_lastUndoneOwn 52 = .ok (.aload_n 0, 1) := by decide +kernel
theorem dX6_lastUndoneOwn_53 : decode cX6_lastUndoneOwn 53 = .ok (.getfield 12, 3) := by decide +kernel
theorem dX6_lastUndoneOwn_56 : decode cX6_lastUndoneOwn 56 = .ok (.iload_n 3, 1) := by decide +kernel
theorem dX6_lastUndoneOwn_57 : decode cX6_lastUndoneOwn 57 = .ok (.invokevirtual 210, 3) := by decide +kernel
theorem dX6_lastUndoneOwn_60 : decode cX6_lastUndoneOwn 60 = .ok (.invokevirtual 251, 3) := by decide +kernel
theorem dX6_lastUndoneOwn_63 : decode cX6_lastUndoneOwn 63 = .ok (.ifCond .eq 12, 3) := by decide +kernel
theorem dX6_lastUndoneOwn_66 : decode cX6_lastUndoneOwn 66 = .ok (.aload_n 0, 1) := by decide +kernel
theorem dX6_lastUndoneOwn_67 : decode cX6_lastUndoneOwn 67 = .ok (.getfield 12, 3) := by decide +kernel
theorem dX6_lastUndoneOwn_70 : decode cX6_lastUndoneOwn 70 = .ok (.iload_n 3, 1) := by decide +kernel
theorem dX6_lastUndoneOwn_71 : decode cX6_lastUndoneOwn 71 = .ok (.invokevirtual 210, 3) := by decide +kernel
theorem dX6_lastUndoneOwn_74 : decode cX6_lastUndoneOwn 74 = .ok (.ireturn, 1) := by decide +kernel
theorem dX6_lastUndoneOwn_75 : decode cX6_lastUndoneOwn 75 = .ok (.iinc 2 (-1), 3) := by decide +kernel
theorem dX6_lastUndoneOwn_78 : decode cX6_lastUndoneOwn 78 = .ok (.goto (-53), 3) := by decide +kernel
theorem dX6_lastUndoneOwn_81 : decode cX6_lastUndoneOwn 81 = .ok (.iconst (-1), 1) := by decide +kernel
theorem dX6_lastUndoneOwn_82 : decode cX6_lastUndoneOwn 82 = .ok (.ireturn, 1) := by decide +kernel
set_option maxRecDepth 20000 in
theorem ggX6_deliverLink_X3_countIn : GoodIn wsX6_deliverLink wsX3_countIn := goodIn_r _ [6, 7, 8, 9, 10, 11, 12, 13, 65, 66, 67] (by decide +kernel) (by decide +kernel)
set_option maxRecDepth 20000 in
theorem gX6_deliverLink_X3_countIn : GoodIn wsX6_deliverLink (wsV RX6 159 RX3 yX3_countIn wsX3_countIn) := goodIn_app (goodIn_of _ (by decide +kernel)) ggX6_deliverLink_X3_countIn
set_option maxRecDepth 20000 in
theorem ggX6_deliverLink_X3_messageIn : GoodIn wsX6_deliverLink wsX3_messageIn := goodIn_r _ [17, 18, 8, 9, 10, 11, 12, 13, 65, 66, 67] (by decide +kernel) (by decide +kernel)
set_option maxRecDepth 20000 in
theorem gX6_deliverLink_X3_messageIn : GoodIn wsX6_deliverLink (wsV RX6 163 RX3 yX3_messageIn wsX3_messageIn) := goodIn_app (goodIn_of _ (by decide +kernel)) ggX6_deliverLink_X3_messageIn
set_option maxRecDepth 20000 in
theorem ggX6_deliverLink_X6_receive : GoodIn wsX6_deliverLink wsX6_receive := goodIn_r _ [23, 24, 25, 26, 27, 28, 29, 30, 31, 32, 33, 34, 35, 36, 37, 38, 39, 11, 40, 13, 41, 9, 10, 12, 42, 43, 44, 45, 46, 47, 48, 49, 56, 57, 58, 59, 60, 61, 62, 63, 64, 68, 67, 69, 70, 71, 72, 73, 74, 75, 76] (by decide +kernel) (by decide +kernel)
set_option maxRecDepth 20000 in
theorem gX6_deliverLink_X6_receive : GoodIn wsX6_deliverLink (wsV RX6 169 RX6 yX6_receive wsX6_receive) := goodIn_app (goodIn_of _ (by decide +kernel)) ggX6_deliverLink_X6_receive
set_option maxRecDepth 20000 in
theorem ggX6_deliverLink_X3_dropFirst : GoodIn wsX6_deliverLink wsX3_dropFirst := goodIn_r _ [53, 7, 18, 54, 28, 29, 30, 8, 9, 10, 11, 12, 13, 55, 38, 39, 40, 65, 66, 67] (by decide +kernel) (by decide +kernel)
set_option maxRecDepth 20000 in
theorem gX6_deliverLink_X3_dropFirst : GoodIn wsX6_deliverLink (wsV RX6 166 RX3 yX3_dropFirst wsX3_dropFirst) := goodIn_app (goodIn_of _ (by decide +kernel)) ggX6_deliverLink_X3_dropFirst
theorem dX6_deliverLink_0 : decode cX6_deliverLink 0 = .ok (.aload_n 0, 1) := by decide +kernel
theorem dX6_deliverLink_1 : decode cX6_deliverLink 1 = .ok (.getfield 38, 3) := by decide +kernel
theorem dX6_deliverLink_4 : decode cX6_deliverLink 4 = .ok (.iload_n 1, 1) := by decide +kernel
theorem dX6_deliverLink_5 : decode cX6_deliverLink 5 = .ok (.iload_n 2, 1) := by decide +kernel
theorem dX6_deliverLink_6 : decode cX6_deliverLink 6 = .ok (.invokevirtual 159, 3) := by decide +kernel
theorem dX6_deliverLink_9 : decode cX6_deliverLink 9 = .ok (.istore_n 3, 1) := by decide +kernel
theorem dX6_deliverLink_10 : decode cX6_deliverLink 10 = .ok (.iconst 0, 1) := by decide +kernel
theorem dX6_deliverLink_11 : decode cX6_deliverLink 11 = .ok (.istore 4, 2) := by decide +kernel
theorem dX6_deliverLink_13 : decode cX6_deliverLink 13 = .ok (.iload 4, 2) := by decide +kernel
theorem dX6_deliverLink_15 : decode cX6_deliverLink 15 = .ok (.iload_n 3, 1) := by decide +kernel
theorem dX6_deliverLink_16 : decode cX6_deliverLink 16 = .ok (.if_icmp .ge 33, 3) := by decide +kernel
theorem dX6_deliverLink_19 : decode cX6_deliverLink 19 = .ok (.aload_n 0, 1) := by decide +kernel
theorem dX6_deliverLink_20 : decode cX6_deliverLink 20 = .ok (.iload_n 2, 1) := by decide +kernel
theorem dX6_deliverLink_21 : decode cX6_deliverLink 21 = .ok (.aload_n 0, 1) := by decide +kernel
theorem dX6_deliverLink_22 : decode cX6_deliverLink 22 = .ok (.getfield 38, 3) := by decide +kernel
theorem dX6_deliverLink_25 : decode cX6_deliverLink 25 = .ok (.iload_n 1, 1) := by decide +kernel
theorem dX6_deliverLink_26 : decode cX6_deliverLink 26 = .ok (.iload_n 2, 1) := by decide +kernel
theorem dX6_deliverLink_27 : decode cX6_deliverLink 27 = .ok (.iconst 0, 1) := by decide +kernel
theorem dX6_deliverLink_28 : decode cX6_deliverLink 28 = .ok (.invokevirtual 163, 3) := by decide +kernel
theorem dX6_deliverLink_31 : decode cX6_deliverLink 31 = .ok (.invokevirtual 169, 3) := by decide +kernel
theorem dX6_deliverLink_34 : decode cX6_deliverLink 34 = .ok (.aload_n 0, 1) := by decide +kernel
theorem dX6_deliverLink_35 : decode cX6_deliverLink 35 = .ok (.getfield 38, 3) := by decide +kernel
theorem dX6_deliverLink_38 : decode cX6_deliverLink 38 = .ok (.iload_n 1, 1) := by decide +kernel
theorem dX6_deliverLink_39 : decode cX6_deliverLink 39 = .ok (.iload_n 2, 1) := by decide +kernel
theorem dX6_deliverLink_40 : decode cX6_deliverLink 40 = .ok (.invokevirtual 166, 3) := by decide +kernel
theorem dX6_deliverLink_43 : decode cX6_deliverLink 43 = .ok (.iinc 4 1, 3) := by decide +kernel
theorem dX6_deliverLink_46 : decode cX6_deliverLink 46 = .ok (.goto (-33), 3) := by decide +kernel
theorem dX6_deliverLink_49 : decode cX6_deliverLink 49 = .ok (.iload_n 3, 1) := by decide +kernel
theorem dX6_deliverLink_50 : decode cX6_deliverLink 50 = .ok (.ireturn, 1) := by decide +kernel
set_option maxRecDepth 20000 in
theorem ggX6_canRepair_X2_isInGap : GoodIn wsX6_canRepair wsX2_isInGap := goodIn_r _ [6, 7, 8, 9, 5, 10, 11, 12, 13, 14, 15, 16, 17, 18, 19, 20, 21, 22, 23, 24, 25, 26, 27, 28, 39, 40] (by decide +kernel) (by decide +kernel)
set_option maxRecDepth 20000 in
theorem gX6_canRepair_X2_isInGap : GoodIn wsX6_canRepair (wsV RX6 254 RX2 yX2_isInGap wsX2_isInGap) := goodIn_app (goodIn_of _ (by decide +kernel)) ggX6_canRepair_X2_isInGap
set_option maxRecDepth 20000 in
theorem ggX6_canRepair_X2_has : GoodIn wsX6_canRepair wsX2_has := goodIn_r _ [10, 11, 12, 13, 14, 15, 16, 17, 39, 40] (by decide +kernel) (by decide +kernel)
set_option maxRecDepth 20000 in
theorem gX6_canRepair_X2_has : GoodIn wsX6_canRepair (wsV RX6 181 RX2 yX2_has wsX2_has) := goodIn_app (goodIn_of _ (by decide +kernel)) ggX6_canRepair_X2_has
theorem dX6_canRepair_0 : decode cX6_canRepair 0 = .ok (.aload_n 0, 1) := by decide +kernel
theorem dX6_canRepair_1 : decode cX6_canRepair 1 = .ok (.getfield 28, 3) := by decide +kernel
theorem dX6_canRepair_4 : decode cX6_canRepair 4 = .ok (.iload_n 1, 1) := by decide +kernel
theorem dX6_canRepair_5 : decode cX6_canRepair 5 = .ok (.iload_n 3, 1) := by decide +kernel
theorem dX6_canRepair_6 : decode cX6_canRepair 6 = .ok (.invokevirtual 254, 3) := by decide +kernel
theorem dX6_canRepair_9 : decode cX6_canRepair 9 = .ok (.ifCond .eq 19, 3) := by decide +kernel
theorem dX6_canRepair_12 : decode cX6_canRepair 12 = .ok (.aload_n 0, 1) := by decide +kernel
theorem dX6_canRepair_13 : decode cX6_canRepair 13 = .ok (.getfield 28, 3) := by decide +kernel
theorem dX6_canRepair_16 : decode cX6_canRepair 16 = .ok (.iload_n 2, 1) := by decide +kernel
theorem dX6_canRepair_17 : decode cX6_canRepair 17 = .ok (.iload_n 3, 1) := by decide +kernel
theorem dX6_canRepair_18 : decode cX6_canRepair 18 = .ok (.invokevirtual 181, 3) := by decide +kernel
theorem dX6_canRepair_21 : decode cX6_canRepair 21 = .ok (.ifCond .eq 7, 3) := by decide +kernel
theorem dX6_canRepair_24 : decode cX6_canRepair 24 = .ok (.iconst 1, 1) := by decide +kernel
theorem dX6_canRepair_25 : decode cX6_canRepair 25 = .ok (.goto 4, 3) := by decide +kernel
theorem dX6_canRepair_28 : decode cX6_canRepair 28 = .ok (.iconst 0, 1) := by decide +kernel
theorem dX6_canRepair_29 : decode cX6_canRepair 29 = .ok (.ireturn, 1) := by decide +kernel
set_option maxRecDepth 20000 in
theorem ggX6_repairable_X6_canRepair : GoodIn wsX6_repairable wsX6_canRepair := goodIn_r _ [5, 6, 7, 8, 9, 10, 11, 12, 13, 14, 15, 16, 17, 18, 19, 20, 21, 22, 23, 24, 25, 26, 27, 4, 28, 29, 30, 31, 32, 33, 34, 35, 36, 37, 38, 39, 40, 41, 42, 43, 44] (by decide +kernel) (by decide +kernel)
set_option maxRecDepth 20000 in
theorem gX6_repairable_X6_canRepair : GoodIn wsX6_repairable (wsV RX6 184 RX6 yX6_canRepair wsX6_canRepair) := goodIn_app (goodIn_of _ (by decide +kernel)) ggX6_repairable_X6_canRepair
theorem dX6_repairable_0 : decode cX6_repairable 0 = .ok (.iconst 0, 1) := by decide +kernel
theorem dX6_repairable_1 : decode cX6_repairable 1 = .ok (.istore_n 3, 1) := by decide +kernel
theorem dX6_repairable_2 : decode cX6_repairable 2 = .ok (.iconst 0, 1) := by decide +kernel
theorem dX6_repairable_3 : decode cX6_repairable 3 = .ok (.istore 4, 2) := by decide +kernel
theorem dX6_repairable_5 : decode cX6_repairable 5 = .ok (.iload 4, 2) := by decide +kernel
theorem dX6_repairable_7 : decode cX6_repairable 7 = .ok (.bipush 100, 2) := by decide +kernel
theorem dX6_repairable_9 : decode cX6_repairable 9 = .ok (.if_icmp .ge 23, 3) := by decide +kernel
theorem dX6_repairable_12 : decode cX6_repairable 12 = .ok (.aload_n 0, 1) := by decide +kernel
theorem dX6_repairable_13 : decode cX6_repairable 13 = .ok (.iload_n 1, 1) := by decide +kernel
theorem dX6_repairable_14 : decode cX6_repairable 14 = .ok (.iload_n 2, 1) := by decide +kernel
theorem dX6_repairable_15 : decode cX6_repairable 15 = .ok (.iload 4, 2) := by decide +kernel
theorem dX6_repairable_17 : decode cX6_repairable 17 = .ok (.invokevirtual 184, 3) := by decide +kernel
theorem dX6_repairable_20 : decode cX6_repairable 20 = .ok (.ifCond .eq 6, 3) := by decide +kernel
theorem dX6_repairable_23 : decode cX6_repairable 23 = .ok (.iinc 3 1, 3) := by decide +kernel
theorem dX6_repairable_26 : decode cX6_repairable 26 = .ok (.iinc 4 1, 3) := by decide +kernel
theorem dX6_repairable_29 : decode cX6_repairable 29 = .ok (.goto (-24), 3) := by decide +kernel
theorem dX6_repairable_32 : decode cX6_repairable 32 = .ok (.iload_n 3, 1) := by decide +kernel
theorem dX6_repairable_33 : decode cX6_repairable 33 = .ok (.ireturn, 1) := by decide +kernel
set_option maxRecDepth 20000 in
theorem ggX6_strokeValue_X6_authorOf : GoodIn wsX6_strokeValue wsX6_authorOf := goodIn_r _ [6] (by decide +kernel) (by decide +kernel)
set_option maxRecDepth 20000 in
theorem gX6_strokeValue_X6_authorOf : GoodIn wsX6_strokeValue (va_wsS RX6 172 yX6_authorOf wsX6_authorOf) := goodIn_app (goodIn_of _ (by decide +kernel)) ggX6_strokeValue_X6_authorOf
set_option maxRecDepth 20000 in
theorem ggX6_strokeValue_X6_numberOf : GoodIn wsX6_strokeValue wsX6_numberOf := goodIn_r _ [9] (by decide +kernel) (by decide +kernel)
set_option maxRecDepth 20000 in
theorem gX6_strokeValue_X6_numberOf : GoodIn wsX6_strokeValue (va_wsS RX6 135 yX6_numberOf wsX6_numberOf) := goodIn_app (goodIn_of _ (by decide +kernel)) ggX6_strokeValue_X6_numberOf
set_option maxRecDepth 20000 in
theorem ggX6_strokeValue_X0_layerOf : GoodIn wsX6_strokeValue wsX0_layerOf := goodIn_r _ [14, 15, 16, 17, 18, 19, 20, 21, 51, 52, 53, 54, 55] (by decide +kernel) (by decide +kernel)
set_option maxRecDepth 20000 in
theorem gX6_strokeValue_X0_layerOf : GoodIn wsX6_strokeValue (wsV RX6 257 RX0 yX0_layerOf wsX0_layerOf) := goodIn_app (goodIn_of _ (by decide +kernel)) ggX6_strokeValue_X0_layerOf
set_option maxRecDepth 20000 in
theorem ggX6_strokeValue_X1_colorOf : GoodIn wsX6_strokeValue wsX1_colorOf := goodIn_r _ [26, 27, 28, 17, 18, 19, 20, 21, 56, 57, 58, 59, 60, 55] (by decide +kernel) (by decide +kernel)
set_option maxRecDepth 20000 in
theorem gX6_strokeValue_X1_colorOf : GoodIn wsX6_strokeValue (wsV RX6 258 RX1 yX1_colorOf wsX1_colorOf) := goodIn_app (goodIn_of _ (by decide +kernel)) ggX6_strokeValue_X1_colorOf
set_option maxRecDepth 20000 in
theorem ggX6_strokeValue_X1_pointCount : GoodIn wsX6_strokeValue wsX1_pointCount := goodIn_r _ [32, 33, 28, 17, 18, 19, 20, 21, 56, 57, 58, 59, 60, 55] (by decide +kernel) (by decide +kernel)
set_option maxRecDepth 20000 in
theorem gX6_strokeValue_X1_pointCount : GoodIn wsX6_strokeValue (wsV RX6 100 RX1 yX1_pointCount wsX1_pointCount) := goodIn_app (goodIn_of _ (by decide +kernel)) ggX6_strokeValue_X1_pointCount
theorem dX6_strokeValue_0 : decode cX6_strokeValue 0 = .ok (.iload_n 2, 1) := by decide +kernel
theorem dX6_strokeValue_1 : decode cX6_strokeValue 1 = .ok (.tableswitch 62 0 3 #[31, 36, 41, 50], 31) := by decide +kernel
theorem dX6_strokeValue_32 : decode cX6_strokeValue 32 = .ok (.iload_n 1, 1) := by decide +kernel
theorem dX6_strokeValue_33 : decode cX6_strokeValue 33 = .ok (.invokestatic 172, 3) := by decide +kernel
theorem dX6_strokeValue_36 : decode cX6_strokeValue 36 = .ok (.ireturn, 1) := by decide +kernel
theorem dX6_strokeValue_37 : decode cX6_strokeValue 37 = .ok (.iload_n 1, 1) := by decide +kernel
theorem dX6_strokeValue_38 : decode cX6_strokeValue 38 = .ok (.invokestatic 135, 3) := by decide +kernel
theorem dX6_strokeValue_41 : decode cX6_strokeValue 41 = .ok (.ireturn, 1) := by decide +kernel
theorem dX6_strokeValue_42 : decode cX6_strokeValue 42 = .ok (.aload_n 0, 1) := by decide +kernel
theorem dX6_strokeValue_43 : decode cX6_strokeValue 43 = .ok (.getfield 45, 3) := by decide +kernel
theorem dX6_strokeValue_46 : decode cX6_strokeValue 46 = .ok (.iload_n 1, 1) := by decide +kernel
theorem dX6_strokeValue_47 : decode cX6_strokeValue 47 = .ok (.invokevirtual 257, 3) := by decide +kernel
theorem dX6_strokeValue_50 : decode cX6_strokeValue 50 = .ok (.ireturn, 1) := by decide +kernel
theorem dX6_strokeValue_51 : decode cX6_strokeValue 51 = .ok (.aload_n 0, 1) := by decide +kernel
theorem dX6_strokeValue_52 : decode cX6_strokeValue 52 = .ok (.getfield 12, 3) := by decide +kernel
theorem dX6_strokeValue_55 : decode cX6_strokeValue 55 = .ok (.getfield 207, 3) := by decide +kernel
theorem dX6_strokeValue_58 : decode cX6_strokeValue 58 = .ok (.iload_n 1, 1) := by decide +kernel
theorem dX6_strokeValue_59 : decode cX6_strokeValue 59 = .ok (.invokevirtual 258, 3) := by decide +kernel
theorem dX6_strokeValue_62 : decode cX6_strokeValue 62 = .ok (.ireturn, 1) := by decide +kernel
theorem dX6_strokeValue_63 : decode cX6_strokeValue 63 = .ok (.aload_n 0, 1) := by decide +kernel
theorem dX6_strokeValue_64 : decode cX6_strokeValue 64 = .ok (.getfield 12, 3) := by decide +kernel
theorem dX6_strokeValue_67 : decode cX6_strokeValue 67 = .ok (.getfield 207, 3) := by decide +kernel
theorem dX6_strokeValue_70 : decode cX6_strokeValue 70 = .ok (.iload_n 1, 1) := by decide +kernel
theorem dX6_strokeValue_71 : decode cX6_strokeValue 71 = .ok (.invokevirtual 100, 3) := by decide +kernel
theorem dX6_strokeValue_74 : decode cX6_strokeValue 74 = .ok (.ireturn, 1) := by decide +kernel
set_option maxRecDepth 20000 in
theorem ggX6_coordinate_X1_pointCount : GoodIn wsX6_coordinate wsX1_pointCount := goodIn_r _ [7, 8, 9, 10, 11, 12, 13, 14, 42, 43, 44, 45, 46, 47] (by decide +kernel) (by decide +kernel)
set_option maxRecDepth 20000 in
theorem gX6_coordinate_X1_pointCount : GoodIn wsX6_coordinate (wsV RX6 100 RX1 yX1_pointCount wsX1_pointCount) := goodIn_app (goodIn_of _ (by decide +kernel)) ggX6_coordinate_X1_pointCount
set_option maxRecDepth 20000 in
theorem ggX6_coordinate_X1_xOf : GoodIn wsX6_coordinate wsX1_xOf := goodIn_r _ [18, 19, 9, 10, 11, 12, 13, 14, 42, 43, 44, 45, 46, 47] (by decide +kernel) (by decide +kernel)
set_option maxRecDepth 20000 in
theorem gX6_coordinate_X1_xOf : GoodIn wsX6_coordinate (wsV RX6 111 RX1 yX1_xOf wsX1_xOf) := goodIn_app (goodIn_of _ (by decide +kernel)) ggX6_coordinate_X1_xOf
set_option maxRecDepth 20000 in
theorem ggX6_coordinate_X1_yOf : GoodIn wsX6_coordinate wsX1_yOf := goodIn_r _ [23, 24, 9, 10, 11, 12, 13, 14, 42, 43, 44, 45, 46, 47] (by decide +kernel) (by decide +kernel)
set_option maxRecDepth 20000 in
theorem gX6_coordinate_X1_yOf : GoodIn wsX6_coordinate (wsV RX6 115 RX1 yX1_yOf wsX1_yOf) := goodIn_app (goodIn_of _ (by decide +kernel)) ggX6_coordinate_X1_yOf
theorem dX6_coordinate_0 : decode cX6_coordinate 0 = .ok (.iload_n 2, 1) := by decide +kernel
theorem dX6_coordinate_1 : decode cX6_coordinate 1 = .ok (.iconst 2, 1) := by decide +kernel
theorem dX6_coordinate_2 : decode cX6_coordinate 2 = .ok (.idiv, 1) := by decide +kernel
theorem dX6_coordinate_3 : decode cX6_coordinate 3 = .ok (.istore_n 3, 1) := by decide +kernel
theorem dX6_coordinate_4 : decode cX6_coordinate 4 = .ok (.iload_n 3, 1) := by decide +kernel
theorem dX6_coordinate_5 : decode cX6_coordinate 5 = .ok (.aload_n 0, 1) := by decide +kernel
theorem dX6_coordinate_6 : decode cX6_coordinate 6 = .ok (.getfield 12, 3) := by decide +kernel
theorem dX6_coordinate_9 : decode cX6_coordinate 9 = .ok (.getfield 207, 3) := by decide +kernel
theorem dX6_coordinate_12 : decode cX6_coordinate 12 = .ok (.iload_n 1, 1) := by decide +kernel
theorem dX6_coordinate_13 : decode cX6_coordinate 13 = .ok (.invokevirtual 100, 3) := by decide +kernel
theorem dX6_coordinate_16 : decode cX6_coordinate 16 = .ok (.if_icmp .lt 6, 3) := by decide +kernel
theorem dX6_coordinate_19 : decode cX6_coordinate 19 = .ok (.ldc 162, 2) := by decide +kernel
theorem dX6_coordinate_21 : decode cX6_coordinate 21 = .ok (.ireturn, 1) := by decide +kernel
theorem dX6_coordinate_22 : decode cX6_coordinate 22 = .ok (.iload_n 2, 1) := by decide +kernel
theorem dX6_coordinate_23 : decode cX6_coordinate 23 = .ok (.iconst 2, 1) := by decide +kernel
theorem dX6_coordinate_24 : decode cX6_coordinate 24 = .ok (.irem, 1) := by decide +kernel
theorem dX6_coordinate_25 : decode cX6_coordinate 25 = .ok (.ifCond .ne 18, 3) := by decide +kernel
theorem dX6_coordinate_28 : decode cX6_coordinate 28 = .ok (.aload_n 0, 1) := by decide +kernel
theorem dX6_coordinate_29 : decode cX6_coordinate 29 = .ok (.getfield 12, 3) := by decide +kernel
theorem dX6_coordinate_32 : decode cX6_coordinate 32 = .ok (.getfield 207, 3) := by decide +kernel
theorem dX6_coordinate_35 : decode cX6_coordinate 35 = .ok (.iload_n 1, 1) := by decide +kernel
theorem dX6_coordinate_36 : decode cX6_coordinate 36 = .ok (.iload_n 3, 1) := by decide +kernel
theorem dX6_coordinate_37 : decode cX6_coordinate 37 = .ok (.invokevirtual 111, 3) := by decide +kernel
theorem dX6_coordinate_40 : decode cX6_coordinate 40 = .ok (.goto 15, 3) := by decide +kernel
theorem dX6_coordinate_43 : decode cX6_coordinate 43 = .ok (.aload_n 0, 1) := by decide +kernel
theorem dX6_coordinate_44 : decode cX6_coordinate 44 = .ok (.getfield 12, 3) := by decide +kernel
theorem dX6_coordinate_47 : decode cX6_coordinate 47 = .ok (.getfield 207, 3) := by decide +kernel
theorem dX6_coordinate_50 : decode cX6_coordinate 50 = .ok (.iload_n 1, 1) := by decide +kernel
theorem dX6_coordinate_51 : decode cX6_coordinate 51 = .ok (.iload_n 3, 1) := by decide +kernel
theorem dX6_coordinate_52 : decode cX6_coordinate 52 = .ok (.invokevirtual 115, 3) := by decide +kernel
theorem dX6_coordinate_55 : decode cX6_coordinate 55 = .ok (.ireturn, 1) := by decide +kernel
set_option maxRecDepth 20000 in
theorem ggX6_showSame_X0_show : GoodIn wsX6_showSame wsX0_show := goodIn_r _ [8, 9, 10, 11, 12, 13, 14, 15, 16, 17, 18, 19, 20, 21, 22, 23, 24, 25, 26, 27, 28, 29, 30, 31, 32, 33, 34, 35, 36, 37, 38, 39, 40, 41, 42, 43, 44, 45, 46, 47, 7, 48, 49, 50, 51, 52, 53, 54, 55, 56, 57, 58, 59, 60, 61, 62, 63, 64, 65, 66, 67, 68, 69, 70, 71, 72, 73, 74, 75, 76, 77, 78, 79, 80, 81, 103, 104, 105, 106, 107, 108, 109, 110, 111, 112, 113, 114, 115, 116] (by decide +kernel) (by decide +kernel)
set_option maxRecDepth 20000 in
theorem gX6_showSame_X0_show : GoodIn wsX6_showSame (wsV RX6 92 RX0 yX0_show wsX0_show) := goodIn_app (goodIn_of _ (by decide +kernel)) ggX6_showSame_X0_show
set_option maxRecDepth 20000 in
theorem ggX6_showSame_X0_matches : GoodIn wsX6_showSame wsX0_matches := goodIn_r _ [85, 11, 72, 10, 77, 29, 30, 21, 31, 23, 86, 87, 88, 7, 89, 90, 91, 92, 93, 103, 104, 105, 106, 115] (by decide +kernel) (by decide +kernel)
set_option maxRecDepth 20000 in
theorem gX6_showSame_X0_matches : GoodIn wsX6_showSame (wsV RX6 261 RX0 yX0_matches wsX0_matches) := goodIn_app (goodIn_of _ (by decide +kernel)) ggX6_showSame_X0_matches
theorem dX6_showSame_0 : decode cX6_showSame 0 = .ok (.aload_n 0, 1) := by decide +kernel
theorem dX6_showSame_1 : decode cX6_showSame 1 = .ok (.getfield 45, 3) := by decide +kernel
theorem dX6_showSame_4 : decode cX6_showSame 4 = .ok (.aload_n 0, 1) := by decide +kernel
theorem dX6_showSame_5 : decode cX6_showSame 5 = .ok (.getfield 12, 3) := by decide +kernel
theorem dX6_showSame_8 : decode cX6_showSame 8 = .ok (.aload_n 1, 1) := by decide +kernel
theorem dX6_showSame_9 : decode cX6_showSame 9 = .ok (.iload_n 2, 1) := by decide +kernel
theorem dX6_showSame_10 : decode cX6_showSame 10 = .ok (.invokevirtual 92, 3) := by decide +kernel
theorem dX6_showSame_13 : decode cX6_showSame 13 = .ok (.aload_n 0, 1) := by decide +kernel
theorem dX6_showSame_14 : decode cX6_showSame 14 = .ok (.getfield 49, 3) := by decide +kernel
theorem dX6_showSame_17 : decode cX6_showSame 17 = .ok (.aload_n 0, 1) := by decide +kernel
theorem dX6_showSame_18 : decode cX6_showSame 18 = .ok (.getfield 12, 3) := by decide +kernel
theorem dX6_showSame_21 : decode cX6_showSame 21 = .ok (.aload_n 1, 1) := by decide +kernel
theorem dX6_showSame_22 : decode cX6_showSame 22 = .ok (.iload_n 3, 1) := by decide +kernel
theorem dX6_showSame_23 : decode cX6_showSame 23 = .ok (.invokevirtual 92, 3) := by decide +kernel
theorem dX6_showSame_26 : decode cX6_showSame 26 = .ok (.aload_n 0, 1) := by decide +kernel
theorem dX6_showSame_27 : decode cX6_showSame 27 = .ok (.getfield 45, 3) := by decide +kernel
theorem dX6_showSame_30 : decode cX6_showSame 30 = .ok (.aload_n 0, 1) := by decide +kernel
theorem dX6_showSame_31 : decode cX6_showSame 31 = .ok (.getfield 49, 3) := by decide +kernel
theorem dX6_showSame_34 : decode cX6_showSame 34 = .ok (.invokevirtual 261, 3) := by decide +kernel
theorem dX6_showSame_37 : decode cX6_showSame 37 = .ok (.ireturn, 1) := by decide +kernel
set_option maxRecDepth 20000 in
theorem ggX6_lookAhead_X2_copyFrom : GoodIn wsX6_lookAhead wsX2_copyFrom := goodIn_r _ [9, 10, 11, 12, 13, 14, 15, 16, 17, 18, 19, 20, 50, 51] (by decide +kernel) (by decide +kernel)
set_option maxRecDepth 20000 in
theorem gX6_lookAhead_X2_copyFrom : GoodIn wsX6_lookAhead (wsV RX6 265 RX2 yX2_copyFrom wsX2_copyFrom) := goodIn_app (goodIn_of _ (by decide +kernel)) ggX6_lookAhead_X2_copyFrom
set_option maxRecDepth 20000 in
theorem ggX6_lookAhead_X3_countIn : GoodIn wsX6_lookAhead wsX3_countIn := goodIn_r _ [25, 26, 27, 18, 19, 14, 20, 16, 52, 53, 51] (by decide +kernel) (by decide +kernel)
set_option maxRecDepth 20000 in
theorem gX6_lookAhead_X3_countIn : GoodIn wsX6_lookAhead (wsV RX6 159 RX3 yX3_countIn wsX3_countIn) := goodIn_app (goodIn_of _ (by decide +kernel)) ggX6_lookAhead_X3_countIn
set_option maxRecDepth 20000 in
theorem ggX6_lookAhead_X3_messageIn : GoodIn wsX6_lookAhead wsX3_messageIn := goodIn_r _ [31, 32, 27, 18, 19, 14, 20, 16, 52, 53, 51] (by decide +kernel) (by decide +kernel)
set_option maxRecDepth 20000 in
theorem gX6_lookAhead_X3_messageIn : GoodIn wsX6_lookAhead (wsV RX6 163 RX3 yX3_messageIn wsX3_messageIn) := goodIn_app (goodIn_of _ (by decide +kernel)) ggX6_lookAhead_X3_messageIn
set_option maxRecDepth 20000 in
theorem ggX6_lookAhead_X2_learn : GoodIn wsX6_lookAhead wsX2_learn := goodIn_r _ [36, 10, 37, 38, 39, 14, 40, 16, 50, 51] (by decide +kernel) (by decide +kernel)
set_option maxRecDepth 20000 in
theorem gX6_lookAhead_X2_learn : GoodIn wsX6_lookAhead (wsV RX6 245 RX2 yX2_learn wsX2_learn) := goodIn_app (goodIn_of _ (by decide +kernel)) ggX6_lookAhead_X2_learn
theorem dX6_lookAhead_0 : decode cX6_lookAhead 0 = .ok (.aload_n 0, 1) := by decide +kernel
theorem dX6_lookAhead_1 : decode cX6_lookAhead 1 = .ok (.getfield 32, 3) := by decide +kernel
theorem dX6_lookAhead_4 : decode cX6_lookAhead 4 = .ok (.aload_n 0, 1) := by decide +kernel
theorem dX6_lookAhead_5 : decode cX6_lookAhead 5 = .ok (.getfield 28, 3) := by decide +kernel
theorem dX6_lookAhead_8 : decode cX6_lookAhead 8 = .ok (.invokevirtual 265, 3) := by decide +kernel
theorem dX6_lookAhead_11 : decode cX6_lookAhead 11 = .ok (.iconst 0, 1) := by decide +kernel
theorem dX6_lookAhead_12 : decode cX6_lookAhead 12 = .ok (.istore_n 1, 1) := by decide +kernel
theorem dX6_lookAhead_13 : decode cX6_lookAhead 13 = .ok (.iload_n 1, 1) := by decide +kernel
theorem dX6_lookAhead_14 : decode cX6_lookAhead 14 = .ok (.aload_n 0, 1) := by decide +kernel
theorem dX6_lookAhead_15 : decode cX6_lookAhead 15 = .ok (.getfield 59, 3) := by decide +kernel
theorem dX6_lookAhead_18 : decode cX6_lookAhead 18 = .ok (.if_icmp .ge 64, 3) := by decide +kernel
theorem dX6_lookAhead_21 : decode cX6_lookAhead 21 = .ok (.iconst 0, 1) := by decide +kernel
theorem dX6_lookAhead_22 : decode cX6_lookAhead 22 = .ok (.istore_n 2, 1) := by decide +kernel
theorem dX6_lookAhead_23 : decode cX6_lookAhead 23 = .ok (.iload_n 2, 1) := by decide +kernel
theorem dX6_lookAhead_24 : decode cX6_lookAhead 24 = .ok (.aload_n 0, 1) := by decide +kernel
theorem dX6_lookAhead_25 : decode cX6_lookAhead 25 = .ok (.getfield 59, 3) := by decide +kernel
theorem dX6_lookAhead_28 : decode cX6_lookAhead 28 = .ok (.if_icmp .ge 48, 3) := by decide +kernel
theorem dX6_lookAhead_31 : decode cX6_lookAhead 31 = .ok (.iconst 0, 1) := by decide +kernel
theorem dX6_lookAhead_32 : decode cX6_lookAhead 32 = .ok (.istore_n 3, 1) := by decide +kernel
theorem dX6_lookAhead_33 : decode cX6_lookAhead 33 = .ok (.iload_n 3, 1) := by decide +kernel
theorem dX6_lookAhead_34 : decode cX6_lookAhead 34 = .ok (.aload_n 0, 1) := by decide +kernel
theorem dX6_lookAhead_35 : decode cX6_lookAhead 35 = .ok (.getfield 38, 3) := by decide +kernel
theorem dX6_lookAhead_38 : decode cX6_lookAhead 38 = .ok (.iload_n 1, 1) := by decide +kernel
theorem dX6_lookAhead_39 : decode cX6_lookAhead 39 = .ok (.iload_n 2, 1) := by decide +kernel
theorem dX6_lookAhead_40 : decode cX6_lookAhead 40 = .ok (.invokevirtual 159, 3) := by decide +kernel
theorem dX6_lookAhead_43 : decode cX6_lookAhead 43 = .ok (.if_icmp .ge 27, 3) := by decide +kernel
theorem dX6_lookAhead_46 : decode cX6_lookAhead 46 = .ok (.aload_n 0, 1) := by decide +kernel
theorem dX6_lookAhead_47 : decode cX6_lookAhead 47 = .ok (.getfield 32, 3) := by decide +kernel
theorem dX6_lookAhead_50 : decode cX6_lookAhead 50 = .ok (.iload_n 2, 1) := by decide +kernel
theorem dX6_lookAhead_51 : decode cX6_lookAhead 51 = .ok (.aload_n 0, 1) := by decide +kernel
theorem dX6_lookAhead_52 : decode cX6_lookAhead 52 = .ok (.getfield 38, 3) := by decide +kernel
theorem dX6_lookAhead_55 : decode cX6_lookAhead 55 = .ok (.iload_n 1, 1) := by decide +kernel
theorem dX6_lookAhead_56 : decode cX6_lookAhead 56 = .ok (.iload_n 2, 1) := by decide +kernel
theorem dX6_lookAhead_57 : decode cX6_lookAhead 57 = .ok (.iload_n 3, 1) := by decide +kernel
theorem dX6_lookAhead_58 : decode cX6_lookAhead 58 = .ok (.invokevirtual 163, 3) := by decide +kernel
theorem dX6_lookAhead_61 : decode cX6_lookAhead 61 = .ok (.invokevirtual 245, 3) := by decide +kernel
theorem dX6_lookAhead_64 : decode cX6_lookAhead 64 = .ok (.iinc 3 1, 3) := by decide +kernel
theorem dX6_lookAhead_67 : decode cX6_lookAhead 67 = .ok (.goto (-34), 3) := by decide +kernel
theorem dX6_lookAhead_70 : decode cX6_lookAhead 70 = .ok (.iinc 2 1, 3) := by decide +kernel
theorem dX6_lookAhead_73 : decode cX6_lookAhead 73 = .ok (.goto (-50), 3) := by decide +kernel
theorem dX6_lookAhead_76 : decode cX6_lookAhead 76 = .ok (.iinc 1 1, 3) := by decide +kernel
theorem dX6_lookAhead_79 : decode cX6_lookAhead 79 = .ok (.goto (-66), 3) := by decide +kernel
theorem dX6_lookAhead_82 : decode cX6_lookAhead 82 = .ok (.return_, 1) := by decide +kernel
set_option maxRecDepth 20000 in
theorem ggX6_isKnownBeside_X2_has : GoodIn wsX6_isKnownBeside wsX2_has := goodIn_r _ [7, 8, 9, 10, 11, 12, 13, 14, 24, 25] (by decide +kernel) (by decide +kernel)
set_option maxRecDepth 20000 in
theorem gX6_isKnownBeside_X2_has : GoodIn wsX6_isKnownBeside (wsV RX6 181 RX2 yX2_has wsX2_has) := goodIn_app (goodIn_of _ (by decide +kernel)) ggX6_isKnownBeside_X2_has
theorem dX6_isKnownBeside_0 : decode cX6_isKnownBeside 0 = .ok (.iconst 0, 1) := by decide +kernel
theorem dX6_isKnownBeside_1 : decode cX6_isKnownBeside 1 = .ok (.istore_n 3, 1) := by decide +kernel
theorem dX6_isKnownBeside_2 : decode cX6_isKnownBeside 2 = .ok (.iload_n 3, 1) := by decide +kernel
theorem dX6_isKnownBeside_3 : decode cX6_isKnownBeside 3 = .ok (.aload_n 0, 1) := by decide +kernel
theorem dX6_isKnownBeside_4 : decode cX6_isKnownBeside 4 = .ok (.getfield 59, 3) := by decide +kernel
theorem dX6_isKnownBeside_7 : decode cX6_isKnownBeside 7 = .ok (.if_icmp .ge 28, 3) := by decide +kernel
theorem dX6_isKnownBeside_10 : decode cX6_isKnownBeside 10 = .ok (.iload_n 3, 1) := by decide +kernel
theorem dX6_isKnownBeside_11 : decode cX6_isKnownBeside 11 = .ok (.iload_n 1, 1) := by decide +kernel
theorem dX6_isKnownBeside_12 : decode cX6_isKnownBeside 12 = .ok (.if_icmp .eq 17, 3) := by decide +kernel
theorem dX6_isKnownBeside_15 : decode cX6_isKnownBeside 15 = .ok (.aload_n 0, 1) := by decide +kernel
theorem dX6_isKnownBeside_16 : decode cX6_isKnownBeside 16 = .ok (.getfield 28, 3) := by decide +kernel
theorem dX6_isKnownBeside_19 : decode cX6_isKnownBeside 19 = .ok (.iload_n 3, 1) := by decide +kernel
theorem dX6_isKnownBeside_20 : decode cX6_isKnownBeside 20 = .ok (.iload_n 2, 1) := by decide +kernel
theorem dX6_isKnownBeside_21 : decode cX6_isKnownBeside 21 = .ok (.invokevirtual 181, 3) := by decide +kernel
theorem dX6_isKnownBeside_24 : decode cX6_isKnownBeside 24 = .ok (.ifCond .eq 5, 3) := by decide +kernel
theorem dX6_isKnownBeside_27 : decode cX6_isKnownBeside 27 = .ok (.iconst 1, 1) := by decide +kernel
theorem dX6_isKnownBeside_28 : decode cX6_isKnownBeside 28 = .ok (.ireturn, 1) := by decide +kernel
theorem dX6_isKnownBeside_29 : decode cX6_isKnownBeside 29 = .ok (.iinc 3 1, 3) := by decide +kernel
theorem dX6_isKnownBeside_32 : decode cX6_isKnownBeside 32 = .ok (.goto (-30), 3) := by decide +kernel
theorem dX6_isKnownBeside_35 : decode cX6_isKnownBeside 35 = .ok (.iconst 0, 1) := by decide +kernel
theorem dX6_isKnownBeside_36 : decode cX6_isKnownBeside 36 = .ok (.ireturn, 1) := by decide +kernel
theorem dJ6_compare_7cf53_0 : decode cJ6_compare_7cf53 0 = .ok (.iload_n 0, 1) := by decide +kernel
theorem dJ6_compare_7cf53_1 : decode cJ6_compare_7cf53 1 = .ok (.iload_n 1, 1) := by decide +kernel
theorem dJ6_compare_7cf53_2 : decode cJ6_compare_7cf53 2 = .ok (.if_icmp .ge 7, 3) := by decide +kernel
theorem dJ6_compare_7cf53_5 : decode cJ6_compare_7cf53 5 = .ok (.iconst (-1), 1) := by decide +kernel
theorem dJ6_compare_7cf53_6 : decode cJ6_compare_7cf53 6 = .ok (.goto 13, 3) := by decide +kernel
theorem dJ6_compare_7cf53_9 : decode cJ6_compare_7cf53 9 = .ok (.iload_n 0, 1) := by decide +kernel
theorem dJ6_compare_7cf53_10 : decode cJ6_compare_7cf53 10 = .ok (.iload_n 1, 1) := by decide +kernel
theorem dJ6_compare_7cf53_11 : decode cJ6_compare_7cf53 11 = .ok (.if_icmp .ne 7, 3) := by decide +kernel
theorem dJ6_compare_7cf53_14 : decode cJ6_compare_7cf53 14 = .ok (.iconst 0, 1) := by decide +kernel
theorem dJ6_compare_7cf53_15 : decode cJ6_compare_7cf53 15 = .ok (.goto 4, 3) := by decide +kernel
theorem dJ6_compare_7cf53_18 : decode cJ6_compare_7cf53 18 = .ok (.iconst 1, 1) := by decide +kernel
theorem dJ6_compare_7cf53_19 : decode cJ6_compare_7cf53 19 = .ok (.ireturn, 1) := by decide +kernel
theorem dJ9_max_7cf53_0 : decode cJ9_max_7cf53 0 = .ok (.iload_n 0, 1) := by decide +kernel
theorem dJ9_max_7cf53_1 : decode cJ9_max_7cf53 1 = .ok (.iload_n 1, 1) := by decide +kernel
theorem dJ9_max_7cf53_2 : decode cJ9_max_7cf53 2 = .ok (.if_icmp .lt 7, 3) := by decide +kernel
theorem dJ9_max_7cf53_5 : decode cJ9_max_7cf53 5 = .ok (.iload_n 0, 1) := by decide +kernel
theorem dJ9_max_7cf53_6 : decode cJ9_max_7cf53 6 = .ok (.goto 4, 3) := by decide +kernel
theorem dJ9_max_7cf53_9 : decode cJ9_max_7cf53 9 = .ok (.iload_n 1, 1) := by decide +kernel
theorem dJ9_max_7cf53_10 : decode cJ9_max_7cf53 10 = .ok (.ireturn, 1) := by decide +kernel
theorem dL_cell_0 : decode cL_cell 0 = .ok (.iload_n 1, 1) := by decide +kernel
theorem dL_cell_1 : decode cL_cell 1 = .ok (.aload_n 0, 1) := by decide +kernel
theorem dL_cell_2 : decode cL_cell 2 = .ok (.arraylength, 1) := by decide +kernel
theorem dL_cell_3 : decode cL_cell 3 = .ok (.if_icmp .ge 9, 3) := by decide +kernel
theorem dL_cell_6 : decode cL_cell 6 = .ok (.aload_n 0, 1) := by decide +kernel
theorem dL_cell_7 : decode cL_cell 7 = .ok (.iload_n 1, 1) := by decide +kernel
theorem dL_cell_8 : decode cL_cell 8 = .ok (.iaload, 1) := by decide +kernel
theorem dL_cell_9 : decode cL_cell 9 = .ok (.goto 15, 3) := by decide +kernel
theorem dL_cell_12 : decode cL_cell 12 = .ok (.ldc 7, 2) := by decide +kernel
theorem dL_cell_14 : decode cL_cell 14 = .ok (.iload_n 1, 1) := by decide +kernel
theorem dL_cell_15 : decode cL_cell 15 = .ok (.sipush 1283, 3) := by decide +kernel
theorem dL_cell_18 : decode cL_cell 18 = .ok (.iadd, 1) := by decide +kernel
theorem dL_cell_19 : decode cL_cell 19 = .ok (.imul, 1) := by decide +kernel
theorem dL_cell_20 : decode cL_cell 20 = .ok (.sipush 1091, 3) := by decide +kernel
theorem dL_cell_23 : decode cL_cell 23 = .ok (.iadd, 1) := by decide +kernel
theorem dL_cell_24 : decode cL_cell 24 = .ok (.ireturn, 1) := by decide +kernel
theorem dL_low_0 : decode cL_low 0 = .ok (.iload_n 0, 1) := by decide +kernel
theorem dL_low_1 : decode cL_low 1 = .ok (.ldc 8, 2) := by decide +kernel
theorem dL_low_3 : decode cL_low 3 = .ok (.iand, 1) := by decide +kernel
theorem dL_low_4 : decode cL_low 4 = .ok (.iload_n 1, 1) := by decide +kernel
theorem dL_low_5 : decode cL_low 5 = .ok (.irem, 1) := by decide +kernel
theorem dL_low_6 : decode cL_low 6 = .ok (.ireturn, 1) := by decide +kernel
set_option maxRecDepth 20000 in
theorem ggL_sound_X6_siteInfo : GoodIn wsL_sound wsX6_siteInfo := goodIn_r _ [6, 7, 8, 9, 10, 11, 12, 13, 14, 15, 5, 16, 17, 18, 19, 20, 21, 22, 23, 24, 25, 26, 27, 28, 29, 30, 31, 32, 33, 34, 35, 36, 37, 38, 39, 40, 41, 42, 43, 44, 45, 46, 47, 48, 49, 50, 51, 52, 53, 54, 55, 56, 57, 58, 59, 60, 61, 62, 63, 64, 65, 66, 67, 68, 69, 70, 71, 72, 73, 74, 75, 76, 77, 78, 79, 80, 81, 82, 83, 84, 85, 86, 87, 88, 89, 90, 91, 92, 93, 94, 95, 96, 97, 98, 99, 100, 101, 102, 103, 104, 105, 106, 107, 108, 109, 110, 111, 112, 113, 114, 115, 116, 117, 118, 119, 120, 251, 252, 253, 254, 255, 256, 257, 258, 259, 260, 261, 262, 263, 264, 265, 266, 267, 268, 269, 270, 271, 272, 273, 274, 275, 276, 277, 278] (by decide +kernel) (by decide +kernel)
set_option maxRecDepth 20000 in
theorem gL_sound_X6_siteInfo : GoodIn wsL_sound (wsV RL 9 RX6 yX6_siteInfo wsX6_siteInfo) := goodIn_app (goodIn_of _ (by decide +kernel)) ggL_sound_X6_siteInfo
set_option maxRecDepth 20000 in
theorem ggL_sound_X6_operation : GoodIn wsL_sound wsX6_operation := goodIn_r _ [124, 7, 10, 125, 13, 14, 15, 5, 16, 17, 18, 19, 20, 38, 39, 40, 41, 42, 43, 44, 22, 23, 24, 25, 26, 126, 127, 128, 129, 83, 84, 85, 86, 130, 131, 132, 133, 134, 135, 136, 137, 138, 139, 140, 141, 142, 117, 143, 119, 120, 144, 145, 146, 147, 148, 149, 150, 151, 152, 153, 154, 102, 103, 104, 114, 115, 116, 118, 155, 78, 79, 80, 81, 156, 157, 158, 159, 160, 161, 162, 92, 93, 94, 95, 251, 252, 253, 254, 255, 256, 257, 258, 259, 262, 263, 264, 265, 266, 267, 268, 269, 260, 274, 275, 276, 277, 278] (by decide +kernel) (by decide +kernel)
set_option maxRecDepth 20000 in
theorem gL_sound_X6_operation : GoodIn wsL_sound (wsV RL 15 RX6 yX6_operation wsX6_operation) := goodIn_app (goodIn_of _ (by decide +kernel)) ggL_sound_X6_operation
set_option maxRecDepth 20000 in
theorem ggL_sound_X6_knows : GoodIn wsL_sound wsX6_knows := goodIn_r _ [166, 7, 10, 125, 9, 13, 14, 15, 5, 16, 17, 18, 19, 20, 38, 39, 40, 41, 42, 43, 44, 22, 23, 24, 25, 26, 126, 127, 128, 167, 33, 34, 30, 35, 36, 37, 251, 252, 253, 254, 255, 256, 257, 258, 259, 262, 263, 264, 265, 266, 267, 268, 269, 260, 261] (by decide +kernel) (by decide +kernel)
set_option maxRecDepth 20000 in
theorem gL_sound_X6_knows : GoodIn wsL_sound (wsV RL 19 RX6 yX6_knows wsX6_knows) := goodIn_app (goodIn_of _ (by decide +kernel)) ggL_sound_X6_knows

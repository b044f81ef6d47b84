theorem dX0_init_0 : decode cX0_init 0 = .ok (.aload_n 0, 1) := by decide +kernel
theorem dX0_init_1 : decode cX0_init 1 = .ok (.invokespecial 3, 3) := by decide +kernel
theorem dX0_init_4 : decode cX0_init 4 = .ok (.aload_n 0, 1) := by decide +kernel
theorem dX0_init_5 : decode cX0_init 5 = .ok (.new 9, 3) := by decide +kernel
theorem dX0_init_8 : decode cX0_init 8 = .ok (.dup, 1) := by decide +kernel
theorem dX0_init_9 : decode cX0_init 9 = .ok (.bipush 100, 2) := by decide +kernel
theorem dX0_init_11 : decode cX0_init 11 = .ok (.invokespecial 11, 3) := by decide +kernel
theorem dX0_init_14 : decode cX0_init 14 = .ok (.putfield 14, 3) := by decide +kernel
theorem dX0_init_17 : decode cX0_init 17 = .ok (.aload_n 0, 1) := by decide +kernel
theorem dX0_init_18 : decode cX0_init 18 = .ok (.new 9, 3) := by decide +kernel
theorem dX0_init_21 : decode cX0_init 21 = .ok (.dup, 1) := by decide +kernel
theorem dX0_init_22 : decode cX0_init 22 = .ok (.bipush 100, 2) := by decide +kernel
theorem dX0_init_24 : decode cX0_init 24 = .ok (.invokespecial 11, 3) := by decide +kernel
theorem dX0_init_27 : decode cX0_init 27 = .ok (.putfield 20, 3) := by decide +kernel
theorem dX0_init_30 : decode cX0_init 30 = .ok (.aload_n 0, 1) := by decide +kernel
theorem dX0_init_31 : decode cX0_init 31 = .ok (.new 9, 3) := by decide +kernel
theorem dX0_init_34 : decode cX0_init 34 = .ok (.dup, 1) := by decide +kernel
theorem dX0_init_35 : decode cX0_init 35 = .ok (.bipush 100, 2) := by decide +kernel
theorem dX0_init_37 : decode cX0_init 37 = .ok (.invokespecial 11, 3) := by decide +kernel
theorem dX0_init_40 : decode cX0_init 40 = .ok (.putfield 23, 3) := by decide +kernel
theorem dX0_init_43 : decode cX0_init 43 = .ok (.return_, 1) := by decide +kernel
set_option maxRecDepth 20000 in
theorem ggX0_show_X4_totalCount : GoodIn wsX0_show wsX4_totalCount := goodIn_r _ [8, 9, 79, 80, 81, 82, 83, 84, 85, 86] (by decide +kernel) (by decide +kernel)
set_option maxRecDepth 20000 in
theorem gX0_show_X4_totalCount : GoodIn wsX0_show (wsV RX0 26 RX4 yX4_totalCount wsX4_totalCount) := goodIn_app (goodIn_of _ (by decide +kernel)) ggX0_show_X4_totalCount
set_option maxRecDepth 20000 in
theorem ggX0_show_X5_fill : GoodIn wsX0_show wsX5_fill := goodIn_r _ [14, 15, 87] (by decide +kernel) (by decide +kernel)
set_option maxRecDepth 20000 in
theorem gX0_show_X5_fill : GoodIn wsX0_show (wsV RX0 32 RX5 yX5_fill wsX5_fill) := goodIn_app (goodIn_of _ (by decide +kernel)) ggX0_show_X5_fill
set_option maxRecDepth 20000 in
theorem ggX0_show_X5_copyFrom : GoodIn wsX0_show wsX5_copyFrom := goodIn_r _ [19, 15, 20, 21, 22, 13, 23, 87] (by decide +kernel) (by decide +kernel)
set_option maxRecDepth 20000 in
theorem gX0_show_X5_copyFrom : GoodIn wsX0_show (wsV RX0 36 RX5 yX5_copyFrom wsX5_copyFrom) := goodIn_app (goodIn_of _ (by decide +kernel)) ggX0_show_X5_copyFrom
set_option maxRecDepth 20000 in
theorem ggX0_show_X4_inOrder : GoodIn wsX0_show wsX4_inOrder := goodIn_r _ [27, 28, 29, 21, 22, 13, 23, 15, 79, 80, 81, 82, 83, 84, 85, 86, 87] (by decide +kernel) (by decide +kernel)
set_option maxRecDepth 20000 in
theorem gX0_show_X4_inOrder : GoodIn wsX0_show (wsV RX0 44 RX4 yX4_inOrder wsX4_inOrder) := goodIn_app (goodIn_of _ (by decide +kernel)) ggX0_show_X4_inOrder
set_option maxRecDepth 20000 in
theorem ggX0_show_X2_has : GoodIn wsX0_show wsX2_has := goodIn_r _ [34, 35, 36, 21, 22, 13, 23, 15, 88, 87] (by decide +kernel) (by decide +kernel)
set_option maxRecDepth 20000 in
theorem gX0_show_X2_has : GoodIn wsX0_show (wsV RX0 48 RX2 yX2_has wsX2_has) := goodIn_app (goodIn_of _ (by decide +kernel)) ggX0_show_X2_has
set_option maxRecDepth 20000 in
theorem ggX0_show_X0_apply : GoodIn wsX0_show wsX0_apply := goodIn_r _ [41, 1, 2, 42, 43, 44, 7, 45, 46, 29, 21, 22, 13, 23, 15, 47, 48, 49, 50, 51, 52, 53, 54, 55, 56, 57, 58, 59, 60, 75, 76, 77, 78, 79, 80, 81, 82, 83, 84, 85, 86, 87] (by decide +kernel) (by decide +kernel)
set_option maxRecDepth 20000 in
theorem gX0_show_X0_apply : GoodIn wsX0_show (wsV RX0 54 RX0 yX0_apply wsX0_apply) := goodIn_app (goodIn_of _ (by decide +kernel)) ggX0_show_X0_apply
set_option maxRecDepth 20000 in
theorem ggX0_show_X0_collect : GoodIn wsX0_show wsX0_collect := goodIn_r _ [64, 2, 65, 3, 4, 5, 6, 7, 8, 9, 24, 25, 26, 27, 28, 29, 21, 22, 13, 23, 15, 66, 67, 68, 69, 51, 70, 71, 72, 73, 40, 74, 1, 30, 31, 32, 33, 34, 35, 36, 52, 53, 54, 55, 75, 76, 77, 78, 79, 80, 81, 82, 83, 84, 85, 86, 87, 88] (by decide +kernel) (by decide +kernel)
set_option maxRecDepth 20000 in
theorem gX0_show_X0_collect : GoodIn wsX0_show (wsV RX0 58 RX0 yX0_collect wsX0_collect) := goodIn_app (goodIn_of _ (by decide +kernel)) ggX0_show_X0_collect
theorem dX0_show_0 : decode cX0_show 0 = .ok (.aload_n 1, 1) := by decide +kernel
theorem dX0_show_1 : decode cX0_show 1 = .ok (.invokevirtual 26, 3) := by decide +kernel
theorem dX0_show_4 : decode cX0_show 4 = .ok (.istore 4, 2) := by decide +kernel
theorem dX0_show_6 : decode cX0_show 6 = .ok (.aload_n 0, 1) := by decide +kernel
theorem dX0_show_7 : decode cX0_show 7 = .ok (.getfield 14, 3) := by decide +kernel
theorem dX0_show_10 : decode cX0_show 10 = .ok (.iconst 0, 1) := by decide +kernel
theorem dX0_show_11 : decode cX0_show 11 = .ok (.invokevirtual 32, 3) := by decide +kernel
theorem dX0_show_14 : decode cX0_show 14 = .ok (.aload_n 0, 1) := by decide +kernel
theorem dX0_show_15 : decode cX0_show 15 = .ok (.getfield 20, 3) := by decide +kernel
theorem dX0_show_18 : decode cX0_show 18 = .ok (.aload_n 1, 1) := by decide +kernel
theorem dX0_show_19 : decode cX0_show 19 = .ok (.getfield 35, 3) := by decide +kernel
theorem dX0_show_22 : decode cX0_show 22 = .ok (.invokevirtual 36, 3) := by decide +kernel
theorem dX0_show_25 : decode cX0_show 25 = .ok (.aload_n 0, 1) := by decide +kernel
theorem dX0_show_26 : decode cX0_show 26 = .ok (.iconst 0, 1) := by decide +kernel
theorem dX0_show_27 : decode cX0_show 27 = .ok (.putfield 40, 3) := by decide +kernel
theorem dX0_show_30 : decode cX0_show 30 = .ok (.iconst 0, 1) := by decide +kernel
theorem dX0_show_31 : decode cX0_show 31 = .ok (.istore 5, 2) := by decide +kernel
theorem dX0_show_33 : decode cX0_show 33 = .ok (.iload 5, 2) := by decide +kernel
theorem dX0_show_35 : decode cX0_show 35 = .ok (.iload 4, 2) := by decide +kernel
theorem dX0_show_37 : decode cX0_show 37 = .ok (.if_icmp .ge 34, 3) := by decide +kernel
theorem dX0_show_40 : decode cX0_show 40 = .ok (.aload_n 1, 1) := by decide +kernel
theorem dX0_show_41 : decode cX0_show 41 = .ok (.iload 5, 2) := by decide +kernel
theorem dX0_show_43 : decode cX0_show 43 = .ok (.invokevirtual 44, 3) := by decide +kernel
theorem dX0_show_46 : decode cX0_show 46 = .ok (.istore 6, 2) := by decide +kernel
theorem dX0_show_48 : decode cX0_show 48 = .ok (.aload_n 2, 1) := by decide +kernel
theorem dX0_show_49 : decode cX0_show 49 = .ok (.iload_n 3, 1) := by decide +kernel
theorem dX0_show_50 : decode cX0_show 50 = .ok (.iload 6, 2) := by decide +kernel
theorem dX0_show_52 : decode cX0_show 52 = .ok (.invokevirtual 48, 3) := by decide +kernel
theorem dX0_show_55 : decode cX0_show 55 = .ok (.ifCond .eq 10, 3) := by decide +kernel
theorem dX0_show_58 : decode cX0_show 58 = .ok (.aload_n 0, 1) := by decide +kernel
theorem dX0_show_59 : decode cX0_show 59 = .ok (.aload_n 1, 1) := by decide +kernel
theorem dX0_show_60 : decode cX0_show 60 = .ok (.iload 6, 2) := by decide +kernel
theorem dX0_show_62 : decode cX0_show 62 = .ok (.invokevirtual 54, 3) := by decide +kernel
theorem dX0_show_65 : decode cX0_show 65 = .ok (.iinc 5 1, 3) := by decide +kernel
theorem dX0_show_68 : decode cX0_show 68 = .ok (.goto (-35), 3) := by decide +kernel
theorem dX0_show_71 : decode cX0_show 71 = .ok (.iconst 0, 1) := by decide +kernel
theorem dX0_show_72 : decode cX0_show 72 = .ok (.istore 5, 2) := by decide +kernel
theorem dX0_show_74 : decode cX0_show 74 = .ok (.iload 5, 2) := by decide +kernel
theorem dX0_show_76 : decode cX0_show 76 = .ok (.iconst 3, 1) := by decide +kernel
theorem dX0_show_77 : decode cX0_show 77 = .ok (.if_icmp .gt 18, 3) := by decide +kernel
theorem dX0_show_80 : decode cX0_show 80 = .ok (.aload_n 0, 1) := by decide +kernel
theorem dX0_show_81 : decode cX0_show 81 = .ok (.aload_n 1, 1) := by decide +kernel
theorem dX0_show_82 : decode cX0_show 82 = .ok (.aload_n 2, 1) := by decide +kernel
theorem dX0_show_83 : decode cX0_show 83 = .ok (.iload_n 3, 1) := by decide +kernel
theorem dX0_show_84 : decode cX0_show 84 = .ok (.iload 5, 2) := by decide +kernel
theorem dX0_show_86 : decode cX0_show 86 = .ok (.invokevirtual 58, 3) := by decide +kernel
theorem dX0_show_89 : decode cX0_show 89 = .ok (.iinc 5 1, 3) := by decide +kernel
theorem dX0_show_92 : decode cX0_show 92 = .ok (.goto (-18), 3) := by decide +kernel
theorem dX0_show_95 : decode cX0_show 95 = .ok (.return_, 1) := by decide +kernel
set_option maxRecDepth 20000 in
theorem ggX0_apply_X4_targetOf : GoodIn wsX0_apply wsX4_targetOf := goodIn_r _ [7, 8, 9, 10, 11, 12, 13, 14, 33, 34, 35, 36, 37, 38, 39, 40, 41] (by decide +kernel) (by decide +kernel)
set_option maxRecDepth 20000 in
theorem gX0_apply_X4_targetOf : GoodIn wsX0_apply (wsV RX0 62 RX4 yX4_targetOf wsX4_targetOf) := goodIn_app (goodIn_of _ (by decide +kernel)) ggX0_apply_X4_targetOf
set_option maxRecDepth 20000 in
theorem ggX0_apply_X4_kindOf : GoodIn wsX0_apply wsX4_kindOf := goodIn_r _ [18, 19, 9, 10, 11, 12, 13, 14, 33, 34, 35, 36, 37, 38, 39, 40, 41] (by decide +kernel) (by decide +kernel)
set_option maxRecDepth 20000 in
theorem gX0_apply_X4_kindOf : GoodIn wsX0_apply (wsV RX0 65 RX4 yX4_kindOf wsX4_kindOf) := goodIn_app (goodIn_of _ (by decide +kernel)) ggX0_apply_X4_kindOf
set_option maxRecDepth 20000 in
theorem ggX0_apply_X5_set : GoodIn wsX0_apply wsX5_set := goodIn_r _ [23, 14, 41] (by decide +kernel) (by decide +kernel)
set_option maxRecDepth 20000 in
theorem gX0_apply_X5_set : GoodIn wsX0_apply (wsV RX0 68 RX5 yX5_set wsX5_set) := goodIn_app (goodIn_of _ (by decide +kernel)) ggX0_apply_X5_set
set_option maxRecDepth 20000 in
theorem ggX0_apply_X4_layerOf : GoodIn wsX0_apply wsX4_layerOf := goodIn_r _ [27, 28, 9, 10, 11, 12, 13, 14, 33, 34, 35, 36, 37, 38, 39, 40, 41] (by decide +kernel) (by decide +kernel)
set_option maxRecDepth 20000 in
theorem gX0_apply_X4_layerOf : GoodIn wsX0_apply (wsV RX0 72 RX4 yX4_layerOf wsX4_layerOf) := goodIn_app (goodIn_of _ (by decide +kernel)) ggX0_apply_X4_layerOf
theorem dX0_apply_0 : decode cX0_apply 0 = .ok (.aload_n 1, 1) := by decide +kernel
theorem dX0_apply_1 : decode cX0_apply 1 = .ok (.iload_n 2, 1) := by decide +kernel
theorem dX0_apply_2 : decode cX0_apply 2 = .ok (.invokevirtual 62, 3) := by decide +kernel
theorem dX0_apply_5 : decode cX0_apply 5 = .ok (.istore_n 3, 1) := by decide +kernel
theorem dX0_apply_6 : decode cX0_apply 6 = .ok (.aload_n 1, 1) := by decide +kernel
theorem dX0_apply_7 : decode cX0_apply 7 = .ok (.iload_n 2, 1) := by decide +kernel
theorem dX0_apply_8 : decode cX0_apply 8 = .ok (.invokevirtual 65, 3) := by decide +kernel
theorem dX0_apply_11 : decode cX0_apply 11 = .ok (.tableswitch 65 1 3 #[25, 37, 49], 25) := by decide +kernel
theorem dX0_apply_36 : decode cX0_apply 36 = .ok (.aload_n 0, 1) := by decide +kernel
theorem dX0_apply_37 : decode cX0_apply 37 = .ok (.getfield 14, 3) := by decide +kernel
theorem dX0_apply_40 : decode cX0_apply 40 = .ok (.iload_n 3, 1) := by decide +kernel
theorem dX0_apply_41 : decode cX0_apply 41 = .ok (.iconst 1, 1) := by decide +kernel
theorem dX0_apply_42 : decode cX0_apply 42 = .ok (.invokevirtual 68, 3) := by decide +kernel
theorem dX0_apply_45 : decode cX0_apply 45 = .ok (.goto 31, 3) := by decide +kernel
theorem dX0_apply_48 : decode cX0_apply 48 = .ok (.aload_n 0, 1) := by decide +kernel
theorem dX0_apply_49 : decode cX0_apply 49 = .ok (.getfield 14, 3) := by decide +kernel
theorem dX0_apply_52 : decode cX0_apply 52 = .ok (.iload_n 3, 1) := by decide +kernel
theorem dX0_apply_53 : decode cX0_apply 53 = .ok (.iconst 0, 1) := by decide +kernel
theorem dX0_apply_54 : decode cX0_apply 54 = .ok (.invokevirtual 68, 3) := by decide +kernel
theorem dX0_apply_57 : decode cX0_apply 57 = .ok (.goto 19, 3) := by decide +kernel
theorem dX0_apply_60 : decode cX0_apply 60 = .ok (.aload_n 0, 1) := by decide +kernel
theorem dX0_apply_61 : decode cX0_apply 61 = .ok (.getfield 20, 3) := by decide +kernel
theorem dX0_apply_64 : decode cX0_apply 64 = .ok (.iload_n 3, 1) := by decide +kernel
theorem dX0_apply_65 : decode cX0_apply 65 = .ok (.aload_n 1, 1) := by decide +kernel
theorem dX0_apply_66 : decode cX0_apply 66 = .ok (.iload_n 2, 1) := by decide +kernel
theorem dX0_apply_67 : decode cX0_apply 67 = .ok (.invokevirtual 72, 3) := by decide +kernel
theorem dX0_apply_70 : decode cX0_apply 70 = .ok (.invokevirtual 68, 3) := by decide +kernel
theorem dX0_apply_73 : decode cX0_apply 73 = .ok (.goto 3, 3) := by decide +kernel
theorem dX0_apply_76 : decode cX0_apply 76 = .ok (.return_, 1) := by decide +kernel
set_option maxRecDepth 20000 in
theorem ggX0_collect_X4_totalCount : GoodIn wsX0_collect wsX4_totalCount := goodIn_r _ [8, 9, 48, 49, 50, 51, 52, 53, 54, 55] (by decide +kernel) (by decide +kernel)
set_option maxRecDepth 20000 in
theorem gX0_collect_X4_totalCount : GoodIn wsX0_collect (wsV RX0 26 RX4 yX4_totalCount wsX4_totalCount) := goodIn_app (goodIn_of _ (by decide +kernel)) ggX0_collect_X4_totalCount
set_option maxRecDepth 20000 in
theorem ggX0_collect_X4_inOrder : GoodIn wsX0_collect wsX4_inOrder := goodIn_r _ [13, 14, 15, 16, 17, 18, 19, 20, 48, 49, 50, 51, 52, 53, 54, 55, 56] (by decide +kernel) (by decide +kernel)
set_option maxRecDepth 20000 in
theorem gX0_collect_X4_inOrder : GoodIn wsX0_collect (wsV RX0 44 RX4 yX4_inOrder wsX4_inOrder) := goodIn_app (goodIn_of _ (by decide +kernel)) ggX0_collect_X4_inOrder
set_option maxRecDepth 20000 in
theorem ggX0_collect_X4_isStroke : GoodIn wsX0_collect wsX4_isStroke := goodIn_r _ [24, 25, 15, 16, 17, 18, 19, 20, 48, 49, 50, 51, 52, 53, 54, 55, 56] (by decide +kernel) (by decide +kernel)
set_option maxRecDepth 20000 in
theorem gX0_collect_X4_isStroke : GoodIn wsX0_collect (wsV RX0 75 RX4 yX4_isStroke wsX4_isStroke) := goodIn_app (goodIn_of _ (by decide +kernel)) ggX0_collect_X4_isStroke
set_option maxRecDepth 20000 in
theorem ggX0_collect_X5_get : GoodIn wsX0_collect wsX5_get := goodIn_r _ [19, 20, 56] (by decide +kernel) (by decide +kernel)
set_option maxRecDepth 20000 in
theorem gX0_collect_X5_get : GoodIn wsX0_collect (wsV RX0 79 RX5 yX5_get wsX5_get) := goodIn_app (goodIn_of _ (by decide +kernel)) ggX0_collect_X5_get
set_option maxRecDepth 20000 in
theorem ggX0_collect_X0_isUndone : GoodIn wsX0_collect wsX0_isUndone := goodIn_r _ [31, 32, 26, 16, 17, 18, 19, 20, 44, 45, 46, 47, 56] (by decide +kernel) (by decide +kernel)
set_option maxRecDepth 20000 in
theorem gX0_collect_X0_isUndone : GoodIn wsX0_collect (wsV RX0 82 RX0 yX0_isUndone wsX0_isUndone) := goodIn_app (goodIn_of _ (by decide +kernel)) ggX0_collect_X0_isUndone
set_option maxRecDepth 20000 in
theorem ggX0_collect_X2_has : GoodIn wsX0_collect wsX2_has := goodIn_r _ [37, 38, 39, 16, 17, 18, 19, 20, 57, 56] (by decide +kernel) (by decide +kernel)
set_option maxRecDepth 20000 in
theorem gX0_collect_X2_has : GoodIn wsX0_collect (wsV RX0 48 RX2 yX2_has wsX2_has) := goodIn_app (goodIn_of _ (by decide +kernel)) ggX0_collect_X2_has
set_option maxRecDepth 20000 in
theorem ggX0_collect_X5_set : GoodIn wsX0_collect wsX5_set := goodIn_r _ [43, 20, 56] (by decide +kernel) (by decide +kernel)
set_option maxRecDepth 20000 in
theorem gX0_collect_X5_set : GoodIn wsX0_collect (wsV RX0 68 RX5 yX5_set wsX5_set) := goodIn_app (goodIn_of _ (by decide +kernel)) ggX0_collect_X5_set
theorem dX0_collect_0 : decode cX0_collect 0 = .ok (.aload_n 1, 1) := by decide +kernel
theorem dX0_collect_1 : decode cX0_collect 1 = .ok (.invokevirtual 26, 3) := by decide +kernel
theorem dX0_collect_4 : decode cX0_collect 4 = .ok (.istore 5, 2) := by decide +kernel
theorem dX0_collect_6 : decode cX0_collect 6 = .ok (.iconst 0, 1) := by decide +kernel
theorem dX0_collect_7 : decode cX0_collect 7 = .ok (.istore 6, 2) := by decide +kernel
theorem dX0_collect_9 : decode cX0_collect 9 = .ok (.iload 6, 2) := by decide +kernel
theorem dX0_collect_11 : decode cX0_collect 11 = .ok (.iload 5, 2) := by decide +kernel
theorem dX0_collect_13 : decode cX0_collect 13 = .ok (.if_icmp .ge 82, 3) := by decide +kernel
theorem dX0_collect_16 : decode cX0_collect 16 = .ok (.aload_n 1, 1) := by decide +kernel
theorem dX0_collect_17 : decode cX0_collect 17 = .ok (.iload 6, 2) := by decide +kernel
theorem dX0_collect_19 : decode cX0_collect 19 = .ok (.invokevirtual 44, 3) := by decide +kernel
theorem dX0_collect_22 : decode cX0_collect 22 = .ok (.istore 7, 2) := by decide +kernel
theorem dX0_collect_24 : decode cX0_collect 24 = .ok (.aload_n 1, 1) := by decide +kernel
theorem dX0_collect_25 : decode cX0_collect 25 = .ok (.iload 7, 2) := by decide +kernel
theorem dX0_collect_27 : decode cX0_collect 27 = .ok (.invokevirtual 75, 3) := by decide +kernel
theorem dX0_collect_30 : decode cX0_collect 30 = .ok (.ifCond .eq 59, 3) := by decide +kernel
theorem dX0_collect_33 : decode cX0_collect 33 = .ok (.aload_n 0, 1) := by decide +kernel
theorem dX0_collect_34 : decode cX0_collect 34 = .ok (.getfield 20, 3) := by decide +kernel
theorem dX0_collect_37 : decode cX0_collect 37 = .ok (.iload 7, 2) := by decide +kernel
theorem dX0_collect_39 : decode cX0_collect 39 = .ok (.invokevirtual 79, 3) := by decide +kernel
theorem dX0_collect_42 : decode cX0_collect 42 = .ok (.iload 4, 2) := by decide +kernel
theorem dX0_collect_44 : decode cX0_collect 44 = .ok (.if_icmp .ne 45, 3) := by decide +kernel
theorem dX0_collect_47 : decode cX0_collect 47 = .ok (.aload_n 0, 1) := by decide +kernel
theorem dX0_collect_48 : decode cX0_collect 48 = .ok (.iload 7, 2) := by decide +kernel
theorem dX0_collect_50 : decode cX0_collect 50 = .ok (.invokevirtual 82, 3) := by decide +kernel
theorem dX0_collect_53 : decode cX0_collect 53 = .ok (.ifCond .ne 36, 3) := by decide +kernel
theorem dX0_collect_56 : decode cX0_collect 56 = .ok (.aload_n 2, 1) := by decide +kernel
theorem dX0_collect_57 : decode cX0_collect 57 = .ok (.iload_n 3, 1) := by decide +kernel
theorem dX0_collect_58 : decode cX0_collect 58 = .ok (.iload 7, 2) := by decide +kernel
theorem dX0_collect_60 : decode cX0_collect 60 = .ok (.invokevirtual 48, 3) := by decide +kernel
theorem dX0_collect_63 : decode cX0_collect 63 = .ok (.ifCond .eq 26, 3) := by decide +kernel
theorem dX0_collect_66 : decode cX0_collect 66 = .ok (.aload_n 0, 1) := by decide +kernel
theorem dX0_collect_67 : decode cX0_collect 67 = .ok (.getfield 23, 3) := by decide +kernel
theorem dX0_collect_70 : decode cX0_collect 70 = .ok (.aload_n 0, 1) := by decide +kernel
theorem dX0_collect_71 : decode cX0_collect 71 = .ok (.getfield 40, 3) := by decide +kernel
theorem dX0_collect_74 : decode cX0_collect 74 = .ok (.iload 7, 2) := by decide +kernel
theorem dX0_collect_76 : decode cX0_collect 76 = .ok (.invokevirtual 68, 3) := by decide +kernel
theorem dX0_collect_79 : decode cX0_collect 79 = .ok (.aload_n 0, 1) := by decide +kernel
theorem dX0_collect_80 : decode cX0_collect 80 = .ok (.dup, 1) := by decide +kernel
theorem dX0_collect_81 : decode cX0_collect 81 = .ok (.getfield 40, 3) := by decide +kernel
theorem dX0_collect_84 : decode cX0_collect 84 = .ok (.iconst 1, 1) := by decide +kernel
theorem dX0_collect_85 : decode cX0_collect 85 = .ok (.iadd, 1) := by decide +kernel
theorem dX0_collect_86 : decode cX0_collect 86 = .ok (.putfield 40, 3) := by decide +kernel
theorem dX0_collect_89 : decode cX0_collect 89 = .ok (.iinc 6 1, 3) := by decide +kernel
theorem dX0_collect_92 : decode cX0_collect 92 = .ok (.goto (-83), 3) := by decide +kernel
theorem dX0_collect_95 : decode cX0_collect 95 = .ok (.return_, 1) := by decide +kernel
set_option maxRecDepth 20000 in
theorem ggX0_isUndone_X5_get : GoodIn wsX0_isUndone wsX5_get := goodIn_r _ [6, 7, 12] (by decide +kernel) (by decide +kernel)
set_option maxRecDepth 20000 in
theorem gX0_isUndone_X5_get : GoodIn wsX0_isUndone (wsV RX0 79 RX5 yX5_get wsX5_get) := goodIn_app (goodIn_of _ (by decide +kernel)) ggX0_isUndone_X5_get
theorem dX0_isUndone_0 : decode cX0_isUndone 0 = .ok (.aload_n 0, 1) := by decide +kernel
theorem dX0_isUndone_1 : decode cX0_isUndone 1 = .ok (.getfield 14, 3) := by decide +kernel
theorem dX0_isUndone_4 : decode cX0_isUndone 4 = .ok (.iload_n 1, 1) := by decide +kernel
theorem dX0_isUndone_5 : decode cX0_isUndone 5 = .ok (.invokevirtual 79, 3) := by decide +kernel
theorem dX0_isUndone_8 : decode cX0_isUndone 8 = .ok (.iconst 1, 1) := by decide +kernel
theorem dX0_isUndone_9 : decode cX0_isUndone 9 = .ok (.if_icmp .ne 7, 3) := by decide +kernel
theorem dX0_isUndone_12 : decode cX0_isUndone 12 = .ok (.iconst 1, 1) := by decide +kernel
theorem dX0_isUndone_13 : decode cX0_isUndone 13 = .ok (.goto 4, 3) := by decide +kernel
theorem dX0_isUndone_16 : decode cX0_isUndone 16 = .ok (.iconst 0, 1) := by decide +kernel
theorem dX0_isUndone_17 : decode cX0_isUndone 17 = .ok (.ireturn, 1) := by decide +kernel
theorem dX0_strokeCount_0 : decode cX0_strokeCount 0 = .ok (.aload_n 0, 1) := by decide +kernel
theorem dX0_strokeCount_1 : decode cX0_strokeCount 1 = .ok (.getfield 40, 3) := by decide +kernel
theorem dX0_strokeCount_4 : decode cX0_strokeCount 4 = .ok (.ireturn, 1) := by decide +kernel
set_option maxRecDepth 20000 in
theorem ggX0_strokeIn_X5_get : GoodIn wsX0_strokeIn wsX5_get := goodIn_r _ [6, 7, 12] (by decide +kernel) (by decide +kernel)
set_option maxRecDepth 20000 in
theorem gX0_strokeIn_X5_get : GoodIn wsX0_strokeIn (wsV RX0 79 RX5 yX5_get wsX5_get) := goodIn_app (goodIn_of _ (by decide +kernel)) ggX0_strokeIn_X5_get
theorem dX0_strokeIn_0 : decode cX0_strokeIn 0 = .ok (.aload_n 0, 1) := by decide +kernel
theorem dX0_strokeIn_1 : decode cX0_strokeIn 1 = .ok (.getfield 23, 3) := by decide +kernel
theorem dX0_strokeIn_4 : decode cX0_strokeIn 4 = .ok (.iload_n 1, 1) := by decide +kernel
theorem dX0_strokeIn_5 : decode cX0_strokeIn 5 = .ok (.invokevirtual 79, 3) := by decide +kernel
theorem dX0_strokeIn_8 : decode cX0_strokeIn 8 = .ok (.ireturn, 1) := by decide +kernel
set_option maxRecDepth 20000 in
theorem ggX0_layerOf_X5_get : GoodIn wsX0_layerOf wsX5_get := goodIn_r _ [6, 7, 12] (by decide +kernel) (by decide +kernel)
set_option maxRecDepth 20000 in
theorem gX0_layerOf_X5_get : GoodIn wsX0_layerOf (wsV RX0 79 RX5 yX5_get wsX5_get) := goodIn_app (goodIn_of _ (by decide +kernel)) ggX0_layerOf_X5_get
theorem dX0_layerOf_0 : decode cX0_layerOf 0 = .ok (.aload_n 0, 1) := by decide +kernel
theorem dX0_layerOf_1 : decode cX0_layerOf 1 = .ok (.getfield 20, 3) := by decide +kernel
theorem dX0_layerOf_4 : decode cX0_layerOf 4 = .ok (.iload_n 1, 1) := by decide +kernel
theorem dX0_layerOf_5 : decode cX0_layerOf 5 = .ok (.invokevirtual 79, 3) := by decide +kernel
theorem dX0_layerOf_8 : decode cX0_layerOf 8 = .ok (.ireturn, 1) := by decide +kernel
set_option maxRecDepth 20000 in
theorem ggX0_matches_X5_get : GoodIn wsX0_matches wsX5_get := goodIn_r _ [8, 9, 23] (by decide +kernel) (by decide +kernel)
set_option maxRecDepth 20000 in
theorem gX0_matches_X5_get : GoodIn wsX0_matches (wsV RX0 79 RX5 yX5_get wsX5_get) := goodIn_app (goodIn_of _ (by decide +kernel)) ggX0_matches_X5_get
set_option maxRecDepth 20000 in
theorem ggX0_matches_X0_strokeIn : GoodIn wsX0_matches wsX0_strokeIn := goodIn_r _ [14, 2, 4, 5, 6, 7, 8, 9, 19, 20, 21, 22, 23] (by decide +kernel) (by decide +kernel)
set_option maxRecDepth 20000 in
theorem gX0_matches_X0_strokeIn : GoodIn wsX0_matches (wsV RX0 85 RX0 yX0_strokeIn wsX0_strokeIn) := goodIn_app (goodIn_of _ (by decide +kernel)) ggX0_matches_X0_strokeIn
set_option maxRecDepth 20000 in
theorem ggX0_matches_X0_layerOf : GoodIn wsX0_matches wsX0_layerOf := goodIn_r _ [18, 3, 4, 5, 6, 7, 8, 9, 19, 20, 21, 22, 23] (by decide +kernel) (by decide +kernel)
set_option maxRecDepth 20000 in
theorem gX0_matches_X0_layerOf : GoodIn wsX0_matches (wsV RX0 88 RX0 yX0_layerOf wsX0_layerOf) := goodIn_app (goodIn_of _ (by decide +kernel)) ggX0_matches_X0_layerOf
theorem dX0_matches_0 : decode cX0_matches 0 = .ok (.aload_n 0, 1) := by decide +kernel
theorem dX0_matches_1 : decode cX0_matches 1 = .ok (.getfield 40, 3) := by decide +kernel
theorem dX0_matches_4 : decode cX0_matches 4 = .ok (.aload_n 1, 1) := by decide +kernel
theorem dX0_matches_5 : decode cX0_matches 5 = .ok (.getfield 40, 3) := by decide +kernel
theorem dX0_matches_8 : decode cX0_matches 8 = .ok (.if_icmp .eq 5, 3) := by decide +kernel
theorem dX0_matches_11 : decode cX0_matches 11 = .ok (.iconst 0, 1) := by decide +kernel
theorem dX0_matches_12 : decode cX0_matches 12 = .ok (.ireturn, 1) := by decide +kernel
theorem dX0_matches_13 : decode cX0_matches 13 = .ok (.iconst 0, 1) := by decide +kernel
theorem dX0_matches_14 : decode cX0_matches 14 = .ok (.istore_n 2, 1) := by decide +kernel
theorem dX0_matches_15 : decode cX0_matches 15 = .ok (.iload_n 2, 1) := by decide +kernel
theorem dX0_matches_16 : decode cX0_matches 16 = .ok (.aload_n 0, 1) := by decide +kernel
theorem dX0_matches_17 : decode cX0_matches 17 = .ok (.getfield 40, 3) := by decide +kernel
theorem dX0_matches_20 : decode cX0_matches 20 = .ok (.if_icmp .ge 45, 3) := by decide +kernel
theorem dX0_matches_23 : decode cX0_matches 23 = .ok (.aload_n 0, 1) := by decide +kernel
theorem dX0_matches_24 : decode cX0_matches 24 = .ok (.getfield 23, 3) := by decide +kernel
theorem dX0_matches_27 : decode cX0_matches 27 = .ok (.iload_n 2, 1) := by decide +kernel
theorem dX0_matches_28 : decode cX0_matches 28 = .ok (.invokevirtual 79, 3) := by decide +kernel
theorem dX0_matches_31 : decode cX0_matches 31 = .ok (.istore_n 3, 1) := by decide +kernel
theorem dX0_matches_32 : decode cX0_matches 32 = .ok (.iload_n 3, 1) := by decide +kernel
theorem dX0_matches_33 : decode cX0_matches 33 = .ok (.aload_n 1, 1) := by decide +kernel
theorem dX0_matches_34 : decode cX0_matches 34 = .ok (.iload_n 2, 1) := by decide +kernel
theorem dX0_matches_35 : decode cX0_matches 35 = .ok (.invokevirtual 85, 3) := by decide +kernel
theorem dX0_matches_38 : decode cX0_matches 38 = .ok (.if_icmp .ne 19, 3) := by decide +kernel
theorem dX0_matches_41 : decode cX0_matches 41 = .ok (.aload_n 0, 1) := by decide +kernel
theorem dX0_matches_42 : decode cX0_matches 42 = .ok (.getfield 20, 3) := by decide +kernel
theorem dX0_matches_45 : decode cX0_matches 45 = .ok (.iload_n 3, 1) := by decide +kernel
theorem dX0_matches_46 : decode cX0_matches 46 = .ok (.invokevirtual 79, 3) := by decide +kernel
theorem dX0_matches_49 : decode cX0_matches 49 = .ok (.aload_n 1, 1) := by decide +kernel
theorem dX0_matches_50 : decode cX0_matches 50 = .ok (.iload_n 3, 1) := by decide +kernel
theorem dX0_matches_51 : decode cX0_matches 51 = .ok (.invokevirtual 88, 3) := by decide +kernel
theorem dX0_matches_54 : decode cX0_matches 54 = .ok (.if_icmp .eq 5, 3) := by decide +kernel
theorem dX0_matches_57 : decode cX0_matches 57 = .ok (.iconst 0, 1) := by decide +kernel
theorem dX0_matches_58 : decode cX0_matches 58 = .ok (.ireturn, 1) := by decide +kernel
theorem dX0_matches_59 : decode cX0_matches 59 = .ok (.iinc 2 1, 3) := by decide +kernel
theorem dX0_matches_62 : decode cX0_matches 62 = .ok (.goto (-47), 3) := by decide +kernel
theorem dX0_matches_65 : decode cX0_matches 65 = .ok (.iconst 1, 1) := by decide +kernel
theorem dX0_matches_66 : decode cX0_matches 66 = .ok (.ireturn, 1) := by decide +kernel
set_option maxRecDepth 20000 in
theorem ggX0_hash_X5_get : GoodIn wsX0_hash wsX5_get := goodIn_r _ [8, 9, 54] (by decide +kernel) (by decide +kernel)
set_option maxRecDepth 20000 in
theorem gX0_hash_X5_get : GoodIn wsX0_hash (wsV RX0 79 RX5 yX5_get wsX5_get) := goodIn_app (goodIn_of _ (by decide +kernel)) ggX0_hash_X5_get
set_option maxRecDepth 20000 in
theorem ggX0_hash_X6_authorOf : GoodIn wsX0_hash wsX6_authorOf := goodIn_r _ [12] (by decide +kernel) (by decide +kernel)
set_option maxRecDepth 20000 in
theorem gX0_hash_X6_authorOf_n89 : GoodIn wsX0_hash (wsX6_authorOf) := ggX0_hash_X6_authorOf
set_option maxRecDepth 20000 in
theorem ggX0_hash_X6_numberOf : GoodIn wsX0_hash wsX6_numberOf := goodIn_r _ [14] (by decide +kernel) (by decide +kernel)
set_option maxRecDepth 20000 in
theorem gX0_hash_X6_numberOf_n92 : GoodIn wsX0_hash (wsX6_numberOf) := ggX0_hash_X6_numberOf
set_option maxRecDepth 20000 in
theorem ggX0_hash_X1_colorOf : GoodIn wsX0_hash wsX1_colorOf := goodIn_r _ [19, 20, 21, 5, 6, 7, 8, 9, 55, 56, 57, 58, 59, 54] (by decide +kernel) (by decide +kernel)
set_option maxRecDepth 20000 in
theorem gX0_hash_X1_colorOf : GoodIn wsX0_hash (wsV RX0 99 RX1 yX1_colorOf wsX1_colorOf) := goodIn_app (goodIn_of _ (by decide +kernel)) ggX0_hash_X1_colorOf
set_option maxRecDepth 20000 in
theorem ggX0_hash_X0_hashPoints : GoodIn wsX0_hash wsX0_hashPoints := goodIn_r _ [26, 27, 28, 29, 18, 30, 31, 21, 5, 6, 7, 8, 9, 32, 33, 34, 35, 36, 37, 38, 39, 40, 41, 55, 56, 57, 58, 59, 54] (by decide +kernel) (by decide +kernel)
set_option maxRecDepth 20000 in
theorem gX0_hash_X0_hashPoints : GoodIn wsX0_hash (wsV RX0 104 RX0 yX0_hashPoints wsX0_hashPoints) := goodIn_app (goodIn_of _ (by decide +kernel)) ggX0_hash_X0_hashPoints
theorem dX0_hash_0 : decode cX0_hash 0 = .ok (.bipush 17, 2) := by decide +kernel
theorem dX0_hash_2 : decode cX0_hash 2 = .ok (.istore_n 2, 1) := by decide +kernel
theorem dX0_hash_3 : decode cX0_hash 3 = .ok (.iconst 0, 1) := by decide +kernel
theorem dX0_hash_4 : decode cX0_hash 4 = .ok (.istore_n 3, 1) := by decide +kernel
theorem dX0_hash_5 : decode cX0_hash 5 = .ok (.iload_n 3, 1) := by decide +kernel
theorem dX0_hash_6 : decode cX0_hash 6 = .ok (.aload_n 0, 1) := by decide +kernel
theorem dX0_hash_7 : decode cX0_hash 7 = .ok (.getfield 40, 3) := by decide +kernel
theorem dX0_hash_10 : decode cX0_hash 10 = .ok (.if_icmp .ge 83, 3) := by decide +kernel
theorem dX0_hash_13 : decode cX0_hash 13 = .ok (.aload_n 0, 1) := by decide +kernel
theorem dX0_hash_14 : decode cX0_hash 14 = .ok (.getfield 23, 3) := by decide +kernel
theorem dX0_hash_17 : decode cX0_hash 17 = .ok (.iload_n 3, 1) := by decide +kernel
theorem dX0_hash_18 : decode cX0_hash 18 = .ok (.invokevirtual 79, 3) := by decide +kernel
theorem dX0_hash_21 : decode cX0_hash 21 = .ok (.istore 4, 2) := by decide +kernel
theorem dX0_hash_23 : decode cX0_hash 23 = .ok (.bipush 31, 2) := by decide +kernel
theorem dX0_hash_25 : decode cX0_hash 25 = .ok (.iload_n 2, 1) := by decide +kernel
theorem dX0_hash_26 : decode cX0_hash 26 = .ok (.imul, 1) := by decide +kernel
theorem dX0_hash_27 : decode cX0_hash 27 = .ok (.iload 4, 2) := by decide +kernel
theorem dX0_hash_29 : decode cX0_hash 29 = .ok (.invokestatic 89, 3) := by decide +kernel
theorem dX0_hash_32 : decode cX0_hash 32 = .ok (.iadd, 1) := by decide +kernel
theorem dX0_hash_33 : decode cX0_hash 33 = .ok (.istore_n 2, 1) := by decide +kernel
theorem dX0_hash_34 : decode cX0_hash 34 = .ok (.bipush 31, 2) := by decide +kernel
theorem dX0_hash_36 : decode cX0_hash 36 = .ok (.iload_n 2, 1) := by decide +kernel
theorem dX0_hash_37 : decode cX0_hash 37 = .ok (.imul, 1) := by decide +kernel
theorem dX0_hash_38 : decode cX0_hash 38 = .ok (.iload 4, 2) := by decide +kernel
theorem dX0_hash_40 : decode cX0_hash 40 = .ok (.invokestatic 92, 3) := by decide +kernel
theorem dX0_hash_43 : decode cX0_hash 43 = .ok (.iadd, 1) := by decide +kernel
theorem dX0_hash_44 : decode cX0_hash 44 = .ok (.istore_n 2, 1) := by decide +kernel
theorem dX0_hash_45 : decode cX0_hash 45 = .ok (.bipush 31, 2) := by decide +kernel
theorem dX0_hash_47 : decode cX0_hash 47 = .ok (.iload_n 2, 1) := by decide +kernel
theorem dX0_hash_48 : decode cX0_hash 48 = .ok (.imul, 1) := by decide +kernel
theorem dX0_hash_49 : decode cX0_hash 49 = .ok (.aload_n 0, 1) := by decide +kernel
theorem dX0_hash_50 : decode cX0_hash 50 = .ok (.getfield 20, 3) := by decide +kernel
theorem dX0_hash_53 : decode cX0_hash 53 = .ok (.iload 4, 2) := by decide +kernel
theorem dX0_hash_55 : decode cX0_hash 55 = .ok (.invokevirtual 79, 3) := by decide +kernel
theorem dX0_hash_58 : decode cX0_hash 58 = .ok (.iadd, 1) := by decide +kernel
theorem dX0_hash_59 : decode cX0_hash 59 = .ok (.istore_n 2, 1) := by decide +kernel
theorem dX0_hash_60 : decode cX0_hash 60 = .ok (.bipush 31, 2) := by decide +kernel
theorem dX0_hash_62 : decode cX0_hash 62 = .ok (.iload_n 2, 1) := by decide +kernel
theorem dX0_hash_63 : decode cX0_hash 63 = .ok (.imul, 1) := by decide +kernel
theorem dX0_hash_64 : decode cX0_hash 64 = .ok (.aload_n 1, 1) := by decide +kernel
theorem dX0_hash_65 : decode cX0_hash 65 = .ok (.getfield 95, 3) := by decide +kernel
theorem dX0_hash_68 : decode cX0_hash 68 = .ok (.iload 4, 2) := by decide +kernel
theorem dX0_hash_70 : decode cX0_hash 70 = .ok (.invokevirtual 99, 3) := by decide +kernel
theorem dX0_hash_73 : decode cX0_hash 73 = .ok (.iadd, 1) := by decide +kernel
theorem dX0_hash_74 : decode cX0_hash 74 = .ok (.istore_n 2, 1) := by decide +kernel
theorem dX0_hash_75 : decode cX0_hash 75 = .ok (.aload_n 0, 1) := by decide +kernel
theorem dX0_hash_76 : decode cX0_hash 76 = .ok (.iload_n 2, 1) := by decide +kernel
theorem dX0_hash_77 : decode cX0_hash 77 = .ok (.aload_n 1, 1) := by decide +kernel
theorem dX0_hash_78 : decode cX0_hash 78 = .ok (.getfield 95, 3) := by decide +kernel
theorem dX0_hash_81 : decode cX0_hash 81 = .ok (.iload 4, 2) := by decide +kernel
theorem dX0_hash_83 : decode cX0_hash 83 = .ok (.invokevirtual 104, 3) := by decide +kernel
theorem dX0_hash_86 : decode cX0_hash 86 = .ok (.istore_n 2, 1) := by decide +kernel
theorem dX0_hash_87 : decode cX0_hash 87 = .ok (.iinc 3 1, 3) := by decide +kernel
theorem dX0_hash_90 : decode cX0_hash 90 = .ok (.goto (-85), 3) := by decide +kernel
theorem dX0_hash_93 : decode cX0_hash 93 = .ok (.iload_n 2, 1) := by decide +kernel
theorem dX0_hash_94 : decode cX0_hash 94 = .ok (.ireturn, 1) := by decide +kernel
set_option maxRecDepth 20000 in
theorem ggX0_hashPoints_X1_pointCount : GoodIn wsX0_hashPoints wsX1_pointCount := goodIn_r _ [5, 6, 7, 8, 9, 10, 11, 12, 23, 24, 25, 26, 27, 28] (by decide +kernel) (by decide +kernel)
set_option maxRecDepth 20000 in
theorem gX0_hashPoints_X1_pointCount : GoodIn wsX0_hashPoints (wsV RX0 108 RX1 yX1_pointCount wsX1_pointCount) := goodIn_app (goodIn_of _ (by decide +kernel)) ggX0_hashPoints_X1_pointCount
set_option maxRecDepth 20000 in
theorem ggX0_hashPoints_X1_xOf : GoodIn wsX0_hashPoints wsX1_xOf := goodIn_r _ [16, 17, 7, 8, 9, 10, 11, 12, 23, 24, 25, 26, 27, 28] (by decide +kernel) (by decide +kernel)
set_option maxRecDepth 20000 in
theorem gX0_hashPoints_X1_xOf : GoodIn wsX0_hashPoints (wsV RX0 111 RX1 yX1_xOf wsX1_xOf) := goodIn_app (goodIn_of _ (by decide +kernel)) ggX0_hashPoints_X1_xOf
set_option maxRecDepth 20000 in
theorem ggX0_hashPoints_X1_yOf : GoodIn wsX0_hashPoints wsX1_yOf := goodIn_r _ [21, 22, 7, 8, 9, 10, 11, 12, 23, 24, 25, 26, 27, 28] (by decide +kernel) (by decide +kernel)
set_option maxRecDepth 20000 in
theorem gX0_hashPoints_X1_yOf : GoodIn wsX0_hashPoints (wsV RX0 115 RX1 yX1_yOf wsX1_yOf) := goodIn_app (goodIn_of _ (by decide +kernel)) ggX0_hashPoints_X1_yOf
theorem dX0_hashPoints_0 : decode cX0_hashPoints 0 = .ok (.iload_n 1, 1) := by decide +kernel
theorem dX0_hashPoints_1 : decode cX0_hashPoints 1 = .ok (.istore 4, 2) := by decide +kernel
theorem dX0_hashPoints_3 : decode cX0_hashPoints 3 = .ok (.iconst 0, 1) := by decide +kernel
theorem dX0_hashPoints_4 : decode cX0_hashPoints 4 = .ok (.istore 5, 2) := by decide +kernel
theorem dX0_hashPoints_6 : decode cX0_hashPoints 6 = .ok (.iload 5, 2) := by decide +kernel
theorem dX0_hashPoints_8 : decode cX0_hashPoints 8 = .ok (.aload_n 2, 1) := by decide +kernel
theorem dX0_hashPoints_9 : decode cX0_hashPoints 9 = .ok (.iload_n 3, 1) := by decide +kernel
theorem dX0_hashPoints_10 : decode cX0_hashPoints 10 = .ok (.invokevirtual 108, 3) := by decide +kernel
theorem dX0_hashPoints_13 : decode cX0_hashPoints 13 = .ok (.if_icmp .ge 39, 3) := by decide +kernel
theorem dX0_hashPoints_16 : decode cX0_hashPoints 16 = .ok (.bipush 31, 2) := by decide +kernel
theorem dX0_hashPoints_18 : decode cX0_hashPoints 18 = .ok (.iload 4, 2) := by decide +kernel
theorem dX0_hashPoints_20 : decode cX0_hashPoints 20 = .ok (.imul, 1) := by decide +kernel
theorem dX0_hashPoints_21 : decode cX0_hashPoints 21 = .ok (.aload_n 2, 1) := by decide +kernel
theorem dX0_hashPoints_22 : decode cX0_hashPoints 22 = .ok (.iload_n 3, 1) := by decide +kernel
theorem dX0_hashPoints_23 : decode cX0_hashPoints 23 = .ok (.iload 5, 2) := by decide +kernel
theorem dX0_hashPoints_25 : decode cX0_hashPoints 25 = .ok (.invokevirtual 111, 3) := by decide +kernel
theorem dX0_hashPoints_28 : decode cX0_hashPoints 28 = .ok (.iadd, 1) := by decide +kernel
theorem dX0_hashPoints_29 : decode cX0_hashPoints 29 = .ok (.istore 4, 2) := by decide +kernel
theorem dX0_hashPoints_31 : decode cX0_hashPoints 31 = .ok (.bipush 31, 2) := by decide +kernel
theorem dX0_hashPoints_33 : decode cX0_hashPoints 33 = .ok (.iload 4, 2) := by decide +kernel
theorem dX0_hashPoints_35 : decode cX0_hashPoints 35 = .ok (.imul, 1) := by decide +kernel
theorem dX0_hashPoints_36 : decode cX0_hashPoints 36 = .ok (.aload_n 2, 1) := by decide +kernel
theorem dX0_hashPoints_37 : decode cX0_hashPoints 37 = .ok (.iload_n 3, 1) := by decide +kernel
theorem dX0_hashPoints_38 : decode cX0_hashPoints 38 = .ok (.iload 5, 2) := by decide +kernel
theorem dX0_hashPoints_40 : decode cX0_hashPoints 40 = .ok (.invokevirtual 115, 3) := by decide +kernel
theorem dX0_hashPoints_43 : decode cX0_hashPoints 43 = .ok (.iadd, 1) := by decide +kernel
theorem dX0_hashPoints_44 : decode cX0_hashPoints 44 = .ok (.istore 4, 2) := by decide +kernel
theorem dX0_hashPoints_46 : decode cX0_hashPoints 46 = .ok (.iinc 5 1, 3) := by decide +kernel
theorem dX0_hashPoints_49 : decode cX0_hashPoints 49 = .ok (.goto (-43), 3) := by decide +kernel
theorem dX0_hashPoints_52 : decode cX0_hashPoints 52 = .ok (.iload 4, 2) := by decide +kernel
theorem dX0_hashPoints_54 : decode cX0_hashPoints 54 = .ok (.ireturn, 1) := by decide +kernel
set_option maxRecDepth 20000 in
theorem ggX1_init_X5_init : GoodIn wsX1_init wsX5_init := goodIn_r _ [14, 15, 2, 3, 16, 17, 18, 19, 20, 21, 22] (by decide +kernel) (by decide +kernel)
set_option maxRecDepth 20000 in
theorem gX1_init_X5_init : GoodIn wsX1_init (wsX5_init) := ggX1_init_X5_init
theorem dX1_init_0 : decode cX1_init 0 = .ok (.aload_n 0, 1) := by decide +kernel
theorem dX1_init_1 : decode cX1_init 1 = .ok (.invokespecial 3, 3) := by decide +kernel
theorem dX1_init_4 : decode cX1_init 4 = .ok (.aload_n 0, 1) := by decide +kernel
theorem dX1_init_5 : decode cX1_init 5 = .ok (.new 9, 3) := by decide +kernel
theorem dX1_init_8 : decode cX1_init 8 = .ok (.dup, 1) := by decide +kernel
theorem dX1_init_9 : decode cX1_init 9 = .ok (.iload_n 1, 1) := by decide +kernel
theorem dX1_init_10 : decode cX1_init 10 = .ok (.invokespecial 11, 3) := by decide +kernel
theorem dX1_init_13 : decode cX1_init 13 = .ok (.putfield 14, 3) := by decide +kernel
theorem dX1_init_16 : decode cX1_init 16 = .ok (.aload_n 0, 1) := by decide +kernel
theorem dX1_init_17 : decode cX1_init 17 = .ok (.new 9, 3) := by decide +kernel
theorem dX1_init_20 : decode cX1_init 20 = .ok (.dup, 1) := by decide +kernel
theorem dX1_init_21 : decode cX1_init 21 = .ok (.iload_n 1, 1) := by decide +kernel
theorem dX1_init_22 : decode cX1_init 22 = .ok (.invokespecial 11, 3) := by decide +kernel
theorem dX1_init_25 : decode cX1_init 25 = .ok (.putfield 20, 3) := by decide +kernel
theorem dX1_init_28 : decode cX1_init 28 = .ok (.aload_n 0, 1) := by decide +kernel
theorem dX1_init_29 : decode cX1_init 29 = .ok (.new 9, 3) := by decide +kernel
theorem dX1_init_32 : decode cX1_init 32 = .ok (.dup, 1) := by decide +kernel
theorem dX1_init_33 : decode cX1_init 33 = .ok (.iload_n 1, 1) := by decide +kernel
theorem dX1_init_34 : decode cX1_init 34 = .ok (.invokespecial 11, 3) := by decide +kernel
theorem dX1_init_37 : decode cX1_init 37 = .ok (.putfield 23, 3) := by decide +kernel
theorem dX1_init_40 : decode cX1_init 40 = .ok (.aload_n 0, 1) := by decide +kernel
theorem dX1_init_41 : decode cX1_init 41 = .ok (.new 9, 3) := by decide +kernel
theorem dX1_init_44 : decode cX1_init 44 = .ok (.dup, 1) := by decide +kernel
theorem dX1_init_45 : decode cX1_init 45 = .ok (.iload_n 1, 1) := by decide +kernel
theorem dX1_init_46 : decode cX1_init 46 = .ok (.bipush 8, 2) := by decide +kernel
theorem dX1_init_48 : decode cX1_init 48 = .ok (.imul, 1) := by decide +kernel
theorem dX1_init_49 : decode cX1_init 49 = .ok (.invokespecial 11, 3) := by decide +kernel
theorem dX1_init_52 : decode cX1_init 52 = .ok (.putfield 26, 3) := by decide +kernel
theorem dX1_init_55 : decode cX1_init 55 = .ok (.aload_n 0, 1) := by decide +kernel
theorem dX1_init_56 : decode cX1_init 56 = .ok (.new 9, 3) := by decide +kernel
theorem dX1_init_59 : decode cX1_init 59 = .ok (.dup, 1) := by decide +kernel
theorem dX1_init_60 : decode cX1_init 60 = .ok (.iload_n 1, 1) := by decide +kernel
theorem dX1_init_61 : decode cX1_init 61 = .ok (.bipush 8, 2) := by decide +kernel
theorem dX1_init_63 : decode cX1_init 63 = .ok (.imul, 1) := by decide +kernel
theorem dX1_init_64 : decode cX1_init 64 = .ok (.invokespecial 11, 3) := by decide +kernel
theorem dX1_init_67 : decode cX1_init 67 = .ok (.putfield 29, 3) := by decide +kernel
theorem dX1_init_70 : decode cX1_init 70 = .ok (.return_, 1) := by decide +kernel
set_option maxRecDepth 20000 in
theorem ggX1_clear_X5_fill : GoodIn wsX1_clear wsX5_fill := goodIn_r _ [6, 7, 13] (by decide +kernel) (by decide +kernel)
set_option maxRecDepth 20000 in
theorem gX1_clear_X5_fill : GoodIn wsX1_clear (wsV RX1 32 RX5 yX5_fill wsX5_fill) := goodIn_app (goodIn_of _ (by decide +kernel)) ggX1_clear_X5_fill
theorem dX1_clear_0 : decode cX1_clear 0 = .ok (.aload_n 0, 1) := by decide +kernel
theorem dX1_clear_1 : decode cX1_clear 1 = .ok (.getfield 14, 3) := by decide +kernel
theorem dX1_clear_4 : decode cX1_clear 4 = .ok (.iconst 0, 1) := by decide +kernel
theorem dX1_clear_5 : decode cX1_clear 5 = .ok (.invokevirtual 32, 3) := by decide +kernel
theorem dX1_clear_8 : decode cX1_clear 8 = .ok (.return_, 1) := by decide +kernel
set_option maxRecDepth 20000 in
theorem ggX1_empty_X5_set : GoodIn wsX1_empty wsX5_set := goodIn_r _ [6, 7, 13] (by decide +kernel) (by decide +kernel)
set_option maxRecDepth 20000 in
theorem gX1_empty_X5_set : GoodIn wsX1_empty (wsV RX1 35 RX5 yX5_set wsX5_set) := goodIn_app (goodIn_of _ (by decide +kernel)) ggX1_empty_X5_set
theorem dX1_empty_0 : decode cX1_empty 0 = .ok (.aload_n 0, 1) := by decide +kernel
theorem dX1_empty_1 : decode cX1_empty 1 = .ok (.getfield 14, 3) := by decide +kernel
theorem dX1_empty_4 : decode cX1_empty 4 = .ok (.iload_n 1, 1) := by decide +kernel
theorem dX1_empty_5 : decode cX1_empty 5 = .ok (.iconst 0, 1) := by decide +kernel
theorem dX1_empty_6 : decode cX1_empty 6 = .ok (.invokevirtual 35, 3) := by decide +kernel
theorem dX1_empty_9 : decode cX1_empty 9 = .ok (.return_, 1) := by decide +kernel
set_option maxRecDepth 20000 in
theorem ggX1_start_X1_empty : GoodIn wsX1_start wsX1_empty := goodIn_r _ [7, 8, 9, 10, 11, 12, 13, 14, 15, 16, 17, 18, 19, 20] (by decide +kernel) (by decide +kernel)
set_option maxRecDepth 20000 in
theorem gX1_start_X1_empty : GoodIn wsX1_start (wsV RX1 39 RX1 yX1_empty wsX1_empty) := goodIn_app (goodIn_of _ (by decide +kernel)) ggX1_start_X1_empty
set_option maxRecDepth 20000 in
theorem ggX1_start_X5_set : GoodIn wsX1_start wsX5_set := goodIn_r _ [13, 14, 20] (by decide +kernel) (by decide +kernel)
set_option maxRecDepth 20000 in
theorem gX1_start_X5_set : GoodIn wsX1_start (wsV RX1 35 RX5 yX5_set wsX5_set) := goodIn_app (goodIn_of _ (by decide +kernel)) ggX1_start_X5_set
theorem dX1_start_0 : decode cX1_start 0 = .ok (.aload_n 0, 1) := by decide +kernel
theorem dX1_start_1 : decode cX1_start 1 = .ok (.iload_n 1, 1) := by decide +kernel
theorem dX1_start_2 : decode cX1_start 2 = .ok (.invokevirtual 39, 3) := by decide +kernel
theorem dX1_start_5 : decode cX1_start 5 = .ok (.aload_n 0, 1) := by decide +kernel
theorem dX1_start_6 : decode cX1_start 6 = .ok (.getfield 20, 3) := by decide +kernel
theorem dX1_start_9 : decode cX1_start 9 = .ok (.iload_n 1, 1) := by decide +kernel
theorem dX1_start_10 : decode cX1_start 10 = .ok (.iload_n 2, 1) := by decide +kernel
theorem dX1_start_11 : decode cX1_start 11 = .ok (.invokevirtual 35, 3) := by decide +kernel
theorem dX1_start_14 : decode cX1_start 14 = .ok (.aload_n 0, 1) := by decide +kernel
theorem dX1_start_15 : decode cX1_start 15 = .ok (.getfield 23, 3) := by decide +kernel
theorem dX1_start_18 : decode cX1_start 18 = .ok (.iload_n 1, 1) := by decide +kernel
theorem dX1_start_19 : decode cX1_start 19 = .ok (.iload_n 3, 1) := by decide +kernel
theorem dX1_start_20 : decode cX1_start 20 = .ok (.invokevirtual 35, 3) := by decide +kernel
theorem dX1_start_23 : decode cX1_start 23 = .ok (.return_, 1) := by decide +kernel
set_option maxRecDepth 20000 in
theorem ggX1_addPoint_X5_get : GoodIn wsX1_addPoint wsX5_get := goodIn_r _ [8, 9, 19] (by decide +kernel) (by decide +kernel)
set_option maxRecDepth 20000 in
theorem gX1_addPoint_X5_get : GoodIn wsX1_addPoint (wsV RX1 42 RX5 yX5_get wsX5_get) := goodIn_app (goodIn_of _ (by decide +kernel)) ggX1_addPoint_X5_get
set_option maxRecDepth 20000 in
theorem ggX1_addPoint_X5_set : GoodIn wsX1_addPoint wsX5_set := goodIn_r _ [13, 9, 19] (by decide +kernel) (by decide +kernel)
set_option maxRecDepth 20000 in
theorem gX1_addPoint_X5_set : GoodIn wsX1_addPoint (wsV RX1 35 RX5 yX5_set wsX5_set) := goodIn_app (goodIn_of _ (by decide +kernel)) ggX1_addPoint_X5_set
theorem dX1_addPoint_0 : decode cX1_addPoint 0 = .ok (.aload_n 0, 1) := by decide +kernel
theorem dX1_addPoint_1 : decode cX1_addPoint 1 = .ok (.getfield 14, 3) := by decide +kernel
theorem dX1_addPoint_4 : decode cX1_addPoint 4 = .ok (.iload_n 1, 1) := by decide +kernel
theorem dX1_addPoint_5 : decode cX1_addPoint 5 = .ok (.invokevirtual 42, 3) := by decide +kernel
theorem dX1_addPoint_8 : decode cX1_addPoint 8 = .ok (.istore 4, 2) := by decide +kernel
theorem dX1_addPoint_10 : decode cX1_addPoint 10 = .ok (.iload 4, 2) := by decide +kernel
theorem dX1_addPoint_12 : decode cX1_addPoint 12 = .ok (.bipush 8, 2) := by decide +kernel
theorem dX1_addPoint_14 : decode cX1_addPoint 14 = .ok (.if_icmp .ge 45, 3) := by decide +kernel
theorem dX1_addPoint_17 : decode cX1_addPoint 17 = .ok (.aload_n 0, 1) := by decide +kernel
theorem dX1_addPoint_18 : decode cX1_addPoint 18 = .ok (.getfield 26, 3) := by decide +kernel
theorem dX1_addPoint_21 : decode cX1_addPoint 21 = .ok (.iload_n 1, 1) := by decide +kernel
theorem dX1_addPoint_22 : decode cX1_addPoint 22 = .ok (.bipush 8, 2) := by decide +kernel
theorem dX1_addPoint_24 : decode cX1_addPoint 24 = .ok (.imul, 1) := by decide +kernel
theorem dX1_addPoint_25 : decode cX1_addPoint 25 = .ok (.iload 4, 2) := by decide +kernel
theorem dX1_addPoint_27 : decode cX1_addPoint 27 = .ok (.iadd, 1) := by decide +kernel
theorem dX1_addPoint_28 : decode cX1_addPoint 28 = .ok (.iload_n 2, 1) := by decide +kernel
theorem dX1_addPoint_29 : decode cX1_addPoint 29 = .ok (.invokevirtual 35, 3) := by decide +kernel
theorem dX1_addPoint_32 : decode cX1_addPoint 32 = .ok (.aload_n 0, 1) := by decide +kernel
theorem dX1_addPoint_33 : decode cX1_addPoint 33 = .ok (.getfield 29, 3) := by decide +kernel
theorem dX1_addPoint_36 : decode cX1_addPoint 36 = .ok (.iload_n 1, 1) := by decide +kernel
theorem dX1_addPoint_37 : decode cX1_addPoint 37 = .ok (.bipush 8, 2) := by decide +kernel
theorem dX1_addPoint_39 : decode cX1_addPoint 39 = .ok (.imul, 1) := by decide +kernel
theorem dX1_addPoint_40 : decode cX1_addPoint 40 = .ok (.iload 4, 2) := by decide +kernel
theorem dX1_addPoint_42 : decode cX1_addPoint 42 = .ok (.iadd, 1) := by decide +kernel
theorem dX1_addPoint_43 : decode cX1_addPoint 43 = .ok (.iload_n 3, 1) := by decide +kernel
theorem dX1_addPoint_44 : decode cX1_addPoint 44 = .ok (.invokevirtual 35, 3) := by decide +kernel
theorem dX1_addPoint_47 : decode cX1_addPoint 47 = .ok (.aload_n 0, 1) := by decide +kernel
theorem dX1_addPoint_48 : decode cX1_addPoint 48 = .ok (.getfield 14, 3) := by decide +kernel
theorem dX1_addPoint_51 : decode cX1_addPoint 51 = .ok (.iload_n 1, 1) := by decide +kernel
theorem dX1_addPoint_52 : decode cX1_addPoint 52 = .ok (.iload 4, 2) := by decide +kernel
theorem dX1_addPoint_54 : decode cX1_addPoint 54 = .ok (.iconst 1, 1) := by decide +kernel
theorem dX1_addPoint_55 : decode cX1_addPoint 55 = .ok (.iadd, 1) := by decide +kernel
theorem dX1_addPoint_56 : decode cX1_addPoint 56 = .ok (.invokevirtual 35, 3) := by decide +kernel
theorem dX1_addPoint_59 : decode cX1_addPoint 59 = .ok (.return_, 1) := by decide +kernel
set_option maxRecDepth 20000 in
theorem ggX1_copyFrom_X1_pointCount : GoodIn wsX1_copyFrom wsX1_pointCount := goodIn_r _ [5, 6, 7, 8, 9, 10, 11, 12, 49, 50, 51, 52, 53, 54] (by decide +kernel) (by decide +kernel)
set_option maxRecDepth 20000 in
theorem gX1_copyFrom_X1_pointCount : GoodIn wsX1_copyFrom (wsV RX1 46 RX1 yX1_pointCount wsX1_pointCount) := goodIn_app (goodIn_of _ (by decide +kernel)) ggX1_copyFrom_X1_pointCount
set_option maxRecDepth 20000 in
theorem ggX1_copyFrom_X1_colorOf : GoodIn wsX1_copyFrom wsX1_colorOf := goodIn_r _ [16, 17, 7, 8, 9, 10, 11, 12, 49, 50, 51, 52, 53, 54] (by decide +kernel) (by decide +kernel)
set_option maxRecDepth 20000 in
theorem gX1_copyFrom_X1_colorOf : GoodIn wsX1_copyFrom (wsV RX1 49 RX1 yX1_colorOf wsX1_colorOf) := goodIn_app (goodIn_of _ (by decide +kernel)) ggX1_copyFrom_X1_colorOf
set_option maxRecDepth 20000 in
theorem ggX1_copyFrom_X1_layerOf : GoodIn wsX1_copyFrom wsX1_layerOf := goodIn_r _ [21, 22, 7, 8, 9, 10, 11, 12, 49, 50, 51, 52, 53, 54] (by decide +kernel) (by decide +kernel)
set_option maxRecDepth 20000 in
theorem gX1_copyFrom_X1_layerOf : GoodIn wsX1_copyFrom (wsV RX1 52 RX1 yX1_layerOf wsX1_layerOf) := goodIn_app (goodIn_of _ (by decide +kernel)) ggX1_copyFrom_X1_layerOf
set_option maxRecDepth 20000 in
theorem ggX1_copyFrom_X1_start : GoodIn wsX1_copyFrom wsX1_start := goodIn_r _ [26, 17, 22, 27, 28, 29, 4, 30, 6, 31, 32, 33, 10, 34, 12, 49, 50, 51, 52, 53, 54] (by decide +kernel) (by decide +kernel)
set_option maxRecDepth 20000 in
theorem gX1_copyFrom_X1_start : GoodIn wsX1_copyFrom (wsV RX1 55 RX1 yX1_start wsX1_start) := goodIn_app (goodIn_of _ (by decide +kernel)) ggX1_copyFrom_X1_start
set_option maxRecDepth 20000 in
theorem ggX1_copyFrom_X1_xOf : GoodIn wsX1_copyFrom wsX1_xOf := goodIn_r _ [38, 39, 7, 8, 9, 10, 11, 12, 49, 50, 51, 52, 53, 54] (by decide +kernel) (by decide +kernel)
set_option maxRecDepth 20000 in
theorem gX1_copyFrom_X1_xOf : GoodIn wsX1_copyFrom (wsV RX1 59 RX1 yX1_xOf wsX1_xOf) := goodIn_app (goodIn_of _ (by decide +kernel)) ggX1_copyFrom_X1_xOf
set_option maxRecDepth 20000 in
theorem ggX1_copyFrom_X1_yOf : GoodIn wsX1_copyFrom wsX1_yOf := goodIn_r _ [43, 44, 7, 8, 9, 10, 11, 12, 49, 50, 51, 52, 53, 54] (by decide +kernel) (by decide +kernel)
set_option maxRecDepth 20000 in
theorem gX1_copyFrom_X1_yOf : GoodIn wsX1_copyFrom (wsV RX1 63 RX1 yX1_yOf wsX1_yOf) := goodIn_app (goodIn_of _ (by decide +kernel)) ggX1_copyFrom_X1_yOf
set_option maxRecDepth 20000 in
theorem ggX1_copyFrom_X1_addPoint : GoodIn wsX1_copyFrom wsX1_addPoint := goodIn_r _ [48, 6, 39, 44, 7, 8, 9, 10, 11, 12, 31, 32, 33, 34, 49, 50, 51, 52, 53, 54] (by decide +kernel) (by decide +kernel)
set_option maxRecDepth 20000 in
theorem gX1_copyFrom_X1_addPoint : GoodIn wsX1_copyFrom (wsV RX1 66 RX1 yX1_addPoint wsX1_addPoint) := goodIn_app (goodIn_of _ (by decide +kernel)) ggX1_copyFrom_X1_addPoint
theorem dX1_copyFrom_0 : decode cX1_copyFrom 0 = .ok (.aload_n 1, 1) := by decide +kernel
theorem dX1_copyFrom_1 : decode cX1_copyFrom 1 = .ok (.iload_n 2, 1) := by decide +kernel
theorem dX1_copyFrom_2 : decode cX1_copyFrom 2 = .ok (.invokevirtual 46, 3) := by decide +kernel
theorem dX1_copyFrom_5 : decode cX1_copyFrom 5 = .ok (.istore 4, 2) := by decide +kernel
theorem dX1_copyFrom_7 : decode cX1_copyFrom 7 = .ok (.aload_n 0, 1) := by decide +kernel
theorem dX1_copyFrom_8 : decode cX1_copyFrom 8 = .ok (.iload_n 3, 1) := by decide +kernel
theorem dX1_copyFrom_9 : decode cX1_copyFrom 9 = .ok (.aload_n 1, 1) := by decide +kernel
theorem dX1_copyFrom_10 : decode cX1_copyFrom 10 = .ok (.iload_n 2, 1) := by decide +kernel
theorem dX1_copyFrom_11 : decode cX1_copyFrom 11 = .ok (.invokevirtual 49, 3) := by decide +kernel
theorem dX1_copyFrom_14 : decode cX1_copyFrom 14 = .ok (.aload_n 1, 1) := by decide +kernel
theorem dX1_copyFrom_15 : decode cX1_copyFrom 15 = .ok (.iload_n 2, 1) := by decide +kernel
theorem dX1_copyFrom_16 : decode cX1_copyFrom 16 = .ok (.invokevirtual 52, 3) := by decide +kernel
theorem dX1_copyFrom_19 : decode cX1_copyFrom 19 = .ok (.invokevirtual 55, 3) := by decide +kernel
theorem dX1_copyFrom_22 : decode cX1_copyFrom 22 = .ok (.iconst 0, 1) := by decide +kernel
theorem dX1_copyFrom_23 : decode cX1_copyFrom 23 = .ok (.istore 5, 2) := by decide +kernel
theorem dX1_copyFrom_25 : decode cX1_copyFrom 25 = .ok (.iload 5, 2) := by decide +kernel
theorem dX1_copyFrom_27 : decode cX1_copyFrom 27 = .ok (.iload 4, 2) := by decide +kernel
theorem dX1_copyFrom_29 : decode cX1_copyFrom 29 = .ok (.if_icmp .ge 28, 3) := by decide +kernel
theorem dX1_copyFrom_32 : decode cX1_copyFrom 32 = .ok (.aload_n 0, 1) := by decide +kernel
theorem dX1_copyFrom_33 : decode cX1_copyFrom 33 = .ok (.iload_n 3, 1) := by decide +kernel
theorem dX1_copyFrom_34 : decode cX1_copyFrom 34 = .ok (.aload_n 1, 1) := by decide +kernel
theorem dX1_copyFrom_35 : decode cX1_copyFrom 35 = .ok (.iload_n 2, 1) := by decide +kernel
theorem dX1_copyFrom_36 : decode cX1_copyFrom 36 = .ok (.iload 5, 2) := by decide +kernel
theorem dX1_copyFrom_38 : decode cX1_copyFrom 38 = .ok (.invokevirtual 59, 3) := by decide +kernel
theorem dX1_copyFrom_41 : decode cX1_copyFrom 41 = .ok (.aload_n 1, 1) := by decide +kernel
theorem dX1_copyFrom_42 : decode cX1_copyFrom 42 = .ok (.iload_n 2, 1) := by decide +kernel
theorem dX1_copyFrom_43 : decode cX1_copyFrom 43 = .ok (.iload 5, 2) := by decide +kernel
theorem dX1_copyFrom_45 : decode cX1_copyFrom 45 = .ok (.invokevirtual 63, 3) := by decide +kernel
theorem dX1_copyFrom_48 : decode cX1_copyFrom 48 = .ok (.invokevirtual 66, 3) := by decide +kernel
theorem dX1_copyFrom_51 : decode cX1_copyFrom 51 = .ok (.iinc 5 1, 3) := by decide +kernel
theorem dX1_copyFrom_54 : decode cX1_copyFrom 54 = .ok (.goto (-29), 3) := by decide +kernel
theorem dX1_copyFrom_57 : decode cX1_copyFrom 57 = .ok (.return_, 1) := by decide +kernel
set_option maxRecDepth 20000 in
theorem ggX1_pointCount_X5_get : GoodIn wsX1_pointCount wsX5_get := goodIn_r _ [6, 7, 13] (by decide +kernel) (by decide +kernel)
set_option maxRecDepth 20000 in
theorem gX1_pointCount_X5_get : GoodIn wsX1_pointCount (wsV RX1 42 RX5 yX5_get wsX5_get) := goodIn_app (goodIn_of _ (by decide +kernel)) ggX1_pointCount_X5_get
theorem dX1_pointCount_0 : decode cX1_pointCount 0 = .ok (.aload_n 0, 1) := by decide +kernel
theorem dX1_pointCount_1 : decode cX1_pointCount 1 = .ok (.getfield 14, 3) := by decide +kernel
theorem dX1_pointCount_4 : decode cX1_pointCount 4 = .ok (.iload_n 1, 1) := by decide +kernel
theorem dX1_pointCount_5 : decode cX1_pointCount 5 = .ok (.invokevirtual 42, 3) := by decide +kernel
theorem dX1_pointCount_8 : decode cX1_pointCount 8 = .ok (.ireturn, 1) := by decide +kernel
set_option maxRecDepth 20000 in
theorem ggX1_colorOf_X5_get : GoodIn wsX1_colorOf wsX5_get := goodIn_r _ [6, 7, 13] (by decide +kernel) (by decide +kernel)
set_option maxRecDepth 20000 in
theorem gX1_colorOf_X5_get : GoodIn wsX1_colorOf (wsV RX1 42 RX5 yX5_get wsX5_get) := goodIn_app (goodIn_of _ (by decide +kernel)) ggX1_colorOf_X5_get
theorem dX1_colorOf_0 : decode cX1_colorOf 0 = .ok (.aload_n 0, 1) := by decide +kernel
theorem dX1_colorOf_1 : decode cX1_colorOf 1 = .ok (.getfield 20, 3) := by decide +kernel
theorem dX1_colorOf_4 : decode cX1_colorOf 4 = .ok (.iload_n 1, 1) := by decide +kernel
theorem dX1_colorOf_5 : decode cX1_colorOf 5 = .ok (.invokevirtual 42, 3) := by decide +kernel
theorem dX1_colorOf_8 : decode cX1_colorOf 8 = .ok (.ireturn, 1) := by decide +kernel
set_option maxRecDepth 20000 in
theorem ggX1_layerOf_X5_get : GoodIn wsX1_layerOf wsX5_get := goodIn_r _ [6, 7, 13] (by decide +kernel) (by decide +kernel)
set_option maxRecDepth 20000 in
theorem gX1_layerOf_X5_get : GoodIn wsX1_layerOf (wsV RX1 42 RX5 yX5_get wsX5_get) := goodIn_app (goodIn_of _ (by decide +kernel)) ggX1_layerOf_X5_get
theorem dX1_layerOf_0 : decode cX1_layerOf 0 = .ok (.aload_n 0, 1) := by decide +kernel
theorem dX1_layerOf_1 : decode cX1_layerOf 1 = .ok (.getfield 23, 3) := by decide +kernel
theorem dX1_layerOf_4 : decode cX1_layerOf 4 = .ok (.iload_n 1, 1) := by decide +kernel
theorem dX1_layerOf_5 : decode cX1_layerOf 5 = .ok (.invokevirtual 42, 3) := by decide +kernel
theorem dX1_layerOf_8 : decode cX1_layerOf 8 = .ok (.ireturn, 1) := by decide +kernel
set_option maxRecDepth 20000 in
theorem ggX1_xOf_X5_get : GoodIn wsX1_xOf wsX5_get := goodIn_r _ [6, 7, 13] (by decide +kernel) (by decide +kernel)
set_option maxRecDepth 20000 in
theorem gX1_xOf_X5_get : GoodIn wsX1_xOf (wsV RX1 42 RX5 yX5_get wsX5_get) := goodIn_app (goodIn_of _ (by decide +kernel)) ggX1_xOf_X5_get
theorem dX1_xOf_0 : decode cX1_xOf 0 = .ok (.aload_n 0, 1) := by decide +kernel
theorem dX1_xOf_1 : decode cX1_xOf 1 = .ok (.getfield 26, 3) := by decide +kernel
theorem dX1_xOf_4 : decode cX1_xOf 4 = .ok (.iload_n 1, 1) := by decide +kernel
theorem dX1_xOf_5 : decode cX1_xOf 5 = .ok (.bipush 8, 2) := by decide +kernel
theorem dX1_xOf_7 : decode cX1_xOf 7 = .ok (.imul, 1) := by decide +kernel
theorem dX1_xOf_8 : decode cX1_xOf 8 = .ok (.iload_n 2, 1) := by decide +kernel
theorem dX1_xOf_9 : decode cX1_xOf 9 = .ok (.iadd, 1) := by decide +kernel
theorem dX1_xOf_10 : decode cX1_xOf 10 = .ok (.invokevirtual 42, 3) := by decide +kernel
theorem dX1_xOf_13 : decode cX1_xOf 13 = .ok (.ireturn, 1) := by decide +kernel
set_option maxRecDepth 20000 in
theorem ggX1_yOf_X5_get : GoodIn wsX1_yOf wsX5_get := goodIn_r _ [6, 7, 13] (by decide +kernel) (by decide +kernel)
set_option maxRecDepth 20000 in
theorem gX1_yOf_X5_get : GoodIn wsX1_yOf (wsV RX1 42 RX5 yX5_get wsX5_get) := goodIn_app (goodIn_of _ (by decide +kernel)) ggX1_yOf_X5_get
theorem dX1_yOf_0 : decode cX1_yOf 0 = .ok (.aload_n 0, 1) := by decide +kernel
theorem dX1_yOf_1 : decode cX1_yOf 1 = .ok (.getfield 29, 3) := by decide +kernel
theorem dX1_yOf_4 : decode cX1_yOf 4 = .ok (.iload_n 1, 1) := by decide +kernel
theorem dX1_yOf_5 : decode cX1_yOf 5 = .ok (.bipush 8, 2) := by decide +kernel
theorem dX1_yOf_7 : decode cX1_yOf 7 = .ok (.imul, 1) := by decide +kernel
theorem dX1_yOf_8 : decode cX1_yOf 8 = .ok (.iload_n 2, 1) := by decide +kernel
theorem dX1_yOf_9 : decode cX1_yOf 9 = .ok (.iadd, 1) := by decide +kernel
theorem dX1_yOf_10 : decode cX1_yOf 10 = .ok (.invokevirtual 42, 3) := by decide +kernel
theorem dX1_yOf_13 : decode cX1_yOf 13 = .ok (.ireturn, 1) := by decide +kernel
set_option maxRecDepth 20000 in
theorem ggX1_hasPoint_X5_get : GoodIn wsX1_hasPoint wsX5_get := goodIn_r _ [6, 7, 24] (by decide +kernel) (by decide +kernel)
set_option maxRecDepth 20000 in
theorem gX1_hasPoint_X5_get : GoodIn wsX1_hasPoint (wsV RX1 42 RX5 yX5_get wsX5_get) := goodIn_app (goodIn_of _ (by decide +kernel)) ggX1_hasPoint_X5_get
set_option maxRecDepth 20000 in
theorem ggX1_hasPoint_X1_xOf : GoodIn wsX1_hasPoint wsX1_xOf := goodIn_r _ [12, 13, 2, 3, 4, 5, 6, 7, 19, 20, 21, 22, 23, 24] (by decide +kernel) (by decide +kernel)
set_option maxRecDepth 20000 in
theorem gX1_hasPoint_X1_xOf : GoodIn wsX1_hasPoint (wsV RX1 59 RX1 yX1_xOf wsX1_xOf) := goodIn_app (goodIn_of _ (by decide +kernel)) ggX1_hasPoint_X1_xOf
set_option maxRecDepth 20000 in
theorem ggX1_hasPoint_X1_yOf : GoodIn wsX1_hasPoint wsX1_yOf := goodIn_r _ [17, 18, 2, 3, 4, 5, 6, 7, 19, 20, 21, 22, 23, 24] (by decide +kernel) (by decide +kernel)
set_option maxRecDepth 20000 in
theorem gX1_hasPoint_X1_yOf : GoodIn wsX1_hasPoint (wsV RX1 63 RX1 yX1_yOf wsX1_yOf) := goodIn_app (goodIn_of _ (by decide +kernel)) ggX1_hasPoint_X1_yOf
theorem dX1_hasPoint_0 : decode cX1_hasPoint 0 = .ok (.iconst 0, 1) := by decide +kernel
theorem dX1_hasPoint_1 : decode cX1_hasPoint 1 = .ok (.istore 4, 2) := by decide +kernel
theorem dX1_hasPoint_3 : decode cX1_hasPoint 3 = .ok (.iload 4, 2) := by decide +kernel
theorem dX1_hasPoint_5 : decode cX1_hasPoint 5 = .ok (.aload_n 0, 1) := by decide +kernel
theorem dX1_hasPoint_6 : decode cX1_hasPoint 6 = .ok (.getfield 14, 3) := by decide +kernel
theorem dX1_hasPoint_9 : decode cX1_hasPoint 9 = .ok (.iload_n 1, 1) := by decide +kernel
theorem dX1_hasPoint_10 : decode cX1_hasPoint 10 = .ok (.invokevirtual 42, 3) := by decide +kernel
theorem dX1_hasPoint_13 : decode cX1_hasPoint 13 = .ok (.if_icmp .ge 33, 3) := by decide +kernel
theorem dX1_hasPoint_16 : decode cX1_hasPoint 16 = .ok (.aload_n 0, 1) := by decide +kernel
theorem dX1_hasPoint_17 : decode cX1_hasPoint 17 = .ok (.iload_n 1, 1) := by decide +kernel
theorem dX1_hasPoint_18 : decode cX1_hasPoint 18 = .ok (.iload 4, 2) := by decide +kernel
theorem dX1_hasPoint_20 : decode cX1_hasPoint 20 = .ok (.invokevirtual 59, 3) := by decide +kernel
theorem dX1_hasPoint_23 : decode cX1_hasPoint 23 = .ok (.iload_n 2, 1) := by decide +kernel
theorem dX1_hasPoint_24 : decode cX1_hasPoint 24 = .ok (.if_icmp .ne 16, 3) := by decide +kernel
theorem dX1_hasPoint_27 : decode cX1_hasPoint 27 = .ok (.aload_n 0, 1) := by decide +kernel
theorem dX1_hasPoint_28 : decode cX1_hasPoint 28 = .ok (.iload_n 1, 1) := by decide +kernel
theorem dX1_hasPoint_29 : decode cX1_hasPoint 29 = .ok (.iload 4, 2) := by decide +kernel
theorem dX1_hasPoint_31 : decode cX1_hasPoint 31 = .ok (.invokevirtual 63, 3) := by decide +kernel
theorem dX1_hasPoint_34 : decode cX1_hasPoint 34 = .ok (.iload_n 3, 1) := by decide +kernel
theorem dX1_hasPoint_35 : decode cX1_hasPoint 35 = .ok (.if_icmp .ne 5, 3) := by decide +kernel
theorem dX1_hasPoint_38 : decode cX1_hasPoint 38 = .ok (.iconst 1, 1) := by decide +kernel
theorem dX1_hasPoint_39 : decode cX1_hasPoint 39 = .ok (.ireturn, 1) := by decide +kernel
theorem dX1_hasPoint_40 : decode cX1_hasPoint 40 = .ok (.iinc 4 1, 3) := by decide +kernel
theorem dX1_hasPoint_43 : decode cX1_hasPoint 43 = .ok (.goto (-40), 3) := by decide +kernel
theorem dX1_hasPoint_46 : decode cX1_hasPoint 46 = .ok (.iconst 0, 1) := by decide +kernel
theorem dX1_hasPoint_47 : decode cX1_hasPoint 47 = .ok (.ireturn, 1) := by decide +kernel
set_option maxRecDepth 20000 in
theorem ggX1_sizeOf_X5_get : GoodIn wsX1_sizeOf wsX5_get := goodIn_r _ [6, 7, 27] (by decide +kernel) (by decide +kernel)
set_option maxRecDepth 20000 in
theorem gX1_sizeOf_X5_get : GoodIn wsX1_sizeOf (wsV RX1 42 RX5 yX5_get wsX5_get) := goodIn_app (goodIn_of _ (by decide +kernel)) ggX1_sizeOf_X5_get
set_option maxRecDepth 20000 in
theorem ggX1_sizeOf_X1_xOf : GoodIn wsX1_sizeOf wsX1_xOf := goodIn_r _ [12, 13, 2, 3, 4, 5, 6, 7, 22, 23, 24, 25, 26, 27] (by decide +kernel) (by decide +kernel)
set_option maxRecDepth 20000 in
theorem gX1_sizeOf_X1_xOf : GoodIn wsX1_sizeOf (wsV RX1 59 RX1 yX1_xOf wsX1_xOf) := goodIn_app (goodIn_of _ (by decide +kernel)) ggX1_sizeOf_X1_xOf
set_option maxRecDepth 20000 in
theorem ggX1_sizeOf_X6_isWithin : GoodIn wsX1_sizeOf wsX6_isWithin := goodIn_r _ [16] (by decide +kernel) (by decide +kernel)
set_option maxRecDepth 20000 in
theorem gX1_sizeOf_X6_isWithin_n69 : GoodIn wsX1_sizeOf (wsX6_isWithin) := ggX1_sizeOf_X6_isWithin
set_option maxRecDepth 20000 in
theorem ggX1_sizeOf_X1_yOf : GoodIn wsX1_sizeOf wsX1_yOf := goodIn_r _ [20, 21, 2, 3, 4, 5, 6, 7, 22, 23, 24, 25, 26, 27] (by decide +kernel) (by decide +kernel)
set_option maxRecDepth 20000 in
theorem gX1_sizeOf_X1_yOf : GoodIn wsX1_sizeOf (wsV RX1 63 RX1 yX1_yOf wsX1_yOf) := goodIn_app (goodIn_of _ (by decide +kernel)) ggX1_sizeOf_X1_yOf
theorem dX1_sizeOf_0 : decode cX1_sizeOf 0 = .ok (.iconst 4, 1) := by decide +kernel
theorem dX1_sizeOf_1 : decode cX1_sizeOf 1 = .ok (.istore_n 2, 1) := by decide +kernel
theorem dX1_sizeOf_2 : decode cX1_sizeOf 2 = .ok (.iconst 1, 1) := by decide +kernel
theorem dX1_sizeOf_3 : decode cX1_sizeOf 3 = .ok (.istore_n 3, 1) := by decide +kernel
theorem dX1_sizeOf_4 : decode cX1_sizeOf 4 = .ok (.iload_n 3, 1) := by decide +kernel
theorem dX1_sizeOf_5 : decode cX1_sizeOf 5 = .ok (.aload_n 0, 1) := by decide +kernel
theorem dX1_sizeOf_6 : decode cX1_sizeOf 6 = .ok (.getfield 14, 3) := by decide +kernel
theorem dX1_sizeOf_9 : decode cX1_sizeOf 9 = .ok (.iload_n 1, 1) := by decide +kernel
theorem dX1_sizeOf_10 : decode cX1_sizeOf 10 = .ok (.invokevirtual 42, 3) := by decide +kernel
theorem dX1_sizeOf_13 : decode cX1_sizeOf 13 = .ok (.if_icmp .ge 77, 3) := by decide +kernel
theorem dX1_sizeOf_16 : decode cX1_sizeOf 16 = .ok (.aload_n 0, 1) := by decide +kernel
theorem dX1_sizeOf_17 : decode cX1_sizeOf 17 = .ok (.iload_n 1, 1) := by decide +kernel
theorem dX1_sizeOf_18 : decode cX1_sizeOf 18 = .ok (.iload_n 3, 1) := by decide +kernel
theorem dX1_sizeOf_19 : decode cX1_sizeOf 19 = .ok (.invokevirtual 59, 3) := by decide +kernel
theorem dX1_sizeOf_22 : decode cX1_sizeOf 22 = .ok (.aload_n 0, 1) := by decide +kernel
theorem dX1_sizeOf_23 : decode cX1_sizeOf 23 = .ok (.iload_n 1, 1) := by decide +kernel
theorem dX1_sizeOf_24 : decode cX1_sizeOf 24 = .ok (.iload_n 3, 1) := by decide +kernel
theorem dX1_sizeOf_25 : decode cX1_sizeOf 25 = .ok (.iconst 1, 1) := by decide +kernel
theorem dX1_sizeOf_26 : decode cX1_sizeOf 26 = .ok (.isub, 1) := by decide +kernel
theorem dX1_sizeOf_27 : decode cX1_sizeOf 27 = .ok (.invokevirtual 59, 3) := by decide +kernel
theorem dX1_sizeOf_30 : decode cX1_sizeOf 30 = .ok (.isub, 1) := by decide +kernel
theorem dX1_sizeOf_31 : decode cX1_sizeOf 31 = .ok (.bipush (-4), 2) := by decide +kernel
theorem dX1_sizeOf_33 : decode cX1_sizeOf 33 = .ok (.iconst 3, 1) := by decide +kernel
theorem dX1_sizeOf_34 : decode cX1_sizeOf 34 = .ok (.invokestatic 69, 3) := by decide +kernel
theorem dX1_sizeOf_37 : decode cX1_sizeOf 37 = .ok (.ifCond .eq 31, 3) := by decide +kernel
theorem dX1_sizeOf_40 : decode cX1_sizeOf 40 = .ok (.aload_n 0, 1) := by decide +kernel
theorem dX1_sizeOf_41 : decode cX1_sizeOf 41 = .ok (.iload_n 1, 1) := by decide +kernel
theorem dX1_sizeOf_42 : decode cX1_sizeOf 42 = .ok (.iload_n 3, 1) := by decide +kernel
theorem dX1_sizeOf_43 : decode cX1_sizeOf 43 = .ok (.invokevirtual 63, 3) := by decide +kernel
theorem dX1_sizeOf_46 : decode cX1_sizeOf 46 = .ok (.aload_n 0, 1) := by decide +kernel
theorem dX1_sizeOf_47 : decode cX1_sizeOf 47 = .ok (.iload_n 1, 1) := by decide +kernel
theorem dX1_sizeOf_48 : decode cX1_sizeOf 48 = .ok (.iload_n 3, 1) := by decide +kernel
theorem dX1_sizeOf_49 : decode cX1_sizeOf 49 = .ok (.iconst 1, 1) := by decide +kernel
theorem dX1_sizeOf_50 : decode cX1_sizeOf 50 = .ok (.isub, 1) := by decide +kernel
theorem dX1_sizeOf_51 : decode cX1_sizeOf 51 = .ok (.invokevirtual 63, 3) := by decide +kernel
theorem dX1_sizeOf_54 : decode cX1_sizeOf 54 = .ok (.isub, 1) := by decide +kernel
theorem dX1_sizeOf_55 : decode cX1_sizeOf 55 = .ok (.bipush (-4), 2) := by decide +kernel
theorem dX1_sizeOf_57 : decode cX1_sizeOf 57 = .ok (.iconst 3, 1) := by decide +kernel
theorem dX1_sizeOf_58 : decode cX1_sizeOf 58 = .ok (.invokestatic 69, 3) := by decide +kernel
theorem dX1_sizeOf_61 : decode cX1_sizeOf 61 = .ok (.ifCond .eq 7, 3) := by decide +kernel
theorem dX1_sizeOf_64 : decode cX1_sizeOf 64 = .ok (.iconst 1, 1) := by decide +kernel
theorem dX1_sizeOf_65 : decode cX1_sizeOf 65 = .ok (.goto 4, 3) := by decide +kernel
theorem dX1_sizeOf_68 : decode cX1_sizeOf 68 = .ok (.iconst 0, 1) := by decide +kernel
theorem dX1_sizeOf_69 : decode cX1_sizeOf 69 = .ok (.istore 4, 2) := by decide +kernel
theorem dX1_sizeOf_71 : decode cX1_sizeOf 71 = .ok (.iload_n 2, 1) := by decide +kernel
theorem dX1_sizeOf_72 : decode cX1_sizeOf 72 = .ok (.iload 4, 2) := by decide +kernel
theorem dX1_sizeOf_74 : decode cX1_sizeOf 74 = .ok (.ifCond .eq 7, 3) := by decide +kernel
theorem dX1_sizeOf_77 : decode cX1_sizeOf 77 = .ok (.iconst 1, 1) := by decide +kernel
theorem dX1_sizeOf_78 : decode cX1_sizeOf 78 = .ok (.goto 4, 3) := by decide +kernel
theorem dX1_sizeOf_81 : decode cX1_sizeOf 81 = .ok (.iconst 2, 1) := by decide +kernel
theorem dX1_sizeOf_82 : decode cX1_sizeOf 82 = .ok (.iadd, 1) := by decide +kernel
theorem dX1_sizeOf_83 : decode cX1_sizeOf 83 = .ok (.istore_n 2, 1) := by decide +kernel
theorem dX1_sizeOf_84 : decode cX1_sizeOf 84 = .ok (.iinc 3 1, 3) := by decide +kernel
theorem dX1_sizeOf_87 : decode cX1_sizeOf 87 = .ok (.goto (-83), 3) := by decide +kernel
theorem dX1_sizeOf_90 : decode cX1_sizeOf 90 = .ok (.iload_n 2, 1) := by decide +kernel
theorem dX1_sizeOf_91 : decode cX1_sizeOf 91 = .ok (.ireturn, 1) := by decide +kernel
set_option maxRecDepth 20000 in
theorem ggX2_init_X5_init : GoodIn wsX2_init wsX5_init := goodIn_r _ [10, 11, 2, 3, 12, 13, 14, 15, 16, 17, 18] (by decide +kernel) (by decide +kernel)
set_option maxRecDepth 20000 in
theorem gX2_init_X5_init : GoodIn wsX2_init (wsX5_init) := ggX2_init_X5_init
theorem dX2_init_0 : decode cX2_init 0 = .ok (.aload_n 0, 1) := by decide +kernel
theorem dX2_init_1 : decode cX2_init 1 = .ok (.invokespecial 3, 3) := by decide +kernel
theorem dX2_init_4 : decode cX2_init 4 = .ok (.aload_n 0, 1) := by decide +kernel
theorem dX2_init_5 : decode cX2_init 5 = .ok (.new 9, 3) := by decide +kernel
theorem dX2_init_8 : decode cX2_init 8 = .ok (.dup, 1) := by decide +kernel
theorem dX2_init_9 : decode cX2_init 9 = .ok (.sipush 500, 3) := by decide +kernel
theorem dX2_init_12 : decode cX2_init 12 = .ok (.invokespecial 11, 3) := by decide +kernel
theorem dX2_init_15 : decode cX2_init 15 = .ok (.putfield 14, 3) := by decide +kernel
theorem dX2_init_18 : decode cX2_init 18 = .ok (.return_, 1) := by decide +kernel
set_option maxRecDepth 20000 in
theorem ggX2_clear_X5_fill : GoodIn wsX2_clear wsX5_fill := goodIn_r _ [6, 7, 9] (by decide +kernel) (by decide +kernel)
set_option maxRecDepth 20000 in
theorem gX2_clear_X5_fill : GoodIn wsX2_clear (wsV RX2 20 RX5 yX5_fill wsX5_fill) := goodIn_app (goodIn_of _ (by decide +kernel)) ggX2_clear_X5_fill
theorem dX2_clear_0 : decode cX2_clear 0 = .ok (.aload_n 0, 1) := by decide +kernel
theorem dX2_clear_1 : decode cX2_clear 1 = .ok (.getfield 14, 3) := by decide +kernel
theorem dX2_clear_4 : decode cX2_clear 4 = .ok (.iconst 0, 1) := by decide +kernel
theorem dX2_clear_5 : decode cX2_clear 5 = .ok (.invokevirtual 20, 3) := by decide +kernel
theorem dX2_clear_8 : decode cX2_clear 8 = .ok (.return_, 1) := by decide +kernel
set_option maxRecDepth 20000 in
theorem ggX2_copyFrom_X5_copyFrom : GoodIn wsX2_copyFrom wsX5_copyFrom := goodIn_r _ [6, 7, 8, 9, 10, 5, 11, 13] (by decide +kernel) (by decide +kernel)
set_option maxRecDepth 20000 in
theorem gX2_copyFrom_X5_copyFrom : GoodIn wsX2_copyFrom (wsV RX2 23 RX5 yX5_copyFrom wsX5_copyFrom) := goodIn_app (goodIn_of _ (by decide +kernel)) ggX2_copyFrom_X5_copyFrom
theorem dX2_copyFrom_0 : decode cX2_copyFrom 0 = .ok (.aload_n 0, 1) := by decide +kernel
theorem dX2_copyFrom_1 : decode cX2_copyFrom 1 = .ok (.getfield 14, 3) := by decide +kernel
theorem dX2_copyFrom_4 : decode cX2_copyFrom 4 = .ok (.aload_n 1, 1) := by decide +kernel
theorem dX2_copyFrom_5 : decode cX2_copyFrom 5 = .ok (.getfield 14, 3) := by decide +kernel
theorem dX2_copyFrom_8 : decode cX2_copyFrom 8 = .ok (.invokevirtual 23, 3) := by decide +kernel
theorem dX2_copyFrom_11 : decode cX2_copyFrom 11 = .ok (.return_, 1) := by decide +kernel
set_option maxRecDepth 20000 in
theorem ggX2_learn_X5_set : GoodIn wsX2_learn wsX5_set := goodIn_r _ [6, 7, 9] (by decide +kernel) (by decide +kernel)
set_option maxRecDepth 20000 in
theorem gX2_learn_X5_set : GoodIn wsX2_learn (wsV RX2 27 RX5 yX5_set wsX5_set) := goodIn_app (goodIn_of _ (by decide +kernel)) ggX2_learn_X5_set
theorem dX2_learn_0 : decode cX2_learn 0 = .ok (.aload_n 0, 1) := by decide +kernel
theorem dX2_learn_1 : decode cX2_learn 1 = .ok (.getfield 14, 3) := by decide +kernel
theorem dX2_learn_4 : decode cX2_learn 4 = .ok (.iload_n 1, 1) := by decide +kernel
theorem dX2_learn_5 : decode cX2_learn 5 = .ok (.bipush 100, 2) := by decide +kernel
theorem dX2_learn_7 : decode cX2_learn 7 = .ok (.imul, 1) := by decide +kernel
theorem dX2_learn_8 : decode cX2_learn 8 = .ok (.iload_n 2, 1) := by decide +kernel
theorem dX2_learn_9 : decode cX2_learn 9 = .ok (.iadd, 1) := by decide +kernel
theorem dX2_learn_10 : decode cX2_learn 10 = .ok (.iconst 1, 1) := by decide +kernel
theorem dX2_learn_11 : decode cX2_learn 11 = .ok (.invokevirtual 27, 3) := by decide +kernel
theorem dX2_learn_14 : decode cX2_learn 14 = .ok (.return_, 1) := by decide +kernel
set_option maxRecDepth 20000 in
theorem ggX2_has_X5_get : GoodIn wsX2_has wsX5_get := goodIn_r _ [6, 7, 9] (by decide +kernel) (by decide +kernel)
set_option maxRecDepth 20000 in
theorem gX2_has_X5_get : GoodIn wsX2_has (wsV RX2 31 RX5 yX5_get wsX5_get) := goodIn_app (goodIn_of _ (by decide +kernel)) ggX2_has_X5_get
theorem dX2_has_0 : decode cX2_has 0 = .ok (.aload_n 0, 1) := by decide +kernel
theorem dX2_has_1 : decode cX2_has 1 = .ok (.getfield 14, 3) := by decide +kernel
theorem dX2_has_4 : decode cX2_has 4 = .ok (.iload_n 1, 1) := by decide +kernel
theorem dX2_has_5 : decode cX2_has 5 = .ok (.bipush 100, 2) := by decide +kernel
theorem dX2_has_7 : decode cX2_has 7 = .ok (.imul, 1) := by decide +kernel
theorem dX2_has_8 : decode cX2_has 8 = .ok (.iload_n 2, 1) := by decide +kernel
theorem dX2_has_9 : decode cX2_has 9 = .ok (.iadd, 1) := by decide +kernel
theorem dX2_has_10 : decode cX2_has 10 = .ok (.invokevirtual 31, 3) := by decide +kernel
theorem dX2_has_13 : decode cX2_has 13 = .ok (.iconst 1, 1) := by decide +kernel
theorem dX2_has_14 : decode cX2_has 14 = .ok (.if_icmp .ne 7, 3) := by decide +kernel
theorem dX2_has_17 : decode cX2_has 17 = .ok (.iconst 1, 1) := by decide +kernel
theorem dX2_has_18 : decode cX2_has 18 = .ok (.goto 4, 3) := by decide +kernel
theorem dX2_has_21 : decode cX2_has 21 = .ok (.iconst 0, 1) := by decide +kernel
theorem dX2_has_22 : decode cX2_has 22 = .ok (.ireturn, 1) := by decide +kernel
set_option maxRecDepth 20000 in
theorem ggX2_countOf_X2_has : GoodIn wsX2_countOf wsX2_has := goodIn_r _ [5, 6, 7, 8, 9, 10, 11, 12, 13, 14] (by decide +kernel) (by decide +kernel)
set_option maxRecDepth 20000 in
theorem gX2_countOf_X2_has : GoodIn wsX2_countOf (wsV RX2 35 RX2 yX2_has wsX2_has) := goodIn_app (goodIn_of _ (by decide +kernel)) ggX2_countOf_X2_has
theorem dX2_countOf_0 : decode cX2_countOf 0 = .ok (.iconst 0, 1) := by decide +kernel
theorem dX2_countOf_1 : decode cX2_countOf 1 = .ok (.istore_n 2, 1) := by decide +kernel
theorem dX2_countOf_2 : decode cX2_countOf 2 = .ok (.iconst 0, 1) := by decide +kernel
theorem dX2_countOf_3 : decode cX2_countOf 3 = .ok (.istore_n 3, 1) := by decide +kernel
theorem dX2_countOf_4 : decode cX2_countOf 4 = .ok (.iload_n 3, 1) := by decide +kernel
theorem dX2_countOf_5 : decode cX2_countOf 5 = .ok (.bipush 100, 2) := by decide +kernel
theorem dX2_countOf_7 : decode cX2_countOf 7 = .ok (.if_icmp .ge 26, 3) := by decide +kernel
theorem dX2_countOf_10 : decode cX2_countOf 10 = .ok (.iload_n 2, 1) := by decide +kernel
theorem dX2_countOf_11 : decode cX2_countOf 11 = .ok (.aload_n 0, 1) := by decide +kernel
theorem dX2_countOf_12 : decode cX2_countOf 12 = .ok (.iload_n 1, 1) := by decide +kernel
theorem dX2_countOf_13 : decode cX2_countOf 13 = .ok (.iload_n 3, 1) := by decide +kernel
theorem dX2_countOf_14 : decode cX2_countOf 14 = .ok (.invokevirtual 35, 3) := by decide +kernel
theorem dX2_countOf_17 : decode cX2_countOf 17 = .ok (.ifCond .eq 7, 3) := by decide +kernel
theorem dX2_countOf_20 : decode cX2_countOf 20 = .ok (.iconst 1, 1) := by decide +kernel
theorem dX2_countOf_21 : decode cX2_countOf 21 = .ok (.goto 4, 3) := by decide +kernel
theorem dX2_countOf_24 : decode cX2_countOf 24 = .ok (.iconst 0, 1) := by decide +kernel
theorem dX2_countOf_25 : decode cX2_countOf 25 = .ok (.iadd, 1) := by decide +kernel
theorem dX2_countOf_26 : decode cX2_countOf 26 = .ok (.istore_n 2, 1) := by decide +kernel
theorem dX2_countOf_27 : decode cX2_countOf 27 = .ok (.iinc 3 1, 3) := by decide +kernel
theorem dX2_countOf_30 : decode cX2_countOf 30 = .ok (.goto (-26), 3) := by decide +kernel
theorem dX2_countOf_33 : decode cX2_countOf 33 = .ok (.iload_n 2, 1) := by decide +kernel
theorem dX2_countOf_34 : decode cX2_countOf 34 = .ok (.ireturn, 1) := by decide +kernel
set_option maxRecDepth 20000 in
theorem ggX2_isInGap_X2_has : GoodIn wsX2_isInGap wsX2_has := goodIn_r _ [5, 6, 7, 8, 9, 10, 11, 12, 24, 25] (by decide +kernel) (by decide +kernel)
set_option maxRecDepth 20000 in
theorem gX2_isInGap_X2_has : GoodIn wsX2_isInGap (wsV RX2 35 RX2 yX2_has wsX2_has) := goodIn_app (goodIn_of _ (by decide +kernel)) ggX2_isInGap_X2_has
set_option maxRecDepth 20000 in
theorem ggX2_isInGap_X2_hasLaterOfAuthor : GoodIn wsX2_isInGap wsX2_hasLaterOfAuthor := goodIn_r _ [16, 17, 18, 19, 20, 21, 22, 23, 1, 2, 3, 4, 5, 6, 7, 8, 9, 10, 11, 12, 24, 25] (by decide +kernel) (by decide +kernel)
set_option maxRecDepth 20000 in
theorem gX2_isInGap_X2_hasLaterOfAuthor : GoodIn wsX2_isInGap (wsV RX2 39 RX2 yX2_hasLaterOfAuthor wsX2_hasLaterOfAuthor) := goodIn_app (goodIn_of _ (by decide +kernel)) ggX2_isInGap_X2_hasLaterOfAuthor
theorem dX2_isInGap_0 : decode cX2_isInGap 0 = .ok (.aload_n 0, 1) := by decide +kernel
theorem dX2_isInGap_1 : decode cX2_isInGap 1 = .ok (.iload_n 1, 1) := by decide +kernel
theorem dX2_isInGap_2 : decode cX2_isInGap 2 = .ok (.iload_n 2, 1) := by decide +kernel
theorem dX2_isInGap_3 : decode cX2_isInGap 3 = .ok (.invokevirtual 35, 3) := by decide +kernel
theorem dX2_isInGap_6 : decode cX2_isInGap 6 = .ok (.ifCond .ne 16, 3) := by decide +kernel
theorem dX2_isInGap_9 : decode cX2_isInGap 9 = .ok (.aload_n 0, 1) := by decide +kernel
theorem dX2_isInGap_10 : decode cX2_isInGap 10 = .ok (.iload_n 1, 1) := by decide +kernel
theorem dX2_isInGap_11 : decode cX2_isInGap 11 = .ok (.iload_n 2, 1) := by decide +kernel
theorem dX2_isInGap_12 : decode cX2_isInGap 12 = .ok (.invokevirtual 39, 3) := by decide +kernel
theorem dX2_isInGap_15 : decode cX2_isInGap 15 = .ok (.ifCond .eq 7, 3) := by decide +kernel
theorem dX2_isInGap_18 : decode cX2_isInGap 18 = .ok (.iconst 1, 1) := by decide +kernel
theorem dX2_isInGap_19 : decode cX2_isInGap 19 = .ok (.goto 4, 3) := by decide +kernel
theorem dX2_isInGap_22 : decode cX2_isInGap 22 = .ok (.iconst 0, 1) := by decide +kernel
theorem dX2_isInGap_23 : decode cX2_isInGap 23 = .ok (.ireturn, 1) := by decide +kernel
set_option maxRecDepth 20000 in
theorem ggX2_hasLaterOfAuthor_X6_authorOf : GoodIn wsX2_hasLaterOfAuthor wsX6_authorOf := goodIn_r _ [3] (by decide +kernel) (by decide +kernel)
set_option maxRecDepth 20000 in
theorem gX2_hasLaterOfAuthor_X6_authorOf_n42 : GoodIn wsX2_hasLaterOfAuthor (wsX6_authorOf) := ggX2_hasLaterOfAuthor_X6_authorOf
set_option maxRecDepth 20000 in
theorem ggX2_hasLaterOfAuthor_X6_numberOf : GoodIn wsX2_hasLaterOfAuthor wsX6_numberOf := goodIn_r _ [5] (by decide +kernel) (by decide +kernel)
set_option maxRecDepth 20000 in
theorem gX2_hasLaterOfAuthor_X6_numberOf_n45 : GoodIn wsX2_hasLaterOfAuthor (wsX6_numberOf) := ggX2_hasLaterOfAuthor_X6_numberOf
set_option maxRecDepth 20000 in
theorem ggX2_hasLaterOfAuthor_X6_idOf : GoodIn wsX2_hasLaterOfAuthor wsX6_idOf := goodIn_r _ [7] (by decide +kernel) (by decide +kernel)
set_option maxRecDepth 20000 in
theorem gX2_hasLaterOfAuthor_X6_idOf_n48 : GoodIn wsX2_hasLaterOfAuthor (wsX6_idOf) := ggX2_hasLaterOfAuthor_X6_idOf
set_option maxRecDepth 20000 in
theorem ggX2_hasLaterOfAuthor_X2_has : GoodIn wsX2_hasLaterOfAuthor wsX2_has := goodIn_r _ [12, 13, 14, 15, 16, 17, 18, 19, 20, 21] (by decide +kernel) (by decide +kernel)
set_option maxRecDepth 20000 in
theorem gX2_hasLaterOfAuthor_X2_has : GoodIn wsX2_hasLaterOfAuthor (wsV RX2 35 RX2 yX2_has wsX2_has) := goodIn_app (goodIn_of _ (by decide +kernel)) ggX2_hasLaterOfAuthor_X2_has
theorem dX2_hasLaterOfAuthor_0 : decode cX2_hasLaterOfAuthor 0 = .ok (.iload_n 2, 1) := by decide +kernel
theorem dX2_hasLaterOfAuthor_1 : decode cX2_hasLaterOfAuthor 1 = .ok (.invokestatic 42, 3) := by decide +kernel
theorem dX2_hasLaterOfAuthor_4 : decode cX2_hasLaterOfAuthor 4 = .ok (.istore_n 3, 1) := by decide +kernel
theorem dX2_hasLaterOfAuthor_5 : decode cX2_hasLaterOfAuthor 5 = .ok (.iload_n 2, 1) := by decide +kernel
theorem dX2_hasLaterOfAuthor_6 : decode cX2_hasLaterOfAuthor 6 = .ok (.invokestatic 45, 3) := by decide +kernel
theorem dX2_hasLaterOfAuthor_9 : decode cX2_hasLaterOfAuthor 9 = .ok (.iconst 1, 1) := by decide +kernel
theorem dX2_hasLaterOfAuthor_10 : decode cX2_hasLaterOfAuthor 10 = .ok (.iadd, 1) := by decide +kernel
theorem dX2_hasLaterOfAuthor_11 : decode cX2_hasLaterOfAuthor 11 = .ok (.istore 4, 2) := by decide +kernel
theorem dX2_hasLaterOfAuthor_13 : decode cX2_hasLaterOfAuthor 13 = .ok (.iload 4, 2) := by decide +kernel
theorem dX2_hasLaterOfAuthor_15 : decode cX2_hasLaterOfAuthor 15 = .ok (.bipush 20, 2) := by decide +kernel
theorem dX2_hasLaterOfAuthor_17 : decode cX2_hasLaterOfAuthor 17 = .ok (.if_icmp .gt 25, 3) := by decide +kernel
theorem dX2_hasLaterOfAuthor_20 : decode cX2_hasLaterOfAuthor 20 = .ok (.aload_n 0, 1) := by decide +kernel
theorem dX2_hasLaterOfAuthor_21 : decode cX2_hasLaterOfAuthor 21 = .ok (.iload_n 1, 1) := by decide +kernel
theorem dX2_hasLaterOfAuthor_22 : decode cX2_hasLaterOfAuthor 22 = .ok (.iload_n 3, 1) := by decide +kernel
theorem dX2_hasLaterOfAuthor_23 : decode cX2_hasLaterOfAuthor 23 = .ok (.iload 4, 2) := by decide +kernel
theorem dX2_hasLaterOfAuthor_25 : decode cX2_hasLaterOfAuthor 25 = .ok (.invokestatic 48, 3) := by decide +kernel
theorem dX2_hasLaterOfAuthor_28 : decode cX2_hasLaterOfAuthor 28 = .ok (.invokevirtual 35, 3) := by decide +kernel
theorem dX2_hasLaterOfAuthor_31 : decode cX2_hasLaterOfAuthor 31 = .ok (.ifCond .eq 5, 3) := by decide +kernel
theorem dX2_hasLaterOfAuthor_34 : decode cX2_hasLaterOfAuthor 34 = .ok (.iconst 1, 1) := by decide +kernel
theorem dX2_hasLaterOfAuthor_35 : decode cX2_hasLaterOfAuthor 35 = .ok (.ireturn, 1) := by decide +kernel
theorem dX2_hasLaterOfAuthor_36 : decode cX2_hasLaterOfAuthor 36 = .ok (.iinc 4 1, 3) := by decide +kernel
theorem dX2_hasLaterOfAuthor_39 : decode cX2_hasLaterOfAuthor 39 = .ok (.goto (-26), 3) := by decide +kernel
theorem dX2_hasLaterOfAuthor_42 : decode cX2_hasLaterOfAuthor 42 = .ok (.iconst 0, 1) := by decide +kernel
theorem dX2_hasLaterOfAuthor_43 : decode cX2_hasLaterOfAuthor 43 = .ok (.ireturn, 1) := by decide +kernel
set_option maxRecDepth 20000 in
theorem ggX3_init_X5_init : GoodIn wsX3_init wsX5_init := goodIn_r _ [11, 12, 2, 3, 13, 14, 15, 16, 17, 18, 19] (by decide +kernel) (by decide +kernel)
set_option maxRecDepth 20000 in
theorem gX3_init_X5_init : GoodIn wsX3_init (wsX5_init) := ggX3_init_X5_init
theorem dX3_init_0 : decode cX3_init 0 = .ok (.aload_n 0, 1) := by decide +kernel
theorem dX3_init_1 : decode cX3_init 1 = .ok (.invokespecial 3, 3) := by decide +kernel
theorem dX3_init_4 : decode cX3_init 4 = .ok (.aload_n 0, 1) := by decide +kernel
theorem dX3_init_5 : decode cX3_init 5 = .ok (.new 9, 3) := by decide +kernel
theorem dX3_init_8 : decode cX3_init 8 = .ok (.dup, 1) := by decide +kernel
theorem dX3_init_9 : decode cX3_init 9 = .ok (.bipush 25, 2) := by decide +kernel
theorem dX3_init_11 : decode cX3_init 11 = .ok (.invokespecial 11, 3) := by decide +kernel
theorem dX3_init_14 : decode cX3_init 14 = .ok (.putfield 14, 3) := by decide +kernel
theorem dX3_init_17 : decode cX3_init 17 = .ok (.aload_n 0, 1) := by decide +kernel
theorem dX3_init_18 : decode cX3_init 18 = .ok (.new 9, 3) := by decide +kernel
theorem dX3_init_21 : decode cX3_init 21 = .ok (.dup, 1) := by decide +kernel
theorem dX3_init_22 : decode cX3_init 22 = .ok (.sipush 250, 3) := by decide +kernel
theorem dX3_init_25 : decode cX3_init 25 = .ok (.invokespecial 11, 3) := by decide +kernel
theorem dX3_init_28 : decode cX3_init 28 = .ok (.putfield 20, 3) := by decide +kernel
theorem dX3_init_31 : decode cX3_init 31 = .ok (.return_, 1) := by decide +kernel
set_option maxRecDepth 20000 in
theorem ggX3_clear_X5_fill : GoodIn wsX3_clear wsX5_fill := goodIn_r _ [6, 7, 10] (by decide +kernel) (by decide +kernel)
set_option maxRecDepth 20000 in
theorem gX3_clear_X5_fill : GoodIn wsX3_clear (wsV RX3 23 RX5 yX5_fill wsX5_fill) := goodIn_app (goodIn_of _ (by decide +kernel)) ggX3_clear_X5_fill
theorem dX3_clear_0 : decode cX3_clear 0 = .ok (.aload_n 0, 1) := by decide +kernel
theorem dX3_clear_1 : decode cX3_clear 1 = .ok (.getfield 14, 3) := by decide +kernel
theorem dX3_clear_4 : decode cX3_clear 4 = .ok (.iconst 0, 1) := by decide +kernel
theorem dX3_clear_5 : decode cX3_clear 5 = .ok (.invokevirtual 23, 3) := by decide +kernel
theorem dX3_clear_8 : decode cX3_clear 8 = .ok (.return_, 1) := by decide +kernel
set_option maxRecDepth 20000 in
theorem ggX3_send_X5_get : GoodIn wsX3_send wsX5_get := goodIn_r _ [7, 8, 15] (by decide +kernel) (by decide +kernel)
set_option maxRecDepth 20000 in
theorem gX3_send_X5_get : GoodIn wsX3_send (wsV RX3 26 RX5 yX5_get wsX5_get) := goodIn_app (goodIn_of _ (by decide +kernel)) ggX3_send_X5_get
set_option maxRecDepth 20000 in
theorem ggX3_send_X5_set : GoodIn wsX3_send wsX5_set := goodIn_r _ [12, 8, 15] (by decide +kernel) (by decide +kernel)
set_option maxRecDepth 20000 in
theorem gX3_send_X5_set : GoodIn wsX3_send (wsV RX3 30 RX5 yX5_set wsX5_set) := goodIn_app (goodIn_of _ (by decide +kernel)) ggX3_send_X5_set
theorem dX3_send_0 : decode cX3_send 0 = .ok (.iload_n 1, 1) := by decide +kernel
theorem dX3_send_1 : decode cX3_send 1 = .ok (.iconst 5, 1) := by decide +kernel
theorem dX3_send_2 : decode cX3_send 2 = .ok (.imul, 1) := by decide +kernel
theorem dX3_send_3 : decode cX3_send 3 = .ok (.iload_n 2, 1) := by decide +kernel
theorem dX3_send_4 : decode cX3_send 4 = .ok (.iadd, 1) := by decide +kernel
theorem dX3_send_5 : decode cX3_send 5 = .ok (.istore 4, 2) := by decide +kernel
theorem dX3_send_7 : decode cX3_send 7 = .ok (.aload_n 0, 1) := by decide +kernel
theorem dX3_send_8 : decode cX3_send 8 = .ok (.getfield 14, 3) := by decide +kernel
theorem dX3_send_11 : decode cX3_send 11 = .ok (.iload 4, 2) := by decide +kernel
theorem dX3_send_13 : decode cX3_send 13 = .ok (.invokevirtual 26, 3) := by decide +kernel
theorem dX3_send_16 : decode cX3_send 16 = .ok (.istore 5, 2) := by decide +kernel
theorem dX3_send_18 : decode cX3_send 18 = .ok (.iload 5, 2) := by decide +kernel
theorem dX3_send_20 : decode cX3_send 20 = .ok (.bipush 10, 2) := by decide +kernel
theorem dX3_send_22 : decode cX3_send 22 = .ok (.if_icmp .ge 32, 3) := by decide +kernel
theorem dX3_send_25 : decode cX3_send 25 = .ok (.aload_n 0, 1) := by decide +kernel
theorem dX3_send_26 : decode cX3_send 26 = .ok (.getfield 20, 3) := by decide +kernel
theorem dX3_send_29 : decode cX3_send 29 = .ok (.iload 4, 2) := by decide +kernel
theorem dX3_send_31 : decode cX3_send 31 = .ok (.bipush 10, 2) := by decide +kernel
theorem dX3_send_33 : decode cX3_send 33 = .ok (.imul, 1) := by decide +kernel
theorem dX3_send_34 : decode cX3_send 34 = .ok (.iload 5, 2) := by decide +kernel
theorem dX3_send_36 : decode cX3_send 36 = .ok (.iadd, 1) := by decide +kernel
theorem dX3_send_37 : decode cX3_send 37 = .ok (.iload_n 3, 1) := by decide +kernel
theorem dX3_send_38 : decode cX3_send 38 = .ok (.invokevirtual 30, 3) := by decide +kernel
theorem dX3_send_41 : decode cX3_send 41 = .ok (.aload_n 0, 1) := by decide +kernel
theorem dX3_send_42 : decode cX3_send 42 = .ok (.getfield 14, 3) := by decide +kernel
theorem dX3_send_45 : decode cX3_send 45 = .ok (.iload 4, 2) := by decide +kernel
theorem dX3_send_47 : decode cX3_send 47 = .ok (.iload 5, 2) := by decide +kernel
theorem dX3_send_49 : decode cX3_send 49 = .ok (.iconst 1, 1) := by decide +kernel
theorem dX3_send_50 : decode cX3_send 50 = .ok (.iadd, 1) := by decide +kernel
theorem dX3_send_51 : decode cX3_send 51 = .ok (.invokevirtual 30, 3) := by decide +kernel
theorem dX3_send_54 : decode cX3_send 54 = .ok (.return_, 1) := by decide +kernel
set_option maxRecDepth 20000 in
theorem ggX3_countIn_X5_get : GoodIn wsX3_countIn wsX5_get := goodIn_r _ [6, 7, 10] (by decide +kernel) (by decide +kernel)
set_option maxRecDepth 20000 in
theorem gX3_countIn_X5_get : GoodIn wsX3_countIn (wsV RX3 26 RX5 yX5_get wsX5_get) := goodIn_app (goodIn_of _ (by decide +kernel)) ggX3_countIn_X5_get
theorem dX3_countIn_0 : decode cX3_countIn 0 = .ok (.aload_n 0, 1) := by decide +kernel
theorem dX3_countIn_1 : decode cX3_countIn 1 = .ok (.getfield 14, 3) := by decide +kernel
theorem dX3_countIn_4 : decode cX3_countIn 4 = .ok (.iload_n 1, 1) := by decide +kernel
theorem dX3_countIn_5 : decode cX3_countIn 5 = .ok (.iconst 5, 1) := by decide +kernel
theorem dX3_countIn_6 : decode cX3_countIn 6 = .ok (.imul, 1) := by decide +kernel
theorem dX3_countIn_7 : decode cX3_countIn 7 = .ok (.iload_n 2, 1) := by decide +kernel
theorem dX3_countIn_8 : decode cX3_countIn 8 = .ok (.iadd, 1) := by decide +kernel
theorem dX3_countIn_9 : decode cX3_countIn 9 = .ok (.invokevirtual 26, 3) := by decide +kernel
theorem dX3_countIn_12 : decode cX3_countIn 12 = .ok (.ireturn, 1) := by decide +kernel
set_option maxRecDepth 20000 in
theorem ggX3_messageIn_X5_get : GoodIn wsX3_messageIn wsX5_get := goodIn_r _ [6, 7, 10] (by decide +kernel) (by decide +kernel)
set_option maxRecDepth 20000 in
theorem gX3_messageIn_X5_get : GoodIn wsX3_messageIn (wsV RX3 26 RX5 yX5_get wsX5_get) := goodIn_app (goodIn_of _ (by decide +kernel)) ggX3_messageIn_X5_get
theorem dX3_messageIn_0 : decode cX3_messageIn 0 = .ok (.aload_n 0, 1) := by decide +kernel
theorem dX3_messageIn_1 : decode cX3_messageIn 1 = .ok (.getfield 20, 3) := by decide +kernel
theorem dX3_messageIn_4 : decode cX3_messageIn 4 = .ok (.iload_n 1, 1) := by decide +kernel
theorem dX3_messageIn_5 : decode cX3_messageIn 5 = .ok (.iconst 5, 1) := by decide +kernel
theorem dX3_messageIn_6 : decode cX3_messageIn 6 = .ok (.imul, 1) := by decide +kernel
theorem dX3_messageIn_7 : decode cX3_messageIn 7 = .ok (.iload_n 2, 1) := by decide +kernel
theorem dX3_messageIn_8 : decode cX3_messageIn 8 = .ok (.iadd, 1) := by decide +kernel
theorem dX3_messageIn_9 : decode cX3_messageIn 9 = .ok (.bipush 10, 2) := by decide +kernel
theorem dX3_messageIn_11 : decode cX3_messageIn 11 = .ok (.imul, 1) := by decide +kernel
theorem dX3_messageIn_12 : decode cX3_messageIn 12 = .ok (.iload_n 3, 1) := by decide +kernel
theorem dX3_messageIn_13 : decode cX3_messageIn 13 = .ok (.iadd, 1) := by decide +kernel
theorem dX3_messageIn_14 : decode cX3_messageIn 14 = .ok (.invokevirtual 26, 3) := by decide +kernel
theorem dX3_messageIn_17 : decode cX3_messageIn 17 = .ok (.ireturn, 1) := by decide +kernel
set_option maxRecDepth 20000 in
theorem ggX3_dropFirst_X5_get : GoodIn wsX3_dropFirst wsX5_get := goodIn_r _ [11, 12, 19] (by decide +kernel) (by decide +kernel)
set_option maxRecDepth 20000 in
theorem gX3_dropFirst_X5_get : GoodIn wsX3_dropFirst (wsV RX3 26 RX5 yX5_get wsX5_get) := goodIn_app (goodIn_of _ (by decide +kernel)) ggX3_dropFirst_X5_get
set_option maxRecDepth 20000 in
theorem ggX3_dropFirst_X5_set : GoodIn wsX3_dropFirst wsX5_set := goodIn_r _ [16, 12, 19] (by decide +kernel) (by decide +kernel)
set_option maxRecDepth 20000 in
theorem gX3_dropFirst_X5_set : GoodIn wsX3_dropFirst (wsV RX3 30 RX5 yX5_set wsX5_set) := goodIn_app (goodIn_of _ (by decide +kernel)) ggX3_dropFirst_X5_set
theorem dX3_dropFirst_0 : decode cX3_dropFirst 0 = .ok (.iload_n 1, 1) := by decide +kernel
theorem dX3_dropFirst_1 : decode cX3_dropFirst 1 = .ok (.iconst 5, 1) := by decide +kernel
theorem dX3_dropFirst_2 : decode cX3_dropFirst 2 = .ok (.imul, 1) := by decide +kernel
theorem dX3_dropFirst_3 : decode cX3_dropFirst 3 = .ok (.iload_n 2, 1) := by decide +kernel
theorem dX3_dropFirst_4 : decode cX3_dropFirst 4 = .ok (.iadd, 1) := by decide +kernel
theorem dX3_dropFirst_5 : decode cX3_dropFirst 5 = .ok (.istore_n 3, 1) := by decide +kernel
theorem dX3_dropFirst_6 : decode cX3_dropFirst 6 = .ok (.aload_n 0, 1) := by decide +kernel
theorem dX3_dropFirst_7 : decode cX3_dropFirst 7 = .ok (.getfield 14, 3) := by decide +kernel
theorem dX3_dropFirst_10 : decode cX3_dropFirst 10 = .ok (.iload_n 3, 1) := by decide +kernel
theorem dX3_dropFirst_11 : decode cX3_dropFirst 11 = .ok (.invokevirtual 26, 3) := by decide +kernel
theorem dX3_dropFirst_14 : decode cX3_dropFirst 14 = .ok (.iconst 1, 1) := by decide +kernel
theorem dX3_dropFirst_15 : decode cX3_dropFirst 15 = .ok (.isub, 1) := by decide +kernel
theorem dX3_dropFirst_16 : decode cX3_dropFirst 16 = .ok (.istore 4, 2) := by decide +kernel
theorem dX3_dropFirst_18 : decode cX3_dropFirst 18 = .ok (.iload_n 3, 1) := by decide +kernel
theorem dX3_dropFirst_19 : decode cX3_dropFirst 19 = .ok (.bipush 10, 2) := by decide +kernel
theorem dX3_dropFirst_21 : decode cX3_dropFirst 21 = .ok (.imul, 1) := by decide +kernel
theorem dX3_dropFirst_22 : decode cX3_dropFirst 22 = .ok (.istore 5, 2) := by decide +kernel
theorem dX3_dropFirst_24 : decode cX3_dropFirst 24 = .ok (.iconst 0, 1) := by decide +kernel
theorem dX3_dropFirst_25 : decode cX3_dropFirst 25 = .ok (.istore 6, 2) := by decide +kernel
theorem dX3_dropFirst_27 : decode cX3_dropFirst 27 = .ok (.iload 6, 2) := by decide +kernel
theorem dX3_dropFirst_29 : decode cX3_dropFirst 29 = .ok (.iload 4, 2) := by decide +kernel
theorem dX3_dropFirst_31 : decode cX3_dropFirst 31 = .ok (.if_icmp .ge 35, 3) := by decide +kernel
theorem dX3_dropFirst_34 : decode cX3_dropFirst 34 = .ok (.aload_n 0, 1) := by decide +kernel
theorem dX3_dropFirst_35 : decode cX3_dropFirst 35 = .ok (.getfield 20, 3) := by decide +kernel
theorem dX3_dropFirst_38 : decode cX3_dropFirst 38 = .ok (.iload 5, 2) := by decide +kernel
theorem dX3_dropFirst_40 : decode cX3_dropFirst 40 = .ok (.iload 6, 2) := by decide +kernel
theorem dX3_dropFirst_42 : decode cX3_dropFirst 42 = .ok (.iadd, 1) := by decide +kernel
theorem dX3_dropFirst_43 : decode cX3_dropFirst 43 = .ok (.aload_n 0, 1) := by decide +kernel
theorem dX3_dropFirst_44 : decode cX3_dropFirst 44 = .ok (.getfield 20, 3) := by decide +kernel
theorem dX3_dropFirst_47 : decode cX3_dropFirst 47 = .ok (.iload 5, 2) := by decide +kernel
theorem dX3_dropFirst_49 : decode cX3_dropFirst 49 = .ok (.iload 6, 2) := by decide +kernel
theorem dX3_dropFirst_51 : decode cX3_dropFirst 51 = .ok (.iadd, 1) := by decide +kernel
theorem dX3_dropFirst_52 : decode cX3_dropFirst 52 = .ok (.iconst 1, 1) := by decide +kernel
theorem dX3_dropFirst_53 : decode cX3_dropFirst 53 = .ok (.iadd, 1) := by decide +kernel
theorem dX3_dropFirst_54 : decode cX3_dropFirst 54 = .ok (.invokevirtual 26, 3) := by decide +kernel
theorem dX3_dropFirst_57 : decode cX3_dropFirst 57 = .ok (.invokevirtual 30, 3) := by decide +kernel
theorem dX3_dropFirst_60 : decode cX3_dropFirst 60 = .ok (.iinc 6 1, 3) := by decide +kernel
theorem dX3_dropFirst_63 : decode cX3_dropFirst 63 = .ok (.goto (-36), 3) := by decide +kernel
theorem dX3_dropFirst_66 : decode cX3_dropFirst 66 = .ok (.aload_n 0, 1) := by decide +kernel
theorem dX3_dropFirst_67 : decode cX3_dropFirst 67 = .ok (.getfield 14, 3) := by decide +kernel
theorem dX3_dropFirst_70 : decode cX3_dropFirst 70 = .ok (.iload_n 3, 1) := by decide +kernel
theorem dX3_dropFirst_71 : decode cX3_dropFirst 71 = .ok (.iload 4, 2) := by decide +kernel
theorem dX3_dropFirst_73 : decode cX3_dropFirst 73 = .ok (.iconst 0, 1) := by decide +kernel
theorem dX3_dropFirst_74 : decode cX3_dropFirst 74 = .ok (.invokestatic 34, 3) := by decide +kernel
theorem dX3_dropFirst_77 : decode cX3_dropFirst 77 = .ok (.invokevirtual 30, 3) := by decide +kernel
theorem dX3_dropFirst_80 : decode cX3_dropFirst 80 = .ok (.return_, 1) := by decide +kernel
set_option maxRecDepth 20000 in
theorem ggX3_carry_X5_get : GoodIn wsX3_carry wsX5_get := goodIn_r _ [7, 8, 11] (by decide +kernel) (by decide +kernel)
set_option maxRecDepth 20000 in
theorem gX3_carry_X5_get : GoodIn wsX3_carry (wsV RX3 26 RX5 yX5_get wsX5_get) := goodIn_app (goodIn_of _ (by decide +kernel)) ggX3_carry_X5_get
theorem dX3_carry_0 : decode cX3_carry 0 = .ok (.iconst 0, 1) := by decide +kernel
theorem dX3_carry_1 : decode cX3_carry 1 = .ok (.istore_n 2, 1) := by decide +kernel
theorem dX3_carry_2 : decode cX3_carry 2 = .ok (.iload_n 2, 1) := by decide +kernel
theorem dX3_carry_3 : decode cX3_carry 3 = .ok (.bipush 25, 2) := by decide +kernel
theorem dX3_carry_5 : decode cX3_carry 5 = .ok (.if_icmp .ge 48, 3) := by decide +kernel
theorem dX3_carry_8 : decode cX3_carry 8 = .ok (.iconst 0, 1) := by decide +kernel
theorem dX3_carry_9 : decode cX3_carry 9 = .ok (.istore_n 3, 1) := by decide +kernel
theorem dX3_carry_10 : decode cX3_carry 10 = .ok (.iload_n 3, 1) := by decide +kernel
theorem dX3_carry_11 : decode cX3_carry 11 = .ok (.aload_n 0, 1) := by decide +kernel
theorem dX3_carry_12 : decode cX3_carry 12 = .ok (.getfield 14, 3) := by decide +kernel
theorem dX3_carry_15 : decode cX3_carry 15 = .ok (.iload_n 2, 1) := by decide +kernel
theorem dX3_carry_16 : decode cX3_carry 16 = .ok (.invokevirtual 26, 3) := by decide +kernel
theorem dX3_carry_19 : decode cX3_carry 19 = .ok (.if_icmp .ge 28, 3) := by decide +kernel
theorem dX3_carry_22 : decode cX3_carry 22 = .ok (.aload_n 0, 1) := by decide +kernel
theorem dX3_carry_23 : decode cX3_carry 23 = .ok (.getfield 20, 3) := by decide +kernel
theorem dX3_carry_26 : decode cX3_carry 26 = .ok (.iload_n 2, 1) := by decide +kernel
theorem dX3_carry_27 : decode cX3_carry 27 = .ok (.bipush 10, 2) := by decide +kernel
theorem dX3_carry_29 : decode cX3_carry 29 = .ok (.imul, 1) := by decide +kernel
theorem dX3_carry_30 : decode cX3_carry 30 = .ok (.iload_n 3, 1) := by decide +kernel
theorem dX3_carry_31 : decode cX3_carry 31 = .ok (.iadd, 1) := by decide +kernel
theorem dX3_carry_32 : decode cX3_carry 32 = .ok (.invokevirtual 26, 3) := by decide +kernel
theorem dX3_carry_35 : decode cX3_carry 35 = .ok (.iload_n 1, 1) := by decide +kernel
theorem dX3_carry_36 : decode cX3_carry 36 = .ok (.if_icmp .ne 5, 3) := by decide +kernel
theorem dX3_carry_39 : decode cX3_carry 39 = .ok (.iconst 1, 1) := by decide +kernel
theorem dX3_carry_40 : decode cX3_carry 40 = .ok (.ireturn, 1) := by decide +kernel
theorem dX3_carry_41 : decode cX3_carry 41 = .ok (.iinc 3 1, 3) := by decide +kernel
theorem dX3_carry_44 : decode cX3_carry 44 = .ok (.goto (-34), 3) := by decide +kernel
theorem dX3_carry_47 : decode cX3_carry 47 = .ok (.iinc 2 1, 3) := by decide +kernel
theorem dX3_carry_50 : decode cX3_carry 50 = .ok (.goto (-48), 3) := by decide +kernel
theorem dX3_carry_53 : decode cX3_carry 53 = .ok (.iconst 0, 1) := by decide +kernel
theorem dX3_carry_54 : decode cX3_carry 54 = .ok (.ireturn, 1) := by decide +kernel
set_option maxRecDepth 20000 in
theorem ggX4_init_X5_init : GoodIn wsX4_init wsX5_init := goodIn_r _ [19, 20, 2, 3, 21, 22, 23, 24, 25, 26, 38] (by decide +kernel) (by decide +kernel)
set_option maxRecDepth 20000 in
theorem gX4_init_X5_init : GoodIn wsX4_init (wsX5_init) := ggX4_init_X5_init
set_option maxRecDepth 20000 in
theorem ggX4_init_X1_init : GoodIn wsX4_init wsX1_init := goodIn_r _ [29, 30, 2, 3, 31, 5, 6, 32, 33, 34, 35, 36, 37, 18, 19, 20, 21, 22, 23, 24, 25, 26, 38, 47, 48, 49, 50, 51] (by decide +kernel) (by decide +kernel)
set_option maxRecDepth 20000 in
theorem gX4_init_X1_init : GoodIn wsX4_init (wsX1_init) := ggX4_init_X1_init
theorem dX4_init_0 : decode cX4_init 0 = .ok (.aload_n 0, 1) := by decide +kernel
theorem dX4_init_1 : decode cX4_init 1 = .ok (.invokespecial 3, 3) := by decide +kernel
theorem dX4_init_4 : decode cX4_init 4 = .ok (.aload_n 0, 1) := by decide +kernel
theorem dX4_init_5 : decode cX4_init 5 = .ok (.new 9, 3) := by decide +kernel
theorem dX4_init_8 : decode cX4_init 8 = .ok (.dup, 1) := by decide +kernel
theorem dX4_init_9 : decode cX4_init 9 = .ok (.iconst 5, 1) := by decide +kernel
theorem dX4_init_10 : decode cX4_init 10 = .ok (.invokespecial 11, 3) := by decide +kernel
theorem dX4_init_13 : decode cX4_init 13 = .ok (.putfield 14, 3) := by decide +kernel
theorem dX4_init_16 : decode cX4_init 16 = .ok (.aload_n 0, 1) := by decide +kernel
theorem dX4_init_17 : decode cX4_init 17 = .ok (.new 9, 3) := by decide +kernel
theorem dX4_init_20 : decode cX4_init 20 = .ok (.dup, 1) := by decide +kernel
theorem dX4_init_21 : decode cX4_init 21 = .ok (.bipush 100, 2) := by decide +kernel
theorem dX4_init_23 : decode cX4_init 23 = .ok (.invokespecial 11, 3) := by decide +kernel
theorem dX4_init_26 : decode cX4_init 26 = .ok (.putfield 20, 3) := by decide +kernel
theorem dX4_init_29 : decode cX4_init 29 = .ok (.aload_n 0, 1) := by decide +kernel
theorem dX4_init_30 : decode cX4_init 30 = .ok (.new 9, 3) := by decide +kernel
theorem dX4_init_33 : decode cX4_init 33 = .ok (.dup, 1) := by decide +kernel
theorem dX4_init_34 : decode cX4_init 34 = .ok (.bipush 100, 2) := by decide +kernel
theorem dX4_init_36 : decode cX4_init 36 = .ok (.invokespecial 11, 3) := by decide +kernel
theorem dX4_init_39 : decode cX4_init 39 = .ok (.putfield 23, 3) := by decide +kernel
theorem dX4_init_42 : decode cX4_init 42 = .ok (.aload_n 0, 1) := by decide +kernel
theorem dX4_init_43 : decode cX4_init 43 = .ok (.new 9, 3) := by decide +kernel
theorem dX4_init_46 : decode cX4_init 46 = .ok (.dup, 1) := by decide +kernel
theorem dX4_init_47 : decode cX4_init 47 = .ok (.bipush 100, 2) := by decide +kernel
theorem dX4_init_49 : decode cX4_init 49 = .ok (.invokespecial 11, 3) := by decide +kernel
theorem dX4_init_52 : decode cX4_init 52 = .ok (.putfield 26, 3) := by decide +kernel
theorem dX4_init_55 : decode cX4_init 55 = .ok (.aload_n 0, 1) := by decide +kernel
theorem dX4_init_56 : decode cX4_init 56 = .ok (.new 9, 3) := by decide +kernel
theorem dX4_init_59 : decode cX4_init 59 = .ok (.dup, 1) := by decide +kernel
theorem dX4_init_60 : decode cX4_init 60 = .ok (.bipush 100, 2) := by decide +kernel
theorem dX4_init_62 : decode cX4_init 62 = .ok (.invokespecial 11, 3) := by decide +kernel
theorem dX4_init_65 : decode cX4_init 65 = .ok (.putfield 29, 3) := by decide +kernel
theorem dX4_init_68 : decode cX4_init 68 = .ok (.aload_n 0, 1) := by decide +kernel
theorem dX4_init_69 : decode cX4_init 69 = .ok (.new 9, 3) := by decide +kernel
theorem dX4_init_72 : decode cX4_init 72 = .ok (.dup, 1) := by decide +kernel
theorem dX4_init_73 : decode cX4_init 73 = .ok (.bipush 100, 2) := by decide +kernel
theorem dX4_init_75 : decode cX4_init 75 = .ok (.invokespecial 11, 3) := by decide +kernel
theorem dX4_init_78 : decode cX4_init 78 = .ok (.putfield 32, 3) := by decide +kernel
theorem dX4_init_81 : decode cX4_init 81 = .ok (.aload_n 0, 1) := by decide +kernel
theorem dX4_init_82 : decode cX4_init 82 = .ok (.new 35, 3) := by decide +kernel
theorem dX4_init_85 : decode cX4_init 85 = .ok (.dup, 1) := by decide +kernel
theorem dX4_init_86 : decode cX4_init 86 = .ok (.bipush 100, 2) := by decide +kernel
theorem dX4_init_88 : decode cX4_init 88 = .ok (.invokespecial 37, 3) := by decide +kernel
theorem dX4_init_91 : decode cX4_init 91 = .ok (.putfield 38, 3) := by decide +kernel
theorem dX4_init_94 : decode cX4_init 94 = .ok (.return_, 1) := by decide +kernel
set_option maxRecDepth 20000 in
theorem ggX4_clear_X5_fill : GoodIn wsX4_clear wsX5_fill := goodIn_r _ [7, 8, 17] (by decide +kernel) (by decide +kernel)
set_option maxRecDepth 20000 in
theorem gX4_clear_X5_fill : GoodIn wsX4_clear (wsV RX4 42 RX5 yX5_fill wsX5_fill) := goodIn_app (goodIn_of _ (by decide +kernel)) ggX4_clear_X5_fill
theorem dX4_clear_0 : decode cX4_clear 0 = .ok (.aload_n 0, 1) := by decide +kernel
theorem dX4_clear_1 : decode cX4_clear 1 = .ok (.getfield 14, 3) := by decide +kernel
theorem dX4_clear_4 : decode cX4_clear 4 = .ok (.iconst 0, 1) := by decide +kernel
theorem dX4_clear_5 : decode cX4_clear 5 = .ok (.invokevirtual 42, 3) := by decide +kernel
theorem dX4_clear_8 : decode cX4_clear 8 = .ok (.aload_n 0, 1) := by decide +kernel
theorem dX4_clear_9 : decode cX4_clear 9 = .ok (.iconst 0, 1) := by decide +kernel
theorem dX4_clear_10 : decode cX4_clear 10 = .ok (.putfield 45, 3) := by decide +kernel
theorem dX4_clear_13 : decode cX4_clear 13 = .ok (.return_, 1) := by decide +kernel
set_option maxRecDepth 20000 in
theorem ggX4_addStroke_X4_addOperation : GoodIn wsX4_addStroke wsX4_addOperation := goodIn_r _ [7, 8, 9, 10, 11, 12, 13, 14, 15, 16, 17, 18, 19, 20, 21, 22, 23, 24, 25, 26, 6, 27, 28, 29, 30, 31, 32, 33, 34, 35, 36, 37, 38, 39, 85, 86, 87, 88, 89, 90, 91, 92, 93] (by decide +kernel) (by decide +kernel)
set_option maxRecDepth 20000 in
theorem gX4_addStroke_X4_addOperation : GoodIn wsX4_addStroke (wsV RX4 49 RX4 yX4_addOperation wsX4_addOperation) := goodIn_app (goodIn_of _ (by decide +kernel)) ggX4_addStroke_X4_addOperation
set_option maxRecDepth 20000 in
theorem ggX4_addStroke_X1_copyFrom : GoodIn wsX4_addStroke wsX1_copyFrom := goodIn_r _ [44, 45, 46, 47, 43, 48, 49, 50, 12, 13, 14, 15, 16, 51, 52, 53, 54, 55, 56, 57, 58, 59, 60, 61, 62, 63, 64, 65, 66, 67, 68, 69, 21, 22, 23, 70, 71, 72, 73, 74, 75, 76, 77, 78, 79, 80, 81, 82, 83, 94, 95, 96, 97, 98, 93] (by decide +kernel) (by decide +kernel)
set_option maxRecDepth 20000 in
theorem gX4_addStroke_X1_copyFrom : GoodIn wsX4_addStroke (wsV RX4 53 RX1 yX1_copyFrom wsX1_copyFrom) := goodIn_app (goodIn_of _ (by decide +kernel)) ggX4_addStroke_X1_copyFrom
set_option maxRecDepth 20000 in
theorem ggX4_addStroke_X1_layerOf : GoodIn wsX4_addStroke wsX1_layerOf := goodIn_r _ [59, 60, 50, 12, 13, 14, 15, 16, 94, 95, 96, 97, 98, 93] (by decide +kernel) (by decide +kernel)
set_option maxRecDepth 20000 in
theorem gX4_addStroke_X1_layerOf : GoodIn wsX4_addStroke (wsV RX4 57 RX1 yX1_layerOf wsX1_layerOf) := goodIn_app (goodIn_of _ (by decide +kernel)) ggX4_addStroke_X1_layerOf
set_option maxRecDepth 20000 in
theorem ggX4_addStroke_X5_set : GoodIn wsX4_addStroke wsX5_set := goodIn_r _ [23, 16, 93] (by decide +kernel) (by decide +kernel)
set_option maxRecDepth 20000 in
theorem gX4_addStroke_X5_set : GoodIn wsX4_addStroke (wsV RX4 61 RX5 yX5_set wsX5_set) := goodIn_app (goodIn_of _ (by decide +kernel)) ggX4_addStroke_X5_set
theorem dX4_addStroke_0 : decode cX4_addStroke 0 = .ok (.aload_n 0, 1) := by decide +kernel
theorem dX4_addStroke_1 : decode cX4_addStroke 1 = .ok (.iload_n 1, 1) := by decide +kernel
theorem dX4_addStroke_2 : decode cX4_addStroke 2 = .ok (.iload_n 2, 1) := by decide +kernel
theorem dX4_addStroke_3 : decode cX4_addStroke 3 = .ok (.iconst 0, 1) := by decide +kernel
theorem dX4_addStroke_4 : decode cX4_addStroke 4 = .ok (.invokevirtual 49, 3) := by decide +kernel
theorem dX4_addStroke_7 : decode cX4_addStroke 7 = .ok (.istore 4, 2) := by decide +kernel
theorem dX4_addStroke_9 : decode cX4_addStroke 9 = .ok (.aload_n 0, 1) := by decide +kernel
theorem dX4_addStroke_10 : decode cX4_addStroke 10 = .ok (.getfield 38, 3) := by decide +kernel
theorem dX4_addStroke_13 : decode cX4_addStroke 13 = .ok (.aload_n 3, 1) := by decide +kernel
theorem dX4_addStroke_14 : decode cX4_addStroke 14 = .ok (.iload_n 1, 1) := by decide +kernel
theorem dX4_addStroke_15 : decode cX4_addStroke 15 = .ok (.iload 4, 2) := by decide +kernel
theorem dX4_addStroke_17 : decode cX4_addStroke 17 = .ok (.invokevirtual 53, 3) := by decide +kernel
theorem dX4_addStroke_20 : decode cX4_addStroke 20 = .ok (.aload_n 0, 1) := by decide +kernel
theorem dX4_addStroke_21 : decode cX4_addStroke 21 = .ok (.getfield 29, 3) := by decide +kernel
theorem dX4_addStroke_24 : decode cX4_addStroke 24 = .ok (.iload 4, 2) := by decide +kernel
theorem dX4_addStroke_26 : decode cX4_addStroke 26 = .ok (.aload_n 0, 1) := by decide +kernel
theorem dX4_addStroke_27 : decode cX4_addStroke 27 = .ok (.getfield 38, 3) := by decide +kernel
theorem dX4_addStroke_30 : decode cX4_addStroke 30 = .ok (.iload 4, 2) := by decide +kernel
theorem dX4_addStroke_32 : decode cX4_addStroke 32 = .ok (.invokevirtual 57, 3) := by decide +kernel
theorem dX4_addStroke_35 : decode cX4_addStroke 35 = .ok (.invokevirtual 61, 3) := by decide +kernel
theorem dX4_addStroke_38 : decode cX4_addStroke 38 = .ok (.iload 4, 2) := by decide +kernel
theorem dX4_addStroke_40 : decode cX4_addStroke 40 = .ok (.ireturn, 1) := by decide +kernel
set_option maxRecDepth 20000 in
theorem ggX4_addChange_X4_addOperation : GoodIn wsX4_addChange wsX4_addOperation := goodIn_r _ [7, 8, 9, 10, 11, 12, 13, 14, 15, 16, 17, 18, 19, 20, 21, 22, 23, 24, 25, 26, 6, 27, 28, 29, 30, 31, 32, 33, 34, 35, 36, 37, 38, 39, 40, 41, 42, 43, 44, 45, 46, 47, 48] (by decide +kernel) (by decide +kernel)
set_option maxRecDepth 20000 in
theorem gX4_addChange_X4_addOperation : GoodIn wsX4_addChange (wsV RX4 49 RX4 yX4_addOperation wsX4_addOperation) := goodIn_app (goodIn_of _ (by decide +kernel)) ggX4_addChange_X4_addOperation
set_option maxRecDepth 20000 in
theorem ggX4_addChange_X5_set : GoodIn wsX4_addChange wsX5_set := goodIn_r _ [23, 16, 48] (by decide +kernel) (by decide +kernel)
set_option maxRecDepth 20000 in
theorem gX4_addChange_X5_set : GoodIn wsX4_addChange (wsV RX4 61 RX5 yX5_set wsX5_set) := goodIn_app (goodIn_of _ (by decide +kernel)) ggX4_addChange_X5_set
theorem dX4_addChange_0 : decode cX4_addChange 0 = .ok (.aload_n 0, 1) := by decide +kernel
theorem dX4_addChange_1 : decode cX4_addChange 1 = .ok (.iload_n 1, 1) := by decide +kernel
theorem dX4_addChange_2 : decode cX4_addChange 2 = .ok (.iload_n 2, 1) := by decide +kernel
theorem dX4_addChange_3 : decode cX4_addChange 3 = .ok (.iload_n 3, 1) := by decide +kernel
theorem dX4_addChange_4 : decode cX4_addChange 4 = .ok (.invokevirtual 49, 3) := by decide +kernel
theorem dX4_addChange_7 : decode cX4_addChange 7 = .ok (.istore 6, 2) := by decide +kernel
theorem dX4_addChange_9 : decode cX4_addChange 9 = .ok (.aload_n 0, 1) := by decide +kernel
theorem dX4_addChange_10 : decode cX4_addChange 10 = .ok (.getfield 26, 3) := by decide +kernel
theorem dX4_addChange_13 : decode cX4_addChange 13 = .ok (.iload 6, 2) := by decide +kernel
theorem dX4_addChange_15 : decode cX4_addChange 15 = .ok (.iload 4, 2) := by decide +kernel
theorem dX4_addChange_17 : decode cX4_addChange 17 = .ok (.invokevirtual 61, 3) := by decide +kernel
theorem dX4_addChange_20 : decode cX4_addChange 20 = .ok (.aload_n 0, 1) := by decide +kernel
theorem dX4_addChange_21 : decode cX4_addChange 21 = .ok (.getfield 29, 3) := by decide +kernel
theorem dX4_addChange_24 : decode cX4_addChange 24 = .ok (.iload 6, 2) := by decide +kernel
theorem dX4_addChange_26 : decode cX4_addChange 26 = .ok (.iload 5, 2) := by decide +kernel
theorem dX4_addChange_28 : decode cX4_addChange 28 = .ok (.invokevirtual 61, 3) := by decide +kernel
theorem dX4_addChange_31 : decode cX4_addChange 31 = .ok (.iload 6, 2) := by decide +kernel
theorem dX4_addChange_33 : decode cX4_addChange 33 = .ok (.ireturn, 1) := by decide +kernel
set_option maxRecDepth 20000 in
theorem ggX4_addOperation_X5_get : GoodIn wsX4_addOperation wsX5_get := goodIn_r _ [8, 9, 42] (by decide +kernel) (by decide +kernel)
set_option maxRecDepth 20000 in
theorem gX4_addOperation_X5_get : GoodIn wsX4_addOperation (wsV RX4 65 RX5 yX5_get wsX5_get) := goodIn_app (goodIn_of _ (by decide +kernel)) ggX4_addOperation_X5_get
set_option maxRecDepth 20000 in
theorem ggX4_addOperation_X6_idOf : GoodIn wsX4_addOperation wsX6_idOf := goodIn_r _ [12] (by decide +kernel) (by decide +kernel)
set_option maxRecDepth 20000 in
theorem gX4_addOperation_X6_idOf_n68 : GoodIn wsX4_addOperation (wsX6_idOf) := ggX4_addOperation_X6_idOf
set_option maxRecDepth 20000 in
theorem ggX4_addOperation_X5_set : GoodIn wsX4_addOperation wsX5_set := goodIn_r _ [16, 9, 42] (by decide +kernel) (by decide +kernel)
set_option maxRecDepth 20000 in
theorem gX4_addOperation_X5_set : GoodIn wsX4_addOperation (wsV RX4 61 RX5 yX5_set wsX5_set) := goodIn_app (goodIn_of _ (by decide +kernel)) ggX4_addOperation_X5_set
set_option maxRecDepth 20000 in
theorem ggX4_addOperation_X4_insert : GoodIn wsX4_addOperation wsX4_insert := goodIn_r _ [21, 22, 23, 4, 5, 6, 7, 8, 9, 24, 25, 26, 20, 27, 2, 28, 29, 30, 31, 32, 11, 33, 13, 14, 15, 16, 34, 35, 36, 37, 38, 39, 40, 41, 42] (by decide +kernel) (by decide +kernel)
set_option maxRecDepth 20000 in
theorem gX4_addOperation_X4_insert : GoodIn wsX4_addOperation (wsV RX4 72 RX4 yX4_insert wsX4_insert) := goodIn_app (goodIn_of _ (by decide +kernel)) ggX4_addOperation_X4_insert
theorem dX4_addOperation_0 : decode cX4_addOperation 0 = .ok (.aload_n 0, 1) := by decide +kernel
theorem dX4_addOperation_1 : decode cX4_addOperation 1 = .ok (.getfield 14, 3) := by decide +kernel
theorem dX4_addOperation_4 : decode cX4_addOperation 4 = .ok (.iload_n 1, 1) := by decide +kernel
theorem dX4_addOperation_5 : decode cX4_addOperation 5 = .ok (.invokevirtual 65, 3) := by decide +kernel
theorem dX4_addOperation_8 : decode cX4_addOperation 8 = .ok (.iconst 1, 1) := by decide +kernel
theorem dX4_addOperation_9 : decode cX4_addOperation 9 = .ok (.iadd, 1) := by decide +kernel
theorem dX4_addOperation_10 : decode cX4_addOperation 10 = .ok (.istore 4, 2) := by decide +kernel
theorem dX4_addOperation_12 : decode cX4_addOperation 12 = .ok (.iload_n 1, 1) := by decide +kernel
theorem dX4_addOperation_13 : decode cX4_addOperation 13 = .ok (.iload 4, 2) := by decide +kernel
theorem dX4_addOperation_15 : decode cX4_addOperation 15 = .ok (.invokestatic 68, 3) := by decide +kernel
theorem dX4_addOperation_18 : decode cX4_addOperation 18 = .ok (.istore 5, 2) := by decide +kernel
theorem dX4_addOperation_20 : decode cX4_addOperation 20 = .ok (.aload_n 0, 1) := by decide +kernel
theorem dX4_addOperation_21 : decode cX4_addOperation 21 = .ok (.getfield 14, 3) := by decide +kernel
theorem dX4_addOperation_24 : decode cX4_addOperation 24 = .ok (.iload_n 1, 1) := by decide +kernel
theorem dX4_addOperation_25 : decode cX4_addOperation 25 = .ok (.iload 4, 2) := by decide +kernel
theorem dX4_addOperation_27 : decode cX4_addOperation 27 = .ok (.invokevirtual 61, 3) := by decide +kernel
theorem dX4_addOperation_30 : decode cX4_addOperation 30 = .ok (.aload_n 0, 1) := by decide +kernel
theorem dX4_addOperation_31 : decode cX4_addOperation 31 = .ok (.getfield 23, 3) := by decide +kernel
theorem dX4_addOperation_34 : decode cX4_addOperation 34 = .ok (.iload 5, 2) := by decide +kernel
theorem dX4_addOperation_36 : decode cX4_addOperation 36 = .ok (.iload_n 2, 1) := by decide +kernel
theorem dX4_addOperation_37 : decode cX4_addOperation 37 = .ok (.invokevirtual 61, 3) := by decide +kernel
theorem dX4_addOperation_40 : decode cX4_addOperation 40 = .ok (.aload_n 0, 1) := by decide +kernel
theorem dX4_addOperation_41 : decode cX4_addOperation 41 = .ok (.getfield 20, 3) := by decide +kernel
theorem dX4_addOperation_44 : decode cX4_addOperation 44 = .ok (.iload 5, 2) := by decide +kernel
theorem dX4_addOperation_46 : decode cX4_addOperation 46 = .ok (.iload_n 3, 1) := by decide +kernel
theorem dX4_addOperation_47 : decode cX4_addOperation 47 = .ok (.invokevirtual 61, 3) := by decide +kernel
theorem dX4_addOperation_50 : decode cX4_addOperation 50 = .ok (.aload_n 0, 1) := by decide +kernel
theorem dX4_addOperation_51 : decode cX4_addOperation 51 = .ok (.iload 5, 2) := by decide +kernel
theorem dX4_addOperation_53 : decode cX4_addOperation 53 = .ok (.invokevirtual 72, 3) := by decide +kernel
theorem dX4_addOperation_56 : decode cX4_addOperation 56 = .ok (.iload 5, 2) := by decide +kernel
theorem dX4_addOperation_58 : decode cX4_addOperation 58 = .ok (.ireturn, 1) := by decide +kernel
set_option maxRecDepth 20000 in
theorem ggX4_insert_X5_get : GoodIn wsX4_insert wsX5_get := goodIn_r _ [7, 8, 34] (by decide +kernel) (by decide +kernel)
set_option maxRecDepth 20000 in
theorem gX4_insert_X5_get : GoodIn wsX4_insert (wsV RX4 65 RX5 yX5_get wsX5_get) := goodIn_app (goodIn_of _ (by decide +kernel)) ggX4_insert_X5_get
set_option maxRecDepth 20000 in
theorem ggX4_insert_X4_comesAfter : GoodIn wsX4_insert wsX4_comesAfter := goodIn_r _ [13, 14, 3, 4, 5, 6, 7, 8, 15, 16, 17, 18, 19, 20, 21, 26, 27, 28, 29, 30, 31, 32, 33, 34] (by decide +kernel) (by decide +kernel)
set_option maxRecDepth 20000 in
theorem gX4_insert_X4_comesAfter : GoodIn wsX4_insert (wsV RX4 75 RX4 yX4_comesAfter wsX4_comesAfter) := goodIn_app (goodIn_of _ (by decide +kernel)) ggX4_insert_X4_comesAfter
set_option maxRecDepth 20000 in
theorem ggX4_insert_X5_set : GoodIn wsX4_insert wsX5_set := goodIn_r _ [25, 8, 34] (by decide +kernel) (by decide +kernel)
set_option maxRecDepth 20000 in
theorem gX4_insert_X5_set : GoodIn wsX4_insert (wsV RX4 61 RX5 yX5_set wsX5_set) := goodIn_app (goodIn_of _ (by decide +kernel)) ggX4_insert_X5_set
theorem dX4_insert_0 : decode cX4_insert 0 = .ok (.aload_n 0, 1) := by decide +kernel
theorem dX4_insert_1 : decode cX4_insert 1 = .ok (.getfield 45, 3) := by decide +kernel
theorem dX4_insert_4 : decode cX4_insert 4 = .ok (.istore_n 2, 1) := by decide +kernel
theorem dX4_insert_5 : decode cX4_insert 5 = .ok (.iload_n 2, 1) := by decide +kernel
theorem dX4_insert_6 : decode cX4_insert 6 = .ok (.ifCond .le 45, 3) := by decide +kernel
theorem dX4_insert_9 : decode cX4_insert 9 = .ok (.aload_n 0, 1) := by decide +kernel
theorem dX4_insert_10 : decode cX4_insert 10 = .ok (.aload_n 0, 1) := by decide +kernel
theorem dX4_insert_11 : decode cX4_insert 11 = .ok (.getfield 32, 3) := by decide +kernel
theorem dX4_insert_14 : decode cX4_insert 14 = .ok (.iload_n 2, 1) := by decide +kernel
theorem dX4_insert_15 : decode cX4_insert 15 = .ok (.iconst 1, 1) := by decide +kernel
theorem dX4_insert_16 : decode cX4_insert 16 = .ok (.isub, 1) := by decide +kernel
theorem dX4_insert_17 : decode cX4_insert 17 = .ok (.invokevirtual 65, 3) := by decide +kernel
theorem dX4_insert_20 : decode cX4_insert 20 = .ok (.iload_n 1, 1) := by decide +kernel
theorem dX4_insert_21 : decode cX4_insert 21 = .ok (.invokevirtual 75, 3) := by decide +kernel
theorem dX4_insert_24 : decode cX4_insert 24 = .ok (.ifCond .eq 27, 3) := by decide +kernel
theorem dX4_insert_27 : decode cX4_insert 27 = .ok (.aload_n 0, 1) := by decide +kernel
theorem dX4_insert_28 : decode cX4_insert 28 = .ok (.getfield 32, 3) := by decide +kernel

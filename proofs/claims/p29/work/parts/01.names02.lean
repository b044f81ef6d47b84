theorem dX4_insert_31 : decode cX4_insert 31 = .ok (.iload_n 2, 1) := by decide +kernel
theorem dX4_insert_32 : decode cX4_insert 32 = .ok (.aload_n 0, 1) := by decide +kernel
theorem dX4_insert_33 : decode cX4_insert 33 = .ok (.getfield 32, 3) := by decide +kernel
theorem dX4_insert_36 : decode cX4_insert 36 = .ok (.iload_n 2, 1) := by decide +kernel
theorem dX4_insert_37 : decode cX4_insert 37 = .ok (.iconst 1, 1) := by decide +kernel
theorem dX4_insert_38 : decode cX4_insert 38 = .ok (.isub, 1) := by decide +kernel
theorem dX4_insert_39 : decode cX4_insert 39 = .ok (.invokevirtual 65, 3) := by decide +kernel
theorem dX4_insert_42 : decode cX4_insert 42 = .ok (.invokevirtual 61, 3) := by decide +kernel
theorem dX4_insert_45 : decode cX4_insert 45 = .ok (.iinc 2 (-1), 3) := by decide +kernel
theorem dX4_insert_48 : decode cX4_insert 48 = .ok (.goto (-43), 3) := by decide +kernel
theorem dX4_insert_51 : decode cX4_insert 51 = .ok (.aload_n 0, 1) := by decide +kernel
theorem dX4_insert_52 : decode cX4_insert 52 = .ok (.getfield 32, 3) := by decide +kernel
theorem dX4_insert_55 : decode cX4_insert 55 = .ok (.iload_n 2, 1) := by decide +kernel
theorem dX4_insert_56 : decode cX4_insert 56 = .ok (.iload_n 1, 1) := by decide +kernel
theorem dX4_insert_57 : decode cX4_insert 57 = .ok (.invokevirtual 61, 3) := by decide +kernel
theorem dX4_insert_60 : decode cX4_insert 60 = .ok (.aload_n 0, 1) := by decide +kernel
theorem dX4_insert_61 : decode cX4_insert 61 = .ok (.dup, 1) := by decide +kernel
theorem dX4_insert_62 : decode cX4_insert 62 = .ok (.getfield 45, 3) := by decide +kernel
theorem dX4_insert_65 : decode cX4_insert 65 = .ok (.iconst 1, 1) := by decide +kernel
theorem dX4_insert_66 : decode cX4_insert 66 = .ok (.iadd, 1) := by decide +kernel
theorem dX4_insert_67 : decode cX4_insert 67 = .ok (.putfield 45, 3) := by decide +kernel
theorem dX4_insert_70 : decode cX4_insert 70 = .ok (.return_, 1) := by decide +kernel
set_option maxRecDepth 20000 in
theorem ggX4_comesAfter_X5_get : GoodIn wsX4_comesAfter wsX5_get := goodIn_r _ [6, 7, 23] (by decide +kernel) (by decide +kernel)
set_option maxRecDepth 20000 in
theorem gX4_comesAfter_X5_get : GoodIn wsX4_comesAfter (wsV RX4 65 RX5 yX5_get wsX5_get) := goodIn_app (goodIn_of _ (by decide +kernel)) ggX4_comesAfter_X5_get
set_option maxRecDepth 20000 in
theorem ggX4_comesAfter_J6_compare_7cf53 : GoodIn wsX4_comesAfter wsJ6_compare_7cf53 := goodIn_r _ [11] (by decide +kernel) (by decide +kernel)
set_option maxRecDepth 20000 in
theorem gX4_comesAfter_J6_compare_7cf53 : GoodIn wsX4_comesAfter (va_wsS RX4 79 yJ6_compare_7cf53 wsJ6_compare_7cf53) := goodIn_app (goodIn_of _ (by decide +kernel)) ggX4_comesAfter_J6_compare_7cf53
set_option maxRecDepth 20000 in
theorem ggX4_comesAfter_X6_authorOf : GoodIn wsX4_comesAfter wsX6_authorOf := goodIn_r _ [14] (by decide +kernel) (by decide +kernel)
set_option maxRecDepth 20000 in
theorem gX4_comesAfter_X6_authorOf_n84 : GoodIn wsX4_comesAfter (wsX6_authorOf) := ggX4_comesAfter_X6_authorOf
theorem dX4_comesAfter_0 : decode cX4_comesAfter 0 = .ok (.aload_n 0, 1) := by decide +kernel
theorem dX4_comesAfter_1 : decode cX4_comesAfter 1 = .ok (.getfield 23, 3) := by decide +kernel
theorem dX4_comesAfter_4 : decode cX4_comesAfter 4 = .ok (.iload_n 1, 1) := by decide +kernel
theorem dX4_comesAfter_5 : decode cX4_comesAfter 5 = .ok (.invokevirtual 65, 3) := by decide +kernel
theorem dX4_comesAfter_8 : decode cX4_comesAfter 8 = .ok (.aload_n 0, 1) := by decide +kernel
theorem dX4_comesAfter_9 : decode cX4_comesAfter 9 = .ok (.getfield 23, 3) := by decide +kernel
theorem dX4_comesAfter_12 : decode cX4_comesAfter 12 = .ok (.iload_n 2, 1) := by decide +kernel
theorem dX4_comesAfter_13 : decode cX4_comesAfter 13 = .ok (.invokevirtual 65, 3) := by decide +kernel
theorem dX4_comesAfter_16 : decode cX4_comesAfter 16 = .ok (.invokestatic 79, 3) := by decide +kernel
theorem dX4_comesAfter_19 : decode cX4_comesAfter 19 = .ok (.istore_n 3, 1) := by decide +kernel
theorem dX4_comesAfter_20 : decode cX4_comesAfter 20 = .ok (.iload_n 3, 1) := by decide +kernel
theorem dX4_comesAfter_21 : decode cX4_comesAfter 21 = .ok (.ifCond .gt 18, 3) := by decide +kernel
theorem dX4_comesAfter_24 : decode cX4_comesAfter 24 = .ok (.iload_n 3, 1) := by decide +kernel
theorem dX4_comesAfter_25 : decode cX4_comesAfter 25 = .ok (.ifCond .ne 18, 3) := by decide +kernel
theorem dX4_comesAfter_28 : decode cX4_comesAfter 28 = .ok (.iload_n 1, 1) := by decide +kernel
theorem dX4_comesAfter_29 : decode cX4_comesAfter 29 = .ok (.invokestatic 84, 3) := by decide +kernel
theorem dX4_comesAfter_32 : decode cX4_comesAfter 32 = .ok (.iload_n 2, 1) := by decide +kernel
theorem dX4_comesAfter_33 : decode cX4_comesAfter 33 = .ok (.invokestatic 84, 3) := by decide +kernel
theorem dX4_comesAfter_36 : decode cX4_comesAfter 36 = .ok (.if_icmp .le 7, 3) := by decide +kernel
theorem dX4_comesAfter_39 : decode cX4_comesAfter 39 = .ok (.iconst 1, 1) := by decide +kernel
theorem dX4_comesAfter_40 : decode cX4_comesAfter 40 = .ok (.goto 4, 3) := by decide +kernel
theorem dX4_comesAfter_43 : decode cX4_comesAfter 43 = .ok (.iconst 0, 1) := by decide +kernel
theorem dX4_comesAfter_44 : decode cX4_comesAfter 44 = .ok (.ireturn, 1) := by decide +kernel
set_option maxRecDepth 20000 in
theorem ggX4_madeBy_X5_get : GoodIn wsX4_madeBy wsX5_get := goodIn_r _ [6, 7, 16] (by decide +kernel) (by decide +kernel)
set_option maxRecDepth 20000 in
theorem gX4_madeBy_X5_get : GoodIn wsX4_madeBy (wsV RX4 65 RX5 yX5_get wsX5_get) := goodIn_app (goodIn_of _ (by decide +kernel)) ggX4_madeBy_X5_get
theorem dX4_madeBy_0 : decode cX4_madeBy 0 = .ok (.aload_n 0, 1) := by decide +kernel
theorem dX4_madeBy_1 : decode cX4_madeBy 1 = .ok (.getfield 14, 3) := by decide +kernel
theorem dX4_madeBy_4 : decode cX4_madeBy 4 = .ok (.iload_n 1, 1) := by decide +kernel
theorem dX4_madeBy_5 : decode cX4_madeBy 5 = .ok (.invokevirtual 65, 3) := by decide +kernel
theorem dX4_madeBy_8 : decode cX4_madeBy 8 = .ok (.ireturn, 1) := by decide +kernel
theorem dX4_totalCount_0 : decode cX4_totalCount 0 = .ok (.aload_n 0, 1) := by decide +kernel
theorem dX4_totalCount_1 : decode cX4_totalCount 1 = .ok (.getfield 45, 3) := by decide +kernel
theorem dX4_totalCount_4 : decode cX4_totalCount 4 = .ok (.ireturn, 1) := by decide +kernel
set_option maxRecDepth 20000 in
theorem ggX4_inOrder_X5_get : GoodIn wsX4_inOrder wsX5_get := goodIn_r _ [6, 7, 16] (by decide +kernel) (by decide +kernel)
set_option maxRecDepth 20000 in
theorem gX4_inOrder_X5_get : GoodIn wsX4_inOrder (wsV RX4 65 RX5 yX5_get wsX5_get) := goodIn_app (goodIn_of _ (by decide +kernel)) ggX4_inOrder_X5_get
theorem dX4_inOrder_0 : decode cX4_inOrder 0 = .ok (.aload_n 0, 1) := by decide +kernel
theorem dX4_inOrder_1 : decode cX4_inOrder 1 = .ok (.getfield 32, 3) := by decide +kernel
theorem dX4_inOrder_4 : decode cX4_inOrder 4 = .ok (.iload_n 1, 1) := by decide +kernel
theorem dX4_inOrder_5 : decode cX4_inOrder 5 = .ok (.invokevirtual 65, 3) := by decide +kernel
theorem dX4_inOrder_8 : decode cX4_inOrder 8 = .ok (.ireturn, 1) := by decide +kernel
set_option maxRecDepth 20000 in
theorem ggX4_kindOf_X5_get : GoodIn wsX4_kindOf wsX5_get := goodIn_r _ [6, 7, 16] (by decide +kernel) (by decide +kernel)
set_option maxRecDepth 20000 in
theorem gX4_kindOf_X5_get : GoodIn wsX4_kindOf (wsV RX4 65 RX5 yX5_get wsX5_get) := goodIn_app (goodIn_of _ (by decide +kernel)) ggX4_kindOf_X5_get
theorem dX4_kindOf_0 : decode cX4_kindOf 0 = .ok (.aload_n 0, 1) := by decide +kernel
theorem dX4_kindOf_1 : decode cX4_kindOf 1 = .ok (.getfield 20, 3) := by decide +kernel
theorem dX4_kindOf_4 : decode cX4_kindOf 4 = .ok (.iload_n 1, 1) := by decide +kernel
theorem dX4_kindOf_5 : decode cX4_kindOf 5 = .ok (.invokevirtual 65, 3) := by decide +kernel
theorem dX4_kindOf_8 : decode cX4_kindOf 8 = .ok (.ireturn, 1) := by decide +kernel
set_option maxRecDepth 20000 in
theorem ggX4_isStroke_X5_get : GoodIn wsX4_isStroke wsX5_get := goodIn_r _ [6, 7, 16] (by decide +kernel) (by decide +kernel)
set_option maxRecDepth 20000 in
theorem gX4_isStroke_X5_get : GoodIn wsX4_isStroke (wsV RX4 65 RX5 yX5_get wsX5_get) := goodIn_app (goodIn_of _ (by decide +kernel)) ggX4_isStroke_X5_get
theorem dX4_isStroke_0 : decode cX4_isStroke 0 = .ok (.aload_n 0, 1) := by decide +kernel
theorem dX4_isStroke_1 : decode cX4_isStroke 1 = .ok (.getfield 20, 3) := by decide +kernel
theorem dX4_isStroke_4 : decode cX4_isStroke 4 = .ok (.iload_n 1, 1) := by decide +kernel
theorem dX4_isStroke_5 : decode cX4_isStroke 5 = .ok (.invokevirtual 65, 3) := by decide +kernel
theorem dX4_isStroke_8 : decode cX4_isStroke 8 = .ok (.ifCond .ne 7, 3) := by decide +kernel
theorem dX4_isStroke_11 : decode cX4_isStroke 11 = .ok (.iconst 1, 1) := by decide +kernel
theorem dX4_isStroke_12 : decode cX4_isStroke 12 = .ok (.goto 4, 3) := by decide +kernel
theorem dX4_isStroke_15 : decode cX4_isStroke 15 = .ok (.iconst 0, 1) := by decide +kernel
theorem dX4_isStroke_16 : decode cX4_isStroke 16 = .ok (.ireturn, 1) := by decide +kernel
set_option maxRecDepth 20000 in
theorem ggX4_timeOf_X5_get : GoodIn wsX4_timeOf wsX5_get := goodIn_r _ [6, 7, 16] (by decide +kernel) (by decide +kernel)
set_option maxRecDepth 20000 in
theorem gX4_timeOf_X5_get : GoodIn wsX4_timeOf (wsV RX4 65 RX5 yX5_get wsX5_get) := goodIn_app (goodIn_of _ (by decide +kernel)) ggX4_timeOf_X5_get
theorem dX4_timeOf_0 : decode cX4_timeOf 0 = .ok (.aload_n 0, 1) := by decide +kernel
theorem dX4_timeOf_1 : decode cX4_timeOf 1 = .ok (.getfield 23, 3) := by decide +kernel
theorem dX4_timeOf_4 : decode cX4_timeOf 4 = .ok (.iload_n 1, 1) := by decide +kernel
theorem dX4_timeOf_5 : decode cX4_timeOf 5 = .ok (.invokevirtual 65, 3) := by decide +kernel
theorem dX4_timeOf_8 : decode cX4_timeOf 8 = .ok (.ireturn, 1) := by decide +kernel
set_option maxRecDepth 20000 in
theorem ggX4_targetOf_X5_get : GoodIn wsX4_targetOf wsX5_get := goodIn_r _ [6, 7, 16] (by decide +kernel) (by decide +kernel)
set_option maxRecDepth 20000 in
theorem gX4_targetOf_X5_get : GoodIn wsX4_targetOf (wsV RX4 65 RX5 yX5_get wsX5_get) := goodIn_app (goodIn_of _ (by decide +kernel)) ggX4_targetOf_X5_get
theorem dX4_targetOf_0 : decode cX4_targetOf 0 = .ok (.aload_n 0, 1) := by decide +kernel
theorem dX4_targetOf_1 : decode cX4_targetOf 1 = .ok (.getfield 26, 3) := by decide +kernel
theorem dX4_targetOf_4 : decode cX4_targetOf 4 = .ok (.iload_n 1, 1) := by decide +kernel
theorem dX4_targetOf_5 : decode cX4_targetOf 5 = .ok (.invokevirtual 65, 3) := by decide +kernel
theorem dX4_targetOf_8 : decode cX4_targetOf 8 = .ok (.ireturn, 1) := by decide +kernel
set_option maxRecDepth 20000 in
theorem ggX4_layerOf_X5_get : GoodIn wsX4_layerOf wsX5_get := goodIn_r _ [6, 7, 16] (by decide +kernel) (by decide +kernel)
set_option maxRecDepth 20000 in
theorem gX4_layerOf_X5_get : GoodIn wsX4_layerOf (wsV RX4 65 RX5 yX5_get wsX5_get) := goodIn_app (goodIn_of _ (by decide +kernel)) ggX4_layerOf_X5_get
theorem dX4_layerOf_0 : decode cX4_layerOf 0 = .ok (.aload_n 0, 1) := by decide +kernel
theorem dX4_layerOf_1 : decode cX4_layerOf 1 = .ok (.getfield 29, 3) := by decide +kernel
theorem dX4_layerOf_4 : decode cX4_layerOf 4 = .ok (.iload_n 1, 1) := by decide +kernel
theorem dX4_layerOf_5 : decode cX4_layerOf 5 = .ok (.invokevirtual 65, 3) := by decide +kernel
theorem dX4_layerOf_8 : decode cX4_layerOf 8 = .ok (.ireturn, 1) := by decide +kernel
set_option maxRecDepth 20000 in
theorem ggX4_sizeOf_X5_get : GoodIn wsX4_sizeOf wsX5_get := goodIn_r _ [7, 8, 37] (by decide +kernel) (by decide +kernel)
set_option maxRecDepth 20000 in
theorem gX4_sizeOf_X5_get : GoodIn wsX4_sizeOf (wsV RX4 65 RX5 yX5_get wsX5_get) := goodIn_app (goodIn_of _ (by decide +kernel)) ggX4_sizeOf_X5_get
set_option maxRecDepth 20000 in
theorem ggX4_sizeOf_X1_sizeOf : GoodIn wsX4_sizeOf wsX1_sizeOf := goodIn_r _ [13, 14, 15, 4, 5, 6, 7, 8, 16, 17, 18, 12, 19, 20, 21, 22, 23, 24, 25, 26, 27, 28, 38, 39, 40, 41, 42, 37] (by decide +kernel) (by decide +kernel)
set_option maxRecDepth 20000 in
theorem gX4_sizeOf_X1_sizeOf : GoodIn wsX4_sizeOf (wsV RX4 87 RX1 yX1_sizeOf wsX1_sizeOf) := goodIn_app (goodIn_of _ (by decide +kernel)) ggX4_sizeOf_X1_sizeOf
theorem dX4_sizeOf_0 : decode cX4_sizeOf 0 = .ok (.aload_n 0, 1) := by decide +kernel
theorem dX4_sizeOf_1 : decode cX4_sizeOf 1 = .ok (.getfield 20, 3) := by decide +kernel
theorem dX4_sizeOf_4 : decode cX4_sizeOf 4 = .ok (.iload_n 1, 1) := by decide +kernel
theorem dX4_sizeOf_5 : decode cX4_sizeOf 5 = .ok (.invokevirtual 65, 3) := by decide +kernel
theorem dX4_sizeOf_8 : decode cX4_sizeOf 8 = .ok (.lookupswitch 39 #[(0, 28), (3, 37)], 28) := by decide +kernel
theorem dX4_sizeOf_36 : decode cX4_sizeOf 36 = .ok (.aload_n 0, 1) := by decide +kernel
theorem dX4_sizeOf_37 : decode cX4_sizeOf 37 = .ok (.getfield 38, 3) := by decide +kernel
theorem dX4_sizeOf_40 : decode cX4_sizeOf 40 = .ok (.iload_n 1, 1) := by decide +kernel
theorem dX4_sizeOf_41 : decode cX4_sizeOf 41 = .ok (.invokevirtual 87, 3) := by decide +kernel
theorem dX4_sizeOf_44 : decode cX4_sizeOf 44 = .ok (.ireturn, 1) := by decide +kernel
theorem dX4_sizeOf_45 : decode cX4_sizeOf 45 = .ok (.iconst 4, 1) := by decide +kernel
theorem dX4_sizeOf_46 : decode cX4_sizeOf 46 = .ok (.ireturn, 1) := by decide +kernel
theorem dX4_sizeOf_47 : decode cX4_sizeOf 47 = .ok (.iconst 3, 1) := by decide +kernel
theorem dX4_sizeOf_48 : decode cX4_sizeOf 48 = .ok (.ireturn, 1) := by decide +kernel
theorem dX5_init_0 : decode cX5_init 0 = .ok (.aload_n 0, 1) := by decide +kernel
theorem dX5_init_1 : decode cX5_init 1 = .ok (.invokespecial 1, 3) := by decide +kernel
theorem dX5_init_4 : decode cX5_init 4 = .ok (.aload_n 0, 1) := by decide +kernel
theorem dX5_init_5 : decode cX5_init 5 = .ok (.iload_n 1, 1) := by decide +kernel
theorem dX5_init_6 : decode cX5_init 6 = .ok (.iconst 0, 1) := by decide +kernel
theorem dX5_init_7 : decode cX5_init 7 = .ok (.invokestatic 7, 3) := by decide +kernel
theorem dX5_init_10 : decode cX5_init 10 = .ok (.newarray .int, 2) := by decide +kernel
theorem dX5_init_12 : decode cX5_init 12 = .ok (.putfield 13, 3) := by decide +kernel
theorem dX5_init_15 : decode cX5_init 15 = .ok (.return_, 1) := by decide +kernel
theorem dX5_get_0 : decode cX5_get 0 = .ok (.iload_n 1, 1) := by decide +kernel
theorem dX5_get_1 : decode cX5_get 1 = .ok (.ifCond .lt 21, 3) := by decide +kernel
theorem dX5_get_4 : decode cX5_get 4 = .ok (.iload_n 1, 1) := by decide +kernel
theorem dX5_get_5 : decode cX5_get 5 = .ok (.aload_n 0, 1) := by decide +kernel
theorem dX5_get_6 : decode cX5_get 6 = .ok (.getfield 13, 3) := by decide +kernel
theorem dX5_get_9 : decode cX5_get 9 = .ok (.arraylength, 1) := by decide +kernel
theorem dX5_get_10 : decode cX5_get 10 = .ok (.if_icmp .ge 12, 3) := by decide +kernel
theorem dX5_get_13 : decode cX5_get 13 = .ok (.aload_n 0, 1) := by decide +kernel
theorem dX5_get_14 : decode cX5_get 14 = .ok (.getfield 13, 3) := by decide +kernel
theorem dX5_get_17 : decode cX5_get 17 = .ok (.iload_n 1, 1) := by decide +kernel
theorem dX5_get_18 : decode cX5_get 18 = .ok (.iaload, 1) := by decide +kernel
theorem dX5_get_19 : decode cX5_get 19 = .ok (.goto 4, 3) := by decide +kernel
theorem dX5_get_22 : decode cX5_get 22 = .ok (.iconst 0, 1) := by decide +kernel
theorem dX5_get_23 : decode cX5_get 23 = .ok (.ireturn, 1) := by decide +kernel
theorem dX5_set_0 : decode cX5_set 0 = .ok (.iload_n 1, 1) := by decide +kernel
theorem dX5_set_1 : decode cX5_set 1 = .ok (.ifCond .lt 19, 3) := by decide +kernel
theorem dX5_set_4 : decode cX5_set 4 = .ok (.iload_n 1, 1) := by decide +kernel
theorem dX5_set_5 : decode cX5_set 5 = .ok (.aload_n 0, 1) := by decide +kernel
theorem dX5_set_6 : decode cX5_set 6 = .ok (.getfield 13, 3) := by decide +kernel
theorem dX5_set_9 : decode cX5_set 9 = .ok (.arraylength, 1) := by decide +kernel
theorem dX5_set_10 : decode cX5_set 10 = .ok (.if_icmp .ge 10, 3) := by decide +kernel
theorem dX5_set_13 : decode cX5_set 13 = .ok (.aload_n 0, 1) := by decide +kernel
theorem dX5_set_14 : decode cX5_set 14 = .ok (.getfield 13, 3) := by decide +kernel
theorem dX5_set_17 : decode cX5_set 17 = .ok (.iload_n 1, 1) := by decide +kernel
theorem dX5_set_18 : decode cX5_set 18 = .ok (.iload_n 2, 1) := by decide +kernel
theorem dX5_set_19 : decode cX5_set 19 = .ok (.iastore, 1) := by decide +kernel
theorem dX5_set_20 : decode cX5_set 20 = .ok (.return_, 1) := by decide +kernel
theorem dX5_fill_0 : decode cX5_fill 0 = .ok (.iconst 0, 1) := by decide +kernel
theorem dX5_fill_1 : decode cX5_fill 1 = .ok (.istore_n 2, 1) := by decide +kernel
theorem dX5_fill_2 : decode cX5_fill 2 = .ok (.iload_n 2, 1) := by decide +kernel
theorem dX5_fill_3 : decode cX5_fill 3 = .ok (.aload_n 0, 1) := by decide +kernel
theorem dX5_fill_4 : decode cX5_fill 4 = .ok (.getfield 13, 3) := by decide +kernel
theorem dX5_fill_7 : decode cX5_fill 7 = .ok (.arraylength, 1) := by decide +kernel
theorem dX5_fill_8 : decode cX5_fill 8 = .ok (.if_icmp .ge 16, 3) := by decide +kernel
theorem dX5_fill_11 : decode cX5_fill 11 = .ok (.aload_n 0, 1) := by decide +kernel
theorem dX5_fill_12 : decode cX5_fill 12 = .ok (.getfield 13, 3) := by decide +kernel
theorem dX5_fill_15 : decode cX5_fill 15 = .ok (.iload_n 2, 1) := by decide +kernel
theorem dX5_fill_16 : decode cX5_fill 16 = .ok (.iload_n 1, 1) := by decide +kernel
theorem dX5_fill_17 : decode cX5_fill 17 = .ok (.iastore, 1) := by decide +kernel
theorem dX5_fill_18 : decode cX5_fill 18 = .ok (.iinc 2 1, 3) := by decide +kernel
theorem dX5_fill_21 : decode cX5_fill 21 = .ok (.goto (-19), 3) := by decide +kernel
theorem dX5_fill_24 : decode cX5_fill 24 = .ok (.return_, 1) := by decide +kernel
set_option maxRecDepth 20000 in
theorem ggX5_copyFrom_X5_get : GoodIn wsX5_copyFrom wsX5_get := goodIn_r _ [6, 1, 7] (by decide +kernel) (by decide +kernel)
set_option maxRecDepth 20000 in
theorem gX5_copyFrom_X5_get : GoodIn wsX5_copyFrom (wsV RX5 19 RX5 yX5_get wsX5_get) := goodIn_app (goodIn_of _ (by decide +kernel)) ggX5_copyFrom_X5_get
theorem dX5_copyFrom_0 : decode cX5_copyFrom 0 = .ok (.iconst 0, 1) := by decide +kernel
theorem dX5_copyFrom_1 : decode cX5_copyFrom 1 = .ok (.istore_n 2, 1) := by decide +kernel
theorem dX5_copyFrom_2 : decode cX5_copyFrom 2 = .ok (.iload_n 2, 1) := by decide +kernel
theorem dX5_copyFrom_3 : decode cX5_copyFrom 3 = .ok (.aload_n 0, 1) := by decide +kernel
theorem dX5_copyFrom_4 : decode cX5_copyFrom 4 = .ok (.getfield 13, 3) := by decide +kernel
theorem dX5_copyFrom_7 : decode cX5_copyFrom 7 = .ok (.arraylength, 1) := by decide +kernel
theorem dX5_copyFrom_8 : decode cX5_copyFrom 8 = .ok (.if_icmp .ge 20, 3) := by decide +kernel
theorem dX5_copyFrom_11 : decode cX5_copyFrom 11 = .ok (.aload_n 0, 1) := by decide +kernel
theorem dX5_copyFrom_12 : decode cX5_copyFrom 12 = .ok (.getfield 13, 3) := by decide +kernel
theorem dX5_copyFrom_15 : decode cX5_copyFrom 15 = .ok (.iload_n 2, 1) := by decide +kernel
theorem dX5_copyFrom_16 : decode cX5_copyFrom 16 = .ok (.aload_n 1, 1) := by decide +kernel
theorem dX5_copyFrom_17 : decode cX5_copyFrom 17 = .ok (.iload_n 2, 1) := by decide +kernel
theorem dX5_copyFrom_18 : decode cX5_copyFrom 18 = .ok (.invokevirtual 19, 3) := by decide +kernel
theorem dX5_copyFrom_21 : decode cX5_copyFrom 21 = .ok (.iastore, 1) := by decide +kernel
theorem dX5_copyFrom_22 : decode cX5_copyFrom 22 = .ok (.iinc 2 1, 3) := by decide +kernel
theorem dX5_copyFrom_25 : decode cX5_copyFrom 25 = .ok (.goto (-23), 3) := by decide +kernel
theorem dX5_copyFrom_28 : decode cX5_copyFrom 28 = .ok (.return_, 1) := by decide +kernel
set_option maxRecDepth 20000 in
theorem ggX6_init_X4_init : GoodIn wsX6_init wsX4_init := goodIn_r _ [32, 33, 2, 3, 34, 27, 28, 35, 36, 37, 38, 39, 40, 41, 9, 10, 42, 43, 44, 45, 46, 47, 48, 49, 50, 51, 52, 53, 54, 55, 56, 57, 58, 59, 60, 61, 62, 63, 116, 87, 88, 89, 90, 91, 92, 93, 94, 104, 105, 106, 107, 108] (by decide +kernel) (by decide +kernel)
set_option maxRecDepth 20000 in
theorem gX6_init_X4_init_n11 : GoodIn wsX6_init (wsX4_init) := ggX6_init_X4_init
set_option maxRecDepth 20000 in
theorem ggX6_init_X1_init : GoodIn wsX6_init wsX1_init := goodIn_r _ [55, 56, 2, 3, 57, 27, 28, 58, 59, 60, 61, 62, 63, 44, 45, 46, 47, 48, 49, 50, 51, 52, 116, 104, 105, 106, 107, 108] (by decide +kernel) (by decide +kernel)
set_option maxRecDepth 20000 in
theorem gX6_init_X1_init : GoodIn wsX6_init (wsX1_init) := ggX6_init_X1_init
set_option maxRecDepth 20000 in
theorem ggX6_init_X2_init : GoodIn wsX6_init wsX2_init := goodIn_r _ [66, 67, 2, 3, 68, 27, 28, 69, 70, 44, 45, 46, 47, 48, 49, 50, 51, 52, 116, 109] (by decide +kernel) (by decide +kernel)
set_option maxRecDepth 20000 in
theorem gX6_init_X2_init_n27 : GoodIn wsX6_init (wsX2_init) := ggX6_init_X2_init
set_option maxRecDepth 20000 in
theorem ggX6_init_X3_init : GoodIn wsX6_init wsX3_init := goodIn_r _ [72, 73, 2, 3, 74, 27, 28, 75, 76, 77, 44, 45, 46, 47, 48, 49, 50, 51, 52, 116, 110, 111] (by decide +kernel) (by decide +kernel)
set_option maxRecDepth 20000 in
theorem gX6_init_X3_init_n37 : GoodIn wsX6_init (wsX3_init) := ggX6_init_X3_init
set_option maxRecDepth 20000 in
theorem ggX6_init_X0_init : GoodIn wsX6_init wsX0_init := goodIn_r _ [79, 80, 2, 3, 81, 27, 28, 82, 83, 84, 85, 44, 45, 46, 47, 48, 49, 50, 51, 52, 116, 112, 113, 114, 115] (by decide +kernel) (by decide +kernel)
set_option maxRecDepth 20000 in
theorem gX6_init_X0_init_n44 : GoodIn wsX6_init (wsX0_init) := ggX6_init_X0_init
set_option maxRecDepth 20000 in
theorem ggX6_init_X5_init : GoodIn wsX6_init wsX5_init := goodIn_r _ [45, 46, 2, 3, 47, 48, 49, 50, 51, 52, 116] (by decide +kernel) (by decide +kernel)
set_option maxRecDepth 20000 in
theorem gX6_init_X5_init : GoodIn wsX6_init (wsX5_init) := ggX6_init_X5_init
theorem dX6_init_0 : decode cX6_init 0 = .ok (.aload_n 0, 1) := by decide +kernel
theorem dX6_init_1 : decode cX6_init 1 = .ok (.invokespecial 3, 3) := by decide +kernel
theorem dX6_init_4 : decode cX6_init 4 = .ok (.aload_n 0, 1) := by decide +kernel
theorem dX6_init_5 : decode cX6_init 5 = .ok (.new 9, 3) := by decide +kernel
theorem dX6_init_8 : decode cX6_init 8 = .ok (.dup, 1) := by decide +kernel
theorem dX6_init_9 : decode cX6_init 9 = .ok (.invokespecial 11, 3) := by decide +kernel
theorem dX6_init_12 : decode cX6_init 12 = .ok (.putfield 12, 3) := by decide +kernel
theorem dX6_init_15 : decode cX6_init 15 = .ok (.aload_n 0, 1) := by decide +kernel
theorem dX6_init_16 : decode cX6_init 16 = .ok (.new 16, 3) := by decide +kernel
theorem dX6_init_19 : decode cX6_init 19 = .ok (.dup, 1) := by decide +kernel
theorem dX6_init_20 : decode cX6_init 20 = .ok (.iconst 5, 1) := by decide +kernel
theorem dX6_init_21 : decode cX6_init 21 = .ok (.invokespecial 18, 3) := by decide +kernel
theorem dX6_init_24 : decode cX6_init 24 = .ok (.putfield 21, 3) := by decide +kernel
theorem dX6_init_27 : decode cX6_init 27 = .ok (.aload_n 0, 1) := by decide +kernel
theorem dX6_init_28 : decode cX6_init 28 = .ok (.new 25, 3) := by decide +kernel
theorem dX6_init_31 : decode cX6_init 31 = .ok (.dup, 1) := by decide +kernel
theorem dX6_init_32 : decode cX6_init 32 = .ok (.invokespecial 27, 3) := by decide +kernel
theorem dX6_init_35 : decode cX6_init 35 = .ok (.putfield 28, 3) := by decide +kernel
theorem dX6_init_38 : decode cX6_init 38 = .ok (.aload_n 0, 1) := by decide +kernel
theorem dX6_init_39 : decode cX6_init 39 = .ok (.new 25, 3) := by decide +kernel
theorem dX6_init_42 : decode cX6_init 42 = .ok (.dup, 1) := by decide +kernel
theorem dX6_init_43 : decode cX6_init 43 = .ok (.invokespecial 27, 3) := by decide +kernel
theorem dX6_init_46 : decode cX6_init 46 = .ok (.putfield 32, 3) := by decide +kernel
theorem dX6_init_49 : decode cX6_init 49 = .ok (.aload_n 0, 1) := by decide +kernel
theorem dX6_init_50 : decode cX6_init 50 = .ok (.new 35, 3) := by decide +kernel
theorem dX6_init_53 : decode cX6_init 53 = .ok (.dup, 1) := by decide +kernel
theorem dX6_init_54 : decode cX6_init 54 = .ok (.invokespecial 37, 3) := by decide +kernel
theorem dX6_init_57 : decode cX6_init 57 = .ok (.putfield 38, 3) := by decide +kernel
theorem dX6_init_60 : decode cX6_init 60 = .ok (.aload_n 0, 1) := by decide +kernel
theorem dX6_init_61 : decode cX6_init 61 = .ok (.new 42, 3) := by decide +kernel
theorem dX6_init_64 : decode cX6_init 64 = .ok (.dup, 1) := by decide +kernel
theorem dX6_init_65 : decode cX6_init 65 = .ok (.invokespecial 44, 3) := by decide +kernel
theorem dX6_init_68 : decode cX6_init 68 = .ok (.putfield 45, 3) := by decide +kernel
theorem dX6_init_71 : decode cX6_init 71 = .ok (.aload_n 0, 1) := by decide +kernel
theorem dX6_init_72 : decode cX6_init 72 = .ok (.new 42, 3) := by decide +kernel
theorem dX6_init_75 : decode cX6_init 75 = .ok (.dup, 1) := by decide +kernel
theorem dX6_init_76 : decode cX6_init 76 = .ok (.invokespecial 44, 3) := by decide +kernel
theorem dX6_init_79 : decode cX6_init 79 = .ok (.putfield 49, 3) := by decide +kernel
theorem dX6_init_82 : decode cX6_init 82 = .ok (.aload_n 0, 1) := by decide +kernel
theorem dX6_init_83 : decode cX6_init 83 = .ok (.new 52, 3) := by decide +kernel
theorem dX6_init_86 : decode cX6_init 86 = .ok (.dup, 1) := by decide +kernel
theorem dX6_init_87 : decode cX6_init 87 = .ok (.iconst 5, 1) := by decide +kernel
theorem dX6_init_88 : decode cX6_init 88 = .ok (.invokespecial 54, 3) := by decide +kernel
theorem dX6_init_91 : decode cX6_init 91 = .ok (.putfield 55, 3) := by decide +kernel
theorem dX6_init_94 : decode cX6_init 94 = .ok (.aload_n 0, 1) := by decide +kernel
theorem dX6_init_95 : decode cX6_init 95 = .ok (.iconst 2, 1) := by decide +kernel
theorem dX6_init_96 : decode cX6_init 96 = .ok (.putfield 59, 3) := by decide +kernel
theorem dX6_init_99 : decode cX6_init 99 = .ok (.return_, 1) := by decide +kernel
set_option maxRecDepth 20000 in
theorem ggX6_reset_X6_isWithin : GoodIn wsX6_reset wsX6_isWithin := goodIn_r _ [11] (by decide +kernel) (by decide +kernel)
set_option maxRecDepth 20000 in
theorem gX6_reset_X6_isWithin : GoodIn wsX6_reset (va_wsS RX6 63 yX6_isWithin wsX6_isWithin) := goodIn_app (goodIn_of _ (by decide +kernel)) ggX6_reset_X6_isWithin
set_option maxRecDepth 20000 in
theorem ggX6_reset_X4_clear : GoodIn wsX6_reset wsX4_clear := goodIn_r _ [16, 17, 18, 19, 20, 21, 22, 23, 24, 56, 57, 58, 59, 60, 61, 62, 63, 64] (by decide +kernel) (by decide +kernel)
set_option maxRecDepth 20000 in
theorem gX6_reset_X4_clear : GoodIn wsX6_reset (wsV RX6 68 RX4 yX4_clear wsX4_clear) := goodIn_app (goodIn_of _ (by decide +kernel)) ggX6_reset_X4_clear
set_option maxRecDepth 20000 in
theorem ggX6_reset_X1_clear : GoodIn wsX6_reset wsX1_clear := goodIn_r _ [29, 30, 31, 20, 21, 22, 23, 24, 65, 66, 67, 68, 69, 64] (by decide +kernel) (by decide +kernel)
set_option maxRecDepth 20000 in
theorem gX6_reset_X1_clear : GoodIn wsX6_reset (wsV RX6 71 RX1 yX1_clear wsX1_clear) := goodIn_app (goodIn_of _ (by decide +kernel)) ggX6_reset_X1_clear
set_option maxRecDepth 20000 in
theorem ggX6_reset_X2_clear : GoodIn wsX6_reset wsX2_clear := goodIn_r _ [36, 37, 38, 20, 21, 22, 23, 24, 70, 64] (by decide +kernel) (by decide +kernel)
set_option maxRecDepth 20000 in
theorem gX6_reset_X2_clear : GoodIn wsX6_reset (wsV RX6 72 RX2 yX2_clear wsX2_clear) := goodIn_app (goodIn_of _ (by decide +kernel)) ggX6_reset_X2_clear
set_option maxRecDepth 20000 in
theorem ggX6_reset_X3_clear : GoodIn wsX6_reset wsX3_clear := goodIn_r _ [43, 44, 45, 20, 21, 22, 23, 24, 71, 72, 64] (by decide +kernel) (by decide +kernel)
set_option maxRecDepth 20000 in
theorem gX6_reset_X3_clear : GoodIn wsX6_reset (wsV RX6 73 RX3 yX3_clear wsX3_clear) := goodIn_app (goodIn_of _ (by decide +kernel)) ggX6_reset_X3_clear
set_option maxRecDepth 20000 in
theorem ggX6_reset_X5_fill : GoodIn wsX6_reset wsX5_fill := goodIn_r _ [23, 24, 64] (by decide +kernel) (by decide +kernel)
set_option maxRecDepth 20000 in
theorem gX6_reset_X5_fill : GoodIn wsX6_reset (wsV RX6 74 RX5 yX5_fill wsX5_fill) := goodIn_app (goodIn_of _ (by decide +kernel)) ggX6_reset_X5_fill
theorem dX6_reset_0 : decode cX6_reset 0 = .ok (.iload_n 1, 1) := by decide +kernel
theorem dX6_reset_1 : decode cX6_reset 1 = .ok (.iconst 1, 1) := by decide +kernel
theorem dX6_reset_2 : decode cX6_reset 2 = .ok (.iconst 5, 1) := by decide +kernel
theorem dX6_reset_3 : decode cX6_reset 3 = .ok (.invokestatic 63, 3) := by decide +kernel
theorem dX6_reset_6 : decode cX6_reset 6 = .ok (.ifCond .ne 6, 3) := by decide +kernel
theorem dX6_reset_9 : decode cX6_reset 9 = .ok (.ldc 67, 2) := by decide +kernel
theorem dX6_reset_11 : decode cX6_reset 11 = .ok (.ireturn, 1) := by decide +kernel
theorem dX6_reset_12 : decode cX6_reset 12 = .ok (.aload_n 0, 1) := by decide +kernel
theorem dX6_reset_13 : decode cX6_reset 13 = .ok (.getfield 59, 3) := by decide +kernel
theorem dX6_reset_16 : decode cX6_reset 16 = .ok (.istore_n 2, 1) := by decide +kernel
theorem dX6_reset_17 : decode cX6_reset 17 = .ok (.aload_n 0, 1) := by decide +kernel
theorem dX6_reset_18 : decode cX6_reset 18 = .ok (.getfield 12, 3) := by decide +kernel
theorem dX6_reset_21 : decode cX6_reset 21 = .ok (.invokevirtual 68, 3) := by decide +kernel
theorem dX6_reset_24 : decode cX6_reset 24 = .ok (.aload_n 0, 1) := by decide +kernel
theorem dX6_reset_25 : decode cX6_reset 25 = .ok (.getfield 21, 3) := by decide +kernel
theorem dX6_reset_28 : decode cX6_reset 28 = .ok (.invokevirtual 71, 3) := by decide +kernel
theorem dX6_reset_31 : decode cX6_reset 31 = .ok (.aload_n 0, 1) := by decide +kernel
theorem dX6_reset_32 : decode cX6_reset 32 = .ok (.getfield 28, 3) := by decide +kernel
theorem dX6_reset_35 : decode cX6_reset 35 = .ok (.invokevirtual 72, 3) := by decide +kernel
theorem dX6_reset_38 : decode cX6_reset 38 = .ok (.aload_n 0, 1) := by decide +kernel
theorem dX6_reset_39 : decode cX6_reset 39 = .ok (.getfield 38, 3) := by decide +kernel
theorem dX6_reset_42 : decode cX6_reset 42 = .ok (.invokevirtual 73, 3) := by decide +kernel
theorem dX6_reset_45 : decode cX6_reset 45 = .ok (.aload_n 0, 1) := by decide +kernel
theorem dX6_reset_46 : decode cX6_reset 46 = .ok (.getfield 55, 3) := by decide +kernel
theorem dX6_reset_49 : decode cX6_reset 49 = .ok (.iconst 0, 1) := by decide +kernel
theorem dX6_reset_50 : decode cX6_reset 50 = .ok (.invokevirtual 74, 3) := by decide +kernel
theorem dX6_reset_53 : decode cX6_reset 53 = .ok (.aload_n 0, 1) := by decide +kernel
theorem dX6_reset_54 : decode cX6_reset 54 = .ok (.iload_n 1, 1) := by decide +kernel
theorem dX6_reset_55 : decode cX6_reset 55 = .ok (.putfield 59, 3) := by decide +kernel
theorem dX6_reset_58 : decode cX6_reset 58 = .ok (.iload_n 2, 1) := by decide +kernel
theorem dX6_reset_59 : decode cX6_reset 59 = .ok (.ireturn, 1) := by decide +kernel
theorem dX6_sites_0 : decode cX6_sites 0 = .ok (.aload_n 0, 1) := by decide +kernel
theorem dX6_sites_1 : decode cX6_sites 1 = .ok (.getfield 59, 3) := by decide +kernel
theorem dX6_sites_4 : decode cX6_sites 4 = .ok (.ireturn, 1) := by decide +kernel
set_option maxRecDepth 20000 in
theorem ggX6_siteInfo_X6_isSite : GoodIn wsX6_siteInfo wsX6_isSite := goodIn_r _ [11, 12, 13, 14, 10, 15, 116, 117, 118, 119, 120, 121, 122, 123, 124] (by decide +kernel) (by decide +kernel)
set_option maxRecDepth 20000 in
theorem gX6_siteInfo_X6_isSite : GoodIn wsX6_siteInfo (wsV RX6 78 RX6 yX6_isSite wsX6_isSite) := goodIn_app (goodIn_of _ (by decide +kernel)) ggX6_siteInfo_X6_isSite
set_option maxRecDepth 20000 in
theorem ggX6_siteInfo_X5_get : GoodIn wsX6_siteInfo wsX5_get := goodIn_r _ [20, 21, 125] (by decide +kernel) (by decide +kernel)
set_option maxRecDepth 20000 in
theorem gX6_siteInfo_X5_get : GoodIn wsX6_siteInfo (wsV RX6 82 RX5 yX5_get wsX5_get) := goodIn_app (goodIn_of _ (by decide +kernel)) ggX6_siteInfo_X5_get
set_option maxRecDepth 20000 in
theorem ggX6_siteInfo_X2_countOf : GoodIn wsX6_siteInfo wsX2_countOf := goodIn_r _ [26, 27, 28, 29, 25, 30, 31, 32, 17, 18, 19, 20, 21, 126, 125] (by decide +kernel) (by decide +kernel)
set_option maxRecDepth 20000 in
theorem gX6_siteInfo_X2_countOf : GoodIn wsX6_siteInfo (wsV RX6 86 RX2 yX2_countOf wsX2_countOf) := goodIn_app (goodIn_of _ (by decide +kernel)) ggX6_siteInfo_X2_countOf
set_option maxRecDepth 20000 in
theorem ggX6_siteInfo_X4_madeBy : GoodIn wsX6_siteInfo wsX4_madeBy := goodIn_r _ [37, 38, 39, 17, 18, 19, 20, 21, 127, 128, 129, 130, 131, 132, 133, 134, 125] (by decide +kernel) (by decide +kernel)
set_option maxRecDepth 20000 in
theorem gX6_siteInfo_X4_madeBy : GoodIn wsX6_siteInfo (wsV RX6 89 RX4 yX4_madeBy wsX4_madeBy) := goodIn_app (goodIn_of _ (by decide +kernel)) ggX6_siteInfo_X4_madeBy
set_option maxRecDepth 20000 in
theorem ggX6_siteInfo_X0_show : GoodIn wsX6_siteInfo wsX0_show := goodIn_r _ [44, 45, 46, 47, 48, 49, 50, 36, 51, 52, 53, 54, 55, 19, 56, 21, 57, 58, 59, 60, 61, 17, 18, 20, 62, 63, 64, 65, 66, 39, 67, 28, 29, 25, 30, 31, 32, 68, 69, 70, 43, 71, 72, 73, 74, 75, 76, 77, 78, 79, 80, 81, 82, 83, 84, 85, 86, 87, 88, 89, 90, 91, 92, 93, 94, 95, 96, 97, 98, 99, 100, 101, 102, 103, 104, 135, 136, 137, 138, 127, 128, 129, 130, 131, 132, 133, 134, 125, 126] (by decide +kernel) (by decide +kernel)
set_option maxRecDepth 20000 in
theorem gX6_siteInfo_X0_show : GoodIn wsX6_siteInfo (wsV RX6 92 RX0 yX0_show wsX0_show) := goodIn_app (goodIn_of _ (by decide +kernel)) ggX6_siteInfo_X0_show
set_option maxRecDepth 20000 in
theorem ggX6_siteInfo_X0_strokeCount : GoodIn wsX6_siteInfo wsX0_strokeCount := goodIn_r _ [108, 47, 135, 136, 137, 138] (by decide +kernel) (by decide +kernel)
set_option maxRecDepth 20000 in
theorem gX6_siteInfo_X0_strokeCount : GoodIn wsX6_siteInfo (wsV RX6 96 RX0 yX0_strokeCount wsX0_strokeCount) := goodIn_app (goodIn_of _ (by decide +kernel)) ggX6_siteInfo_X0_strokeCount
set_option maxRecDepth 20000 in
theorem ggX6_siteInfo_X1_pointCount : GoodIn wsX6_siteInfo wsX1_pointCount := goodIn_r _ [113, 114, 115, 17, 18, 19, 20, 21, 139, 140, 141, 142, 143, 125] (by decide +kernel) (by decide +kernel)
set_option maxRecDepth 20000 in
theorem gX6_siteInfo_X1_pointCount : GoodIn wsX6_siteInfo (wsV RX6 100 RX1 yX1_pointCount wsX1_pointCount) := goodIn_app (goodIn_of _ (by decide +kernel)) ggX6_siteInfo_X1_pointCount
theorem dX6_siteInfo_0 : decode cX6_siteInfo 0 = .ok (.aload_n 0, 1) := by decide +kernel
theorem dX6_siteInfo_1 : decode cX6_siteInfo 1 = .ok (.iload_n 1, 1) := by decide +kernel
theorem dX6_siteInfo_2 : decode cX6_siteInfo 2 = .ok (.invokevirtual 78, 3) := by decide +kernel
theorem dX6_siteInfo_5 : decode cX6_siteInfo 5 = .ok (.ifCond .ne 6, 3) := by decide +kernel
theorem dX6_siteInfo_8 : decode cX6_siteInfo 8 = .ok (.ldc 67, 2) := by decide +kernel
theorem dX6_siteInfo_10 : decode cX6_siteInfo 10 = .ok (.ireturn, 1) := by decide +kernel
theorem dX6_siteInfo_11 : decode cX6_siteInfo 11 = .ok (.iload_n 2, 1) := by decide +kernel
theorem dX6_siteInfo_12 : decode cX6_siteInfo 12 = .ok (.tableswitch 96 0 4 #[36, 45, 54, 63, 87], 36) := by decide +kernel
theorem dX6_siteInfo_48 : decode cX6_siteInfo 48 = .ok (.aload_n 0, 1) := by decide +kernel
theorem dX6_siteInfo_49 : decode cX6_siteInfo 49 = .ok (.getfield 55, 3) := by decide +kernel
theorem dX6_siteInfo_52 : decode cX6_siteInfo 52 = .ok (.iload_n 1, 1) := by decide +kernel
theorem dX6_siteInfo_53 : decode cX6_siteInfo 53 = .ok (.invokevirtual 82, 3) := by decide +kernel
theorem dX6_siteInfo_56 : decode cX6_siteInfo 56 = .ok (.ireturn, 1) := by decide +kernel
theorem dX6_siteInfo_57 : decode cX6_siteInfo 57 = .ok (.aload_n 0, 1) := by decide +kernel
theorem dX6_siteInfo_58 : decode cX6_siteInfo 58 = .ok (.getfield 28, 3) := by decide +kernel
theorem dX6_siteInfo_61 : decode cX6_siteInfo 61 = .ok (.iload_n 1, 1) := by decide +kernel
theorem dX6_siteInfo_62 : decode cX6_siteInfo 62 = .ok (.invokevirtual 86, 3) := by decide +kernel
theorem dX6_siteInfo_65 : decode cX6_siteInfo 65 = .ok (.ireturn, 1) := by decide +kernel
theorem dX6_siteInfo_66 : decode cX6_siteInfo 66 = .ok (.aload_n 0, 1) := by decide +kernel
theorem dX6_siteInfo_67 : decode cX6_siteInfo 67 = .ok (.getfield 12, 3) := by decide +kernel
theorem dX6_siteInfo_70 : decode cX6_siteInfo 70 = .ok (.iload_n 1, 1) := by decide +kernel
theorem dX6_siteInfo_71 : decode cX6_siteInfo 71 = .ok (.invokevirtual 89, 3) := by decide +kernel
theorem dX6_siteInfo_74 : decode cX6_siteInfo 74 = .ok (.ireturn, 1) := by decide +kernel
theorem dX6_siteInfo_75 : decode cX6_siteInfo 75 = .ok (.aload_n 0, 1) := by decide +kernel
theorem dX6_siteInfo_76 : decode cX6_siteInfo 76 = .ok (.getfield 45, 3) := by decide +kernel
theorem dX6_siteInfo_79 : decode cX6_siteInfo 79 = .ok (.aload_n 0, 1) := by decide +kernel
theorem dX6_siteInfo_80 : decode cX6_siteInfo 80 = .ok (.getfield 12, 3) := by decide +kernel
theorem dX6_siteInfo_83 : decode cX6_siteInfo 83 = .ok (.aload_n 0, 1) := by decide +kernel
theorem dX6_siteInfo_84 : decode cX6_siteInfo 84 = .ok (.getfield 28, 3) := by decide +kernel
theorem dX6_siteInfo_87 : decode cX6_siteInfo 87 = .ok (.iload_n 1, 1) := by decide +kernel
theorem dX6_siteInfo_88 : decode cX6_siteInfo 88 = .ok (.invokevirtual 92, 3) := by decide +kernel
theorem dX6_siteInfo_91 : decode cX6_siteInfo 91 = .ok (.aload_n 0, 1) := by decide +kernel
theorem dX6_siteInfo_92 : decode cX6_siteInfo 92 = .ok (.getfield 45, 3) := by decide +kernel
theorem dX6_siteInfo_95 : decode cX6_siteInfo 95 = .ok (.invokevirtual 96, 3) := by decide +kernel
theorem dX6_siteInfo_98 : decode cX6_siteInfo 98 = .ok (.ireturn, 1) := by decide +kernel
theorem dX6_siteInfo_99 : decode cX6_siteInfo 99 = .ok (.aload_n 0, 1) := by decide +kernel
theorem dX6_siteInfo_100 : decode cX6_siteInfo 100 = .ok (.getfield 21, 3) := by decide +kernel
theorem dX6_siteInfo_103 : decode cX6_siteInfo 103 = .ok (.iload_n 1, 1) := by decide +kernel
theorem dX6_siteInfo_104 : decode cX6_siteInfo 104 = .ok (.invokevirtual 100, 3) := by decide +kernel
theorem dX6_siteInfo_107 : decode cX6_siteInfo 107 = .ok (.ireturn, 1) := by decide +kernel
theorem dX6_siteInfo_108 : decode cX6_siteInfo 108 = .ok (.ldc 67, 2) := by decide +kernel
theorem dX6_siteInfo_110 : decode cX6_siteInfo 110 = .ok (.ireturn, 1) := by decide +kernel
set_option maxRecDepth 20000 in
theorem ggX6_penDown_X6_isSite : GoodIn wsX6_penDown wsX6_isSite := goodIn_r _ [7, 8, 9, 10, 6, 11, 44, 45, 46, 47, 48, 49, 50, 51, 52] (by decide +kernel) (by decide +kernel)
set_option maxRecDepth 20000 in
theorem gX6_penDown_X6_isSite : GoodIn wsX6_penDown (wsV RX6 78 RX6 yX6_isSite wsX6_isSite) := goodIn_app (goodIn_of _ (by decide +kernel)) ggX6_penDown_X6_isSite
set_option maxRecDepth 20000 in
theorem ggX6_penDown_X6_isWithin : GoodIn wsX6_penDown wsX6_isWithin := goodIn_r _ [11] (by decide +kernel) (by decide +kernel)
set_option maxRecDepth 20000 in
theorem gX6_penDown_X6_isWithin : GoodIn wsX6_penDown (va_wsS RX6 63 yX6_isWithin wsX6_isWithin) := goodIn_app (goodIn_of _ (by decide +kernel)) ggX6_penDown_X6_isWithin
set_option maxRecDepth 20000 in
theorem ggX6_penDown_X1_start : GoodIn wsX6_penDown wsX1_start := goodIn_r _ [16, 17, 18, 19, 20, 21, 15, 22, 23, 24, 25, 26, 27, 28, 29, 53, 54, 55, 56, 57, 58] (by decide +kernel) (by decide +kernel)
set_option maxRecDepth 20000 in
theorem gX6_penDown_X1_start : GoodIn wsX6_penDown (wsV RX6 103 RX1 yX1_start wsX1_start) := goodIn_app (goodIn_of _ (by decide +kernel)) ggX6_penDown_X1_start
set_option maxRecDepth 20000 in
theorem ggX6_penDown_X1_addPoint : GoodIn wsX6_penDown wsX1_addPoint := goodIn_r _ [33, 23, 34, 35, 36, 37, 38, 27, 39, 29, 24, 25, 26, 28, 53, 54, 55, 56, 57, 58] (by decide +kernel) (by decide +kernel)
set_option maxRecDepth 20000 in
theorem gX6_penDown_X1_addPoint : GoodIn wsX6_penDown (wsV RX6 107 RX1 yX1_addPoint wsX1_addPoint) := goodIn_app (goodIn_of _ (by decide +kernel)) ggX6_penDown_X1_addPoint
set_option maxRecDepth 20000 in
theorem ggX6_penDown_X1_pointCount : GoodIn wsX6_penDown wsX1_pointCount := goodIn_r _ [43, 23, 36, 37, 38, 27, 39, 29, 53, 54, 55, 56, 57, 58] (by decide +kernel) (by decide +kernel)
set_option maxRecDepth 20000 in
theorem gX6_penDown_X1_pointCount : GoodIn wsX6_penDown (wsV RX6 100 RX1 yX1_pointCount wsX1_pointCount) := goodIn_app (goodIn_of _ (by decide +kernel)) ggX6_penDown_X1_pointCount
theorem dX6_penDown_0 : decode cX6_penDown 0 = .ok (.aload_n 0, 1) := by decide +kernel
theorem dX6_penDown_1 : decode cX6_penDown 1 = .ok (.iload_n 1, 1) := by decide +kernel
theorem dX6_penDown_2 : decode cX6_penDown 2 = .ok (.invokevirtual 78, 3) := by decide +kernel
theorem dX6_penDown_5 : decode cX6_penDown 5 = .ok (.ifCond .eq 44, 3) := by decide +kernel
theorem dX6_penDown_8 : decode cX6_penDown 8 = .ok (.iload_n 2, 1) := by decide +kernel
theorem dX6_penDown_9 : decode cX6_penDown 9 = .ok (.iconst 0, 1) := by decide +kernel
theorem dX6_penDown_10 : decode cX6_penDown 10 = .ok (.bipush 63, 2) := by decide +kernel
theorem dX6_penDown_12 : decode cX6_penDown 12 = .ok (.invokestatic 63, 3) := by decide +kernel
theorem dX6_penDown_15 : decode cX6_penDown 15 = .ok (.ifCond .eq 34, 3) := by decide +kernel
theorem dX6_penDown_18 : decode cX6_penDown 18 = .ok (.iload_n 3, 1) := by decide +kernel
theorem dX6_penDown_19 : decode cX6_penDown 19 = .ok (.iconst 0, 1) := by decide +kernel
theorem dX6_penDown_20 : decode cX6_penDown 20 = .ok (.bipush 63, 2) := by decide +kernel
theorem dX6_penDown_22 : decode cX6_penDown 22 = .ok (.invokestatic 63, 3) := by decide +kernel
theorem dX6_penDown_25 : decode cX6_penDown 25 = .ok (.ifCond .eq 24, 3) := by decide +kernel
theorem dX6_penDown_28 : decode cX6_penDown 28 = .ok (.iload 4, 2) := by decide +kernel
theorem dX6_penDown_30 : decode cX6_penDown 30 = .ok (.iconst 0, 1) := by decide +kernel
theorem dX6_penDown_31 : decode cX6_penDown 31 = .ok (.bipush 7, 2) := by decide +kernel
theorem dX6_penDown_33 : decode cX6_penDown 33 = .ok (.invokestatic 63, 3) := by decide +kernel
theorem dX6_penDown_36 : decode cX6_penDown 36 = .ok (.ifCond .eq 13, 3) := by decide +kernel
theorem dX6_penDown_39 : decode cX6_penDown 39 = .ok (.iload 5, 2) := by decide +kernel
theorem dX6_penDown_41 : decode cX6_penDown 41 = .ok (.iconst 0, 1) := by decide +kernel
theorem dX6_penDown_42 : decode cX6_penDown 42 = .ok (.iconst 3, 1) := by decide +kernel
theorem dX6_penDown_43 : decode cX6_penDown 43 = .ok (.invokestatic 63, 3) := by decide +kernel
theorem dX6_penDown_46 : decode cX6_penDown 46 = .ok (.ifCond .ne 6, 3) := by decide +kernel
theorem dX6_penDown_49 : decode cX6_penDown 49 = .ok (.ldc 67, 2) := by decide +kernel
theorem dX6_penDown_51 : decode cX6_penDown 51 = .ok (.ireturn, 1) := by decide +kernel
theorem dX6_penDown_52 : decode cX6_penDown 52 = .ok (.aload_n 0, 1) := by decide +kernel
theorem dX6_penDown_53 : decode cX6_penDown 53 = .ok (.getfield 21, 3) := by decide +kernel
theorem dX6_penDown_56 : decode cX6_penDown 56 = .ok (.iload_n 1, 1) := by decide +kernel
theorem dX6_penDown_57 : decode cX6_penDown 57 = .ok (.iload 4, 2) := by decide +kernel
theorem dX6_penDown_59 : decode cX6_penDown 59 = .ok (.iload 5, 2) := by decide +kernel
theorem dX6_penDown_61 : decode cX6_penDown 61 = .ok (.invokevirtual 103, 3) := by decide +kernel
theorem dX6_penDown_64 : decode cX6_penDown 64 = .ok (.aload_n 0, 1) := by decide +kernel
theorem dX6_penDown_65 : decode cX6_penDown 65 = .ok (.getfield 21, 3) := by decide +kernel
theorem dX6_penDown_68 : decode cX6_penDown 68 = .ok (.iload_n 1, 1) := by decide +kernel
theorem dX6_penDown_69 : decode cX6_penDown 69 = .ok (.iload_n 2, 1) := by decide +kernel
theorem dX6_penDown_70 : decode cX6_penDown 70 = .ok (.iload_n 3, 1) := by decide +kernel
theorem dX6_penDown_71 : decode cX6_penDown 71 = .ok (.invokevirtual 107, 3) := by decide +kernel
theorem dX6_penDown_74 : decode cX6_penDown 74 = .ok (.aload_n 0, 1) := by decide +kernel
theorem dX6_penDown_75 : decode cX6_penDown 75 = .ok (.getfield 21, 3) := by decide +kernel
theorem dX6_penDown_78 : decode cX6_penDown 78 = .ok (.iload_n 1, 1) := by decide +kernel
theorem dX6_penDown_79 : decode cX6_penDown 79 = .ok (.invokevirtual 100, 3) := by decide +kernel
theorem dX6_penDown_82 : decode cX6_penDown 82 = .ok (.ireturn, 1) := by decide +kernel
set_option maxRecDepth 20000 in
theorem ggX6_penMove_X6_isSite : GoodIn wsX6_penMove wsX6_isSite := goodIn_r _ [9, 10, 11, 12, 8, 13, 44, 45, 46, 47, 48, 49, 50, 51, 52] (by decide +kernel) (by decide +kernel)
set_option maxRecDepth 20000 in
theorem gX6_penMove_X6_isSite : GoodIn wsX6_penMove (wsV RX6 78 RX6 yX6_isSite wsX6_isSite) := goodIn_app (goodIn_of _ (by decide +kernel)) ggX6_penMove_X6_isSite
set_option maxRecDepth 20000 in
theorem ggX6_penMove_X6_isWithin : GoodIn wsX6_penMove wsX6_isWithin := goodIn_r _ [13] (by decide +kernel) (by decide +kernel)
set_option maxRecDepth 20000 in
theorem gX6_penMove_X6_isWithin : GoodIn wsX6_penMove (va_wsS RX6 63 yX6_isWithin wsX6_isWithin) := goodIn_app (goodIn_of _ (by decide +kernel)) ggX6_penMove_X6_isWithin
set_option maxRecDepth 20000 in
theorem ggX6_penMove_X1_pointCount : GoodIn wsX6_penMove wsX1_pointCount := goodIn_r _ [18, 19, 20, 21, 22, 23, 24, 25, 53, 54, 55, 56, 57, 58] (by decide +kernel) (by decide +kernel)
set_option maxRecDepth 20000 in
theorem gX6_penMove_X1_pointCount : GoodIn wsX6_penMove (wsV RX6 100 RX1 yX1_pointCount wsX1_pointCount) := goodIn_app (goodIn_of _ (by decide +kernel)) ggX6_penMove_X1_pointCount
set_option maxRecDepth 20000 in
theorem ggX6_penMove_X1_xOf : GoodIn wsX6_penMove wsX1_xOf := goodIn_r _ [29, 30, 20, 21, 22, 23, 24, 25, 53, 54, 55, 56, 57, 58] (by decide +kernel) (by decide +kernel)
set_option maxRecDepth 20000 in
theorem gX6_penMove_X1_xOf : GoodIn wsX6_penMove (wsV RX6 111 RX1 yX1_xOf wsX1_xOf) := goodIn_app (goodIn_of _ (by decide +kernel)) ggX6_penMove_X1_xOf
set_option maxRecDepth 20000 in
theorem ggX6_penMove_X1_yOf : GoodIn wsX6_penMove wsX1_yOf := goodIn_r _ [34, 35, 20, 21, 22, 23, 24, 25, 53, 54, 55, 56, 57, 58] (by decide +kernel) (by decide +kernel)
set_option maxRecDepth 20000 in
theorem gX6_penMove_X1_yOf : GoodIn wsX6_penMove (wsV RX6 115 RX1 yX1_yOf wsX1_yOf) := goodIn_app (goodIn_of _ (by decide +kernel)) ggX6_penMove_X1_yOf
set_option maxRecDepth 20000 in
theorem ggX6_penMove_X1_addPoint : GoodIn wsX6_penMove wsX1_addPoint := goodIn_r _ [39, 19, 30, 35, 20, 21, 22, 23, 24, 25, 40, 41, 42, 43, 53, 54, 55, 56, 57, 58] (by decide +kernel) (by decide +kernel)
set_option maxRecDepth 20000 in
theorem gX6_penMove_X1_addPoint : GoodIn wsX6_penMove (wsV RX6 107 RX1 yX1_addPoint wsX1_addPoint) := goodIn_app (goodIn_of _ (by decide +kernel)) ggX6_penMove_X1_addPoint
theorem dX6_penMove_0 : decode cX6_penMove 0 = .ok (.aload_n 0, 1) := by decide +kernel
theorem dX6_penMove_1 : decode cX6_penMove 1 = .ok (.iload_n 1, 1) := by decide +kernel
theorem dX6_penMove_2 : decode cX6_penMove 2 = .ok (.invokevirtual 78, 3) := by decide +kernel
theorem dX6_penMove_5 : decode cX6_penMove 5 = .ok (.ifCond .eq 25, 3) := by decide +kernel
theorem dX6_penMove_8 : decode cX6_penMove 8 = .ok (.iload_n 2, 1) := by decide +kernel
theorem dX6_penMove_9 : decode cX6_penMove 9 = .ok (.bipush (-8), 2) := by decide +kernel
theorem dX6_penMove_11 : decode cX6_penMove 11 = .ok (.bipush 8, 2) := by decide +kernel
theorem dX6_penMove_13 : decode cX6_penMove 13 = .ok (.invokestatic 63, 3) := by decide +kernel
theorem dX6_penMove_16 : decode cX6_penMove 16 = .ok (.ifCond .eq 14, 3) := by decide +kernel
theorem dX6_penMove_19 : decode cX6_penMove 19 = .ok (.iload_n 3, 1) := by decide +kernel
theorem dX6_penMove_20 : decode cX6_penMove 20 = .ok (.bipush (-8), 2) := by decide +kernel
theorem dX6_penMove_22 : decode cX6_penMove 22 = .ok (.bipush 8, 2) := by decide +kernel
theorem dX6_penMove_24 : decode cX6_penMove 24 = .ok (.invokestatic 63, 3) := by decide +kernel
theorem dX6_penMove_27 : decode cX6_penMove 27 = .ok (.ifCond .ne 6, 3) := by decide +kernel
theorem dX6_penMove_30 : decode cX6_penMove 30 = .ok (.ldc 67, 2) := by decide +kernel
theorem dX6_penMove_32 : decode cX6_penMove 32 = .ok (.ireturn, 1) := by decide +kernel
theorem dX6_penMove_33 : decode cX6_penMove 33 = .ok (.aload_n 0, 1) := by decide +kernel
theorem dX6_penMove_34 : decode cX6_penMove 34 = .ok (.getfield 21, 3) := by decide +kernel
theorem dX6_penMove_37 : decode cX6_penMove 37 = .ok (.iload_n 1, 1) := by decide +kernel
theorem dX6_penMove_38 : decode cX6_penMove 38 = .ok (.invokevirtual 100, 3) := by decide +kernel
theorem dX6_penMove_41 : decode cX6_penMove 41 = .ok (.istore 4, 2) := by decide +kernel
theorem dX6_penMove_43 : decode cX6_penMove 43 = .ok (.iload 4, 2) := by decide +kernel
theorem dX6_penMove_45 : decode cX6_penMove 45 = .ok (.ifCond .ne 6, 3) := by decide +kernel
theorem dX6_penMove_48 : decode cX6_penMove 48 = .ok (.ldc 110, 2) := by decide +kernel
theorem dX6_penMove_50 : decode cX6_penMove 50 = .ok (.ireturn, 1) := by decide +kernel
theorem dX6_penMove_51 : decode cX6_penMove 51 = .ok (.iload 4, 2) := by decide +kernel
theorem dX6_penMove_53 : decode cX6_penMove 53 = .ok (.bipush 8, 2) := by decide +kernel
theorem dX6_penMove_55 : decode cX6_penMove 55 = .ok (.if_icmp .lt 6, 3) := by decide +kernel
theorem dX6_penMove_58 : decode cX6_penMove 58 = .ok (.ldc 77, 2) := by decide +kernel
theorem dX6_penMove_60 : decode cX6_penMove 60 = .ok (.ireturn, 1) := by decide +kernel
theorem dX6_penMove_61 : decode cX6_penMove 61 = .ok (.aload_n 0, 1) := by decide +kernel
theorem dX6_penMove_62 : decode cX6_penMove 62 = .ok (.getfield 21, 3) := by decide +kernel
theorem dX6_penMove_65 : decode cX6_penMove 65 = .ok (.iload_n 1, 1) := by decide +kernel
theorem dX6_penMove_66 : decode cX6_penMove 66 = .ok (.aload_n 0, 1) := by decide +kernel
theorem dX6_penMove_67 : decode cX6_penMove 67 = .ok (.getfield 21, 3) := by decide +kernel
theorem dX6_penMove_70 : decode cX6_penMove 70 = .ok (.iload_n 1, 1) := by decide +kernel
theorem dX6_penMove_71 : decode cX6_penMove 71 = .ok (.iload 4, 2) := by decide +kernel
theorem dX6_penMove_73 : decode cX6_penMove 73 = .ok (.iconst 1, 1) := by decide +kernel
theorem dX6_penMove_74 : decode cX6_penMove 74 = .ok (.isub, 1) := by decide +kernel
theorem dX6_penMove_75 : decode cX6_penMove 75 = .ok (.invokevirtual 111, 3) := by decide +kernel
theorem dX6_penMove_78 : decode cX6_penMove 78 = .ok (.iload_n 2, 1) := by decide +kernel
theorem dX6_penMove_79 : decode cX6_penMove 79 = .ok (.iadd, 1) := by decide +kernel
theorem dX6_penMove_80 : decode cX6_penMove 80 = .ok (.aload_n 0, 1) := by decide +kernel
theorem dX6_penMove_81 : decode cX6_penMove 81 = .ok (.getfield 21, 3) := by decide +kernel
theorem dX6_penMove_84 : decode cX6_penMove 84 = .ok (.iload_n 1, 1) := by decide +kernel
theorem dX6_penMove_85 : decode cX6_penMove 85 = .ok (.iload 4, 2) := by decide +kernel
theorem dX6_penMove_87 : decode cX6_penMove 87 = .ok (.iconst 1, 1) := by decide +kernel
theorem dX6_penMove_88 : decode cX6_penMove 88 = .ok (.isub, 1) := by decide +kernel
theorem dX6_penMove_89 : decode cX6_penMove 89 = .ok (.invokevirtual 115, 3) := by decide +kernel
theorem dX6_penMove_92 : decode cX6_penMove 92 = .ok (.iload_n 3, 1) := by decide +kernel
theorem dX6_penMove_93 : decode cX6_penMove 93 = .ok (.iadd, 1) := by decide +kernel
theorem dX6_penMove_94 : decode cX6_penMove 94 = .ok (.invokevirtual 107, 3) := by decide +kernel
theorem dX6_penMove_97 : decode cX6_penMove 97 = .ok (.aload_n 0, 1) := by decide +kernel
theorem dX6_penMove_98 : decode cX6_penMove 98 = .ok (.getfield 21, 3) := by decide +kernel
theorem dX6_penMove_101 : decode cX6_penMove 101 = .ok (.iload_n 1, 1) := by decide +kernel
theorem dX6_penMove_102 : decode cX6_penMove 102 = .ok (.invokevirtual 100, 3) := by decide +kernel
theorem dX6_penMove_105 : decode cX6_penMove 105 = .ok (.ireturn, 1) := by decide +kernel
set_option maxRecDepth 20000 in
theorem ggX6_penUp_X6_isSite : GoodIn wsX6_penUp wsX6_isSite := goodIn_r _ [10, 11, 12, 13, 9, 14, 144, 145, 146, 147, 148, 149, 150, 151, 152] (by decide +kernel) (by decide +kernel)
set_option maxRecDepth 20000 in
theorem gX6_penUp_X6_isSite : GoodIn wsX6_penUp (wsV RX6 78 RX6 yX6_isSite wsX6_isSite) := goodIn_app (goodIn_of _ (by decide +kernel)) ggX6_penUp_X6_isSite
set_option maxRecDepth 20000 in
theorem ggX6_penUp_X1_pointCount : GoodIn wsX6_penUp wsX1_pointCount := goodIn_r _ [19, 20, 21, 22, 23, 24, 25, 26, 153, 154, 155, 156, 157, 158] (by decide +kernel) (by decide +kernel)
set_option maxRecDepth 20000 in
theorem gX6_penUp_X1_pointCount : GoodIn wsX6_penUp (wsV RX6 100 RX1 yX1_pointCount wsX1_pointCount) := goodIn_app (goodIn_of _ (by decide +kernel)) ggX6_penUp_X1_pointCount
set_option maxRecDepth 20000 in
theorem ggX6_penUp_X6_hasMadeAll : GoodIn wsX6_penUp wsX6_hasMadeAll := goodIn_r _ [30, 5, 31, 32, 33, 34, 35, 36, 37, 22, 23, 24, 25, 26, 144, 145, 146, 147, 148, 149, 150, 151, 152, 159, 160, 161, 162, 163, 164, 165, 166, 158] (by decide +kernel) (by decide +kernel)
set_option maxRecDepth 20000 in
theorem gX6_penUp_X6_hasMadeAll : GoodIn wsX6_penUp (wsV RX6 118 RX6 yX6_hasMadeAll wsX6_hasMadeAll) := goodIn_app (goodIn_of _ (by decide +kernel)) ggX6_penUp_X6_hasMadeAll
set_option maxRecDepth 20000 in
theorem ggX6_penUp_X6_tick : GoodIn wsX6_penUp wsX6_tick := goodIn_r _ [41, 42, 43, 22, 23, 24, 25, 26, 44, 45, 46, 47, 144, 145, 146, 147, 148, 149, 150, 151, 152, 158] (by decide +kernel) (by decide +kernel)
set_option maxRecDepth 20000 in
theorem gX6_penUp_X6_tick : GoodIn wsX6_penUp (wsV RX6 121 RX6 yX6_tick wsX6_tick) := goodIn_app (goodIn_of _ (by decide +kernel)) ggX6_penUp_X6_tick
set_option maxRecDepth 20000 in
theorem ggX6_penUp_X4_addStroke : GoodIn wsX6_penUp wsX4_addStroke := goodIn_r _ [51, 52, 53, 54, 55, 56, 34, 57, 36, 58, 59, 37, 22, 23, 24, 25, 26, 60, 9, 61, 62, 45, 46, 47, 63, 64, 65, 66, 67, 68, 69, 70, 71, 72, 73, 74, 75, 76, 77, 78, 79, 80, 81, 18, 82, 83, 16, 17, 19, 20, 21, 84, 85, 86, 87, 88, 89, 90, 91, 92, 93, 94, 95, 96, 97, 98, 99, 100, 101, 102, 103, 104, 105, 106, 107, 108, 109, 110, 111, 112, 113, 114, 115, 116, 117, 159, 160, 161, 162, 163, 164, 165, 166, 158, 153, 154, 155, 156, 157] (by decide +kernel) (by decide +kernel)
set_option maxRecDepth 20000 in
theorem gX6_penUp_X4_addStroke : GoodIn wsX6_penUp (wsV RX6 124 RX4 yX4_addStroke wsX4_addStroke) := goodIn_app (goodIn_of _ (by decide +kernel)) ggX6_penUp_X4_addStroke
set_option maxRecDepth 20000 in
theorem ggX6_penUp_X1_empty : GoodIn wsX6_penUp wsX1_empty := goodIn_r _ [101, 20, 102, 45, 46, 24, 47, 26, 153, 154, 155, 156, 157, 158] (by decide +kernel) (by decide +kernel)
set_option maxRecDepth 20000 in
theorem gX6_penUp_X1_empty : GoodIn wsX6_penUp (wsV RX6 128 RX1 yX1_empty wsX1_empty) := goodIn_app (goodIn_of _ (by decide +kernel)) ggX6_penUp_X1_empty
set_option maxRecDepth 20000 in
theorem ggX6_penUp_X6_publish : GoodIn wsX6_penUp wsX6_publish := goodIn_r _ [122, 123, 11, 124, 125, 126, 127, 128, 129, 130, 131, 45, 46, 24, 47, 26, 132, 133, 134, 135, 136, 137, 138, 139, 22, 23, 25, 140, 144, 145, 146, 147, 148, 149, 150, 151, 152, 167, 158, 168, 169] (by decide +kernel) (by decide +kernel)
set_option maxRecDepth 20000 in
theorem gX6_penUp_X6_publish : GoodIn wsX6_penUp (wsV RX6 131 RX6 yX6_publish wsX6_publish) := goodIn_app (goodIn_of _ (by decide +kernel)) ggX6_penUp_X6_publish
set_option maxRecDepth 20000 in
theorem ggX6_penUp_X6_numberOf : GoodIn wsX6_penUp wsX6_numberOf := goodIn_r _ [143] (by decide +kernel) (by decide +kernel)
set_option maxRecDepth 20000 in
theorem gX6_penUp_X6_numberOf : GoodIn wsX6_penUp (va_wsS RX6 135 yX6_numberOf wsX6_numberOf) := goodIn_app (goodIn_of _ (by decide +kernel)) ggX6_penUp_X6_numberOf
theorem dX6_penUp_0 : decode cX6_penUp 0 = .ok (.aload_n 0, 1) := by decide +kernel
theorem dX6_penUp_1 : decode cX6_penUp 1 = .ok (.iload_n 1, 1) := by decide +kernel
theorem dX6_penUp_2 : decode cX6_penUp 2 = .ok (.invokevirtual 78, 3) := by decide +kernel
theorem dX6_penUp_5 : decode cX6_penUp 5 = .ok (.ifCond .ne 6, 3) := by decide +kernel
theorem dX6_penUp_8 : decode cX6_penUp 8 = .ok (.ldc 67, 2) := by decide +kernel
theorem dX6_penUp_10 : decode cX6_penUp 10 = .ok (.ireturn, 1) := by decide +kernel
theorem dX6_penUp_11 : decode cX6_penUp 11 = .ok (.aload_n 0, 1) := by decide +kernel
theorem dX6_penUp_12 : decode cX6_penUp 12 = .ok (.getfield 21, 3) := by decide +kernel
theorem dX6_penUp_15 : decode cX6_penUp 15 = .ok (.iload_n 1, 1) := by decide +kernel
theorem dX6_penUp_16 : decode cX6_penUp 16 = .ok (.invokevirtual 100, 3) := by decide +kernel
theorem dX6_penUp_19 : decode cX6_penUp 19 = .ok (.ifCond .ne 6, 3) := by decide +kernel
theorem dX6_penUp_22 : decode cX6_penUp 22 = .ok (.ldc 110, 2) := by decide +kernel
theorem dX6_penUp_24 : decode cX6_penUp 24 = .ok (.ireturn, 1) := by decide +kernel
theorem dX6_penUp_25 : decode cX6_penUp 25 = .ok (.aload_n 0, 1) := by decide +kernel
theorem dX6_penUp_26 : decode cX6_penUp 26 = .ok (.iload_n 1, 1) := by decide +kernel
theorem dX6_penUp_27 : decode cX6_penUp 27 = .ok (.invokevirtual 118, 3) := by decide +kernel
theorem dX6_penUp_30 : decode cX6_penUp 30 = .ok (.ifCond .eq 6, 3) := by decide +kernel
theorem dX6_penUp_33 : decode cX6_penUp 33 = .ok (.ldc 77, 2) := by decide +kernel
theorem dX6_penUp_35 : decode cX6_penUp 35 = .ok (.ireturn, 1) := by decide +kernel
theorem dX6_penUp_36 : decode cX6_penUp 36 = .ok (.aload_n 0, 1) := by decide +kernel
theorem dX6_penUp_37 : decode cX6_penUp 37 = .ok (.getfield 12, 3) := by decide +kernel
theorem dX6_penUp_40 : decode cX6_penUp 40 = .ok (.iload_n 1, 1) := by decide +kernel
theorem dX6_penUp_41 : decode cX6_penUp 41 = .ok (.aload_n 0, 1) := by decide +kernel
theorem dX6_penUp_42 : decode cX6_penUp 42 = .ok (.iload_n 1, 1) := by decide +kernel
theorem dX6_penUp_43 : decode cX6_penUp 43 = .ok (.invokevirtual 121, 3) := by decide +kernel
theorem dX6_penUp_46 : decode cX6_penUp 46 = .ok (.aload_n 0, 1) := by decide +kernel
theorem dX6_penUp_47 : decode cX6_penUp 47 = .ok (.getfield 21, 3) := by decide +kernel
theorem dX6_penUp_50 : decode cX6_penUp 50 = .ok (.invokevirtual 124, 3) := by decide +kernel
theorem dX6_penUp_53 : decode cX6_penUp 53 = .ok (.istore_n 2, 1) := by decide +kernel
theorem dX6_penUp_54 : decode cX6_penUp 54 = .ok (.aload_n 0, 1) := by decide +kernel
theorem dX6_penUp_55 : decode cX6_penUp 55 = .ok (.getfield 21, 3) := by decide +kernel
theorem dX6_penUp_58 : decode cX6_penUp 58 = .ok (.iload_n 1, 1) := by decide +kernel
theorem dX6_penUp_59 : decode cX6_penUp 59 = .ok (.invokevirtual 128, 3) := by decide +kernel
theorem dX6_penUp_62 : decode cX6_penUp 62 = .ok (.aload_n 0, 1) := by decide +kernel
theorem dX6_penUp_63 : decode cX6_penUp 63 = .ok (.iload_n 1, 1) := by decide +kernel
theorem dX6_penUp_64 : decode cX6_penUp 64 = .ok (.iload_n 2, 1) := by decide +kernel
theorem dX6_penUp_65 : decode cX6_penUp 65 = .ok (.invokevirtual 131, 3) := by decide +kernel
theorem dX6_penUp_68 : decode cX6_penUp 68 = .ok (.iload_n 2, 1) := by decide +kernel
theorem dX6_penUp_69 : decode cX6_penUp 69 = .ok (.invokestatic 135, 3) := by decide +kernel
theorem dX6_penUp_72 : decode cX6_penUp 72 = .ok (.ireturn, 1) := by decide +kernel
set_option maxRecDepth 20000 in
theorem ggX6_undo_X6_isSite : GoodIn wsX6_undo wsX6_isSite := goodIn_r _ [6, 7, 8, 9, 5, 10, 169, 170, 171, 172, 173, 174, 175, 176, 177] (by decide +kernel) (by decide +kernel)
set_option maxRecDepth 20000 in
theorem gX6_undo_X6_isSite : GoodIn wsX6_undo (wsV RX6 78 RX6 yX6_isSite wsX6_isSite) := goodIn_app (goodIn_of _ (by decide +kernel)) ggX6_undo_X6_isSite
set_option maxRecDepth 20000 in
theorem ggX6_undo_X6_lastVisibleOwn : GoodIn wsX6_undo wsX6_lastVisibleOwn := goodIn_r _ [14, 15, 16, 17, 18, 19, 20, 21, 22, 23, 24, 25, 26, 27, 28, 29, 30, 31, 32, 33, 34, 35, 36, 37, 38, 39, 40, 41, 42, 43, 44, 45, 46, 47, 48, 49, 50, 51, 52, 53, 54, 55, 56, 57, 58, 59, 60, 61, 62, 63, 64, 65, 66, 67, 68, 69, 70, 71, 72, 73, 74, 75, 76, 77, 78, 79, 80, 81, 82, 83, 84, 85, 86, 87, 88, 89, 90, 91, 92, 93, 94, 95, 96, 97, 98, 99, 100, 101, 102, 5, 103, 104, 105, 169, 170, 171, 172, 173, 174, 175, 176, 177, 178, 179, 180, 181, 182, 183, 184, 185, 186, 187, 188, 189, 190, 191] (by decide +kernel) (by decide +kernel)
set_option maxRecDepth 20000 in
theorem gX6_undo_X6_lastVisibleOwn : GoodIn wsX6_undo (wsV RX6 138 RX6 yX6_lastVisibleOwn wsX6_lastVisibleOwn) := goodIn_app (goodIn_of _ (by decide +kernel)) ggX6_undo_X6_lastVisibleOwn
set_option maxRecDepth 20000 in
theorem ggX6_undo_X6_changeOwn : GoodIn wsX6_undo wsX6_changeOwn := goodIn_r _ [109, 110, 111, 16, 112, 113, 114, 5, 115, 96, 97, 98, 29, 99, 100, 51, 43, 44, 35, 45, 37, 116, 117, 118, 119, 120, 121, 122, 74, 75, 76, 123, 124, 125, 126, 67, 81, 127, 128, 129, 130, 131, 72, 102, 103, 132, 133, 134, 135, 136, 31, 50, 137, 138, 139, 140, 141, 142, 143, 144, 145, 146, 147, 148, 149, 150, 17, 7, 151, 152, 153, 154, 55, 155, 57, 156, 157, 158, 159, 160, 161, 162, 163, 164, 165, 166, 167, 168, 169, 170, 171, 172, 173, 174, 175, 176, 177, 182, 183, 184, 185, 186, 187, 188, 189, 190, 191, 192, 193] (by decide +kernel) (by decide +kernel)
set_option maxRecDepth 20000 in
theorem gX6_undo_X6_changeOwn : GoodIn wsX6_undo (wsV RX6 141 RX6 yX6_changeOwn wsX6_changeOwn) := goodIn_app (goodIn_of _ (by decide +kernel)) ggX6_undo_X6_changeOwn
theorem dX6_undo_0 : decode cX6_undo 0 = .ok (.aload_n 0, 1) := by decide +kernel
theorem dX6_undo_1 : decode cX6_undo 1 = .ok (.iload_n 1, 1) := by decide +kernel
theorem dX6_undo_2 : decode cX6_undo 2 = .ok (.invokevirtual 78, 3) := by decide +kernel
theorem dX6_undo_5 : decode cX6_undo 5 = .ok (.ifCond .ne 6, 3) := by decide +kernel
theorem dX6_undo_8 : decode cX6_undo 8 = .ok (.ldc 67, 2) := by decide +kernel
theorem dX6_undo_10 : decode cX6_undo 10 = .ok (.ireturn, 1) := by decide +kernel
theorem dX6_undo_11 : decode cX6_undo 11 = .ok (.aload_n 0, 1) := by decide +kernel
theorem dX6_undo_12 : decode cX6_undo 12 = .ok (.iload_n 1, 1) := by decide +kernel
theorem dX6_undo_13 : decode cX6_undo 13 = .ok (.iconst 1, 1) := by decide +kernel
theorem dX6_undo_14 : decode cX6_undo 14 = .ok (.aload_n 0, 1) := by decide +kernel
theorem dX6_undo_15 : decode cX6_undo 15 = .ok (.iload_n 1, 1) := by decide +kernel
theorem dX6_undo_16 : decode cX6_undo 16 = .ok (.invokevirtual 138, 3) := by decide +kernel
theorem dX6_undo_19 : decode cX6_undo 19 = .ok (.invokevirtual 141, 3) := by decide +kernel
theorem dX6_undo_22 : decode cX6_undo 22 = .ok (.ireturn, 1) := by decide +kernel
set_option maxRecDepth 20000 in
theorem ggX6_redo_X6_isSite : GoodIn wsX6_redo wsX6_isSite := goodIn_r _ [6, 7, 8, 9, 5, 10, 170, 171, 172, 173, 174, 175, 176, 177, 178] (by decide +kernel) (by decide +kernel)
set_option maxRecDepth 20000 in
theorem gX6_redo_X6_isSite : GoodIn wsX6_redo (wsV RX6 78 RX6 yX6_isSite wsX6_isSite) := goodIn_app (goodIn_of _ (by decide +kernel)) ggX6_redo_X6_isSite
set_option maxRecDepth 20000 in
theorem ggX6_redo_X6_lastUndoneOwn : GoodIn wsX6_redo wsX6_lastUndoneOwn := goodIn_r _ [14, 15, 16, 17, 18, 19, 20, 21, 22, 23, 24, 25, 26, 27, 28, 29, 30, 31, 32, 33, 34, 35, 36, 37, 38, 39, 40, 41, 42, 43, 44, 45, 46, 47, 48, 49, 50, 51, 52, 53, 54, 55, 56, 57, 58, 59, 60, 61, 62, 63, 64, 65, 66, 67, 68, 69, 70, 71, 72, 73, 74, 75, 76, 77, 78, 79, 80, 81, 82, 83, 84, 85, 86, 87, 88, 89, 90, 91, 92, 93, 94, 95, 96, 97, 98, 99, 100, 101, 102, 5, 103, 104, 105, 106, 170, 171, 172, 173, 174, 175, 176, 177, 178, 179, 180, 181, 182, 183, 184, 185, 186, 187, 188, 189, 190, 191, 192] (by decide +kernel) (by decide +kernel)
set_option maxRecDepth 20000 in
theorem gX6_redo_X6_lastUndoneOwn : GoodIn wsX6_redo (wsV RX6 145 RX6 yX6_lastUndoneOwn wsX6_lastUndoneOwn) := goodIn_app (goodIn_of _ (by decide +kernel)) ggX6_redo_X6_lastUndoneOwn
set_option maxRecDepth 20000 in
theorem ggX6_redo_X6_changeOwn : GoodIn wsX6_redo wsX6_changeOwn := goodIn_r _ [110, 111, 112, 16, 113, 114, 115, 5, 116, 96, 97, 98, 29, 99, 100, 51, 43, 44, 35, 45, 37, 117, 118, 119, 120, 121, 122, 123, 74, 75, 76, 124, 125, 126, 127, 67, 81, 128, 129, 130, 131, 132, 72, 102, 103, 133, 134, 135, 136, 137, 31, 50, 138, 139, 140, 141, 142, 143, 144, 145, 146, 147, 148, 149, 150, 151, 17, 7, 152, 153, 154, 155, 55, 156, 57, 157, 158, 159, 160, 161, 162, 163, 164, 165, 166, 167, 168, 169, 170, 171, 172, 173, 174, 175, 176, 177, 178, 183, 184, 185, 186, 187, 188, 189, 190, 191, 192, 193, 194] (by decide +kernel) (by decide +kernel)
set_option maxRecDepth 20000 in
theorem gX6_redo_X6_changeOwn : GoodIn wsX6_redo (wsV RX6 141 RX6 yX6_changeOwn wsX6_changeOwn) := goodIn_app (goodIn_of _ (by decide +kernel)) ggX6_redo_X6_changeOwn
theorem dX6_redo_0 : decode cX6_redo 0 = .ok (.aload_n 0, 1) := by decide +kernel
theorem dX6_redo_1 : decode cX6_redo 1 = .ok (.iload_n 1, 1) := by decide +kernel
theorem dX6_redo_2 : decode cX6_redo 2 = .ok (.invokevirtual 78, 3) := by decide +kernel
theorem dX6_redo_5 : decode cX6_redo 5 = .ok (.ifCond .ne 6, 3) := by decide +kernel
theorem dX6_redo_8 : decode cX6_redo 8 = .ok (.ldc 67, 2) := by decide +kernel
theorem dX6_redo_10 : decode cX6_redo 10 = .ok (.ireturn, 1) := by decide +kernel
theorem dX6_redo_11 : decode cX6_redo 11 = .ok (.aload_n 0, 1) := by decide +kernel
theorem dX6_redo_12 : decode cX6_redo 12 = .ok (.iload_n 1, 1) := by decide +kernel
theorem dX6_redo_13 : decode cX6_redo 13 = .ok (.iconst 2, 1) := by decide +kernel
theorem dX6_redo_14 : decode cX6_redo 14 = .ok (.aload_n 0, 1) := by decide +kernel
theorem dX6_redo_15 : decode cX6_redo 15 = .ok (.iload_n 1, 1) := by decide +kernel
theorem dX6_redo_16 : decode cX6_redo 16 = .ok (.invokevirtual 145, 3) := by decide +kernel
theorem dX6_redo_19 : decode cX6_redo 19 = .ok (.invokevirtual 141, 3) := by decide +kernel
theorem dX6_redo_22 : decode cX6_redo 22 = .ok (.ireturn, 1) := by decide +kernel
set_option maxRecDepth 20000 in
theorem ggX6_lift_X6_isSite : GoodIn wsX6_lift wsX6_isSite := goodIn_r _ [11, 12, 13, 14, 10, 15, 166, 167, 168, 169, 170, 171, 172, 173, 174] (by decide +kernel) (by decide +kernel)
set_option maxRecDepth 20000 in
theorem gX6_lift_X6_isSite : GoodIn wsX6_lift (wsV RX6 78 RX6 yX6_isSite wsX6_isSite) := goodIn_app (goodIn_of _ (by decide +kernel)) ggX6_lift_X6_isSite
set_option maxRecDepth 20000 in
theorem ggX6_lift_X6_isWithin : GoodIn wsX6_lift wsX6_isWithin := goodIn_r _ [15] (by decide +kernel) (by decide +kernel)
set_option maxRecDepth 20000 in
theorem gX6_lift_X6_isWithin : GoodIn wsX6_lift (va_wsS RX6 63 yX6_isWithin wsX6_isWithin) := goodIn_app (goodIn_of _ (by decide +kernel)) ggX6_lift_X6_isWithin
set_option maxRecDepth 20000 in
theorem ggX6_lift_X0_show : GoodIn wsX6_lift wsX0_show := goodIn_r _ [20, 21, 22, 23, 24, 25, 26, 27, 28, 29, 30, 31, 32, 33, 34, 35, 36, 37, 38, 39, 40, 41, 42, 43, 44, 45, 46, 47, 48, 49, 50, 51, 52, 53, 54, 55, 56, 57, 58, 59, 19, 60, 61, 62, 63, 64, 65, 66, 67, 68, 69, 70, 71, 72, 73, 74, 75, 76, 77, 78, 79, 80, 81, 82, 83, 84, 85, 86, 87, 88, 89, 90, 91, 92, 93, 175, 176, 177, 178, 179, 180, 181, 182, 183, 184, 185, 186, 187, 188] (by decide +kernel) (by decide +kernel)
set_option maxRecDepth 20000 in
theorem gX6_lift_X0_show : GoodIn wsX6_lift (wsV RX6 92 RX0 yX0_show wsX0_show) := goodIn_app (goodIn_of _ (by decide +kernel)) ggX6_lift_X0_show
set_option maxRecDepth 20000 in
theorem ggX6_lift_X0_strokeCount : GoodIn wsX6_lift wsX0_strokeCount := goodIn_r _ [97, 23, 175, 176, 177, 178] (by decide +kernel) (by decide +kernel)
set_option maxRecDepth 20000 in
theorem gX6_lift_X0_strokeCount : GoodIn wsX6_lift (wsV RX6 96 RX0 yX0_strokeCount wsX0_strokeCount) := goodIn_app (goodIn_of _ (by decide +kernel)) ggX6_lift_X0_strokeCount
set_option maxRecDepth 20000 in
theorem ggX6_lift_X6_hasMadeAll : GoodIn wsX6_lift wsX6_hasMadeAll := goodIn_r _ [101, 3, 102, 103, 104, 27, 105, 106, 49, 41, 42, 33, 43, 35, 166, 167, 168, 169, 170, 171, 172, 173, 174, 179, 180, 181, 182, 183, 184, 185, 186, 187] (by decide +kernel) (by decide +kernel)
set_option maxRecDepth 20000 in
theorem gX6_lift_X6_hasMadeAll : GoodIn wsX6_lift (wsV RX6 118 RX6 yX6_hasMadeAll wsX6_hasMadeAll) := goodIn_app (goodIn_of _ (by decide +kernel)) ggX6_lift_X6_hasMadeAll
set_option maxRecDepth 20000 in
theorem ggX6_lift_X6_tick : GoodIn wsX6_lift wsX6_tick := goodIn_r _ [110, 111, 112, 41, 42, 33, 43, 35, 113, 72, 73, 74, 166, 167, 168, 169, 170, 171, 172, 173, 174, 187] (by decide +kernel) (by decide +kernel)
set_option maxRecDepth 20000 in
theorem gX6_lift_X6_tick : GoodIn wsX6_lift (wsV RX6 121 RX6 yX6_tick wsX6_tick) := goodIn_app (goodIn_of _ (by decide +kernel)) ggX6_lift_X6_tick
set_option maxRecDepth 20000 in
theorem ggX6_lift_X0_strokeIn : GoodIn wsX6_lift wsX0_strokeIn := goodIn_r _ [117, 84, 89, 41, 42, 33, 43, 35, 175, 176, 177, 178, 187] (by decide +kernel) (by decide +kernel)
set_option maxRecDepth 20000 in
theorem gX6_lift_X0_strokeIn : GoodIn wsX6_lift (wsV RX6 148 RX0 yX0_strokeIn wsX0_strokeIn) := goodIn_app (goodIn_of _ (by decide +kernel)) ggX6_lift_X0_strokeIn
set_option maxRecDepth 20000 in
theorem ggX6_lift_X4_addChange : GoodIn wsX6_lift wsX4_addChange := goodIn_r _ [121, 65, 79, 122, 123, 124, 27, 125, 106, 126, 70, 49, 41, 42, 33, 43, 35, 127, 10, 128, 129, 72, 73, 74, 130, 131, 132, 133, 29, 48, 134, 135, 136, 137, 138, 139, 140, 141, 142, 143, 179, 180, 181, 182, 183, 184, 185, 186, 187] (by decide +kernel) (by decide +kernel)
set_option maxRecDepth 20000 in
theorem gX6_lift_X4_addChange : GoodIn wsX6_lift (wsV RX6 151 RX4 yX4_addChange wsX4_addChange) := goodIn_app (goodIn_of _ (by decide +kernel)) ggX6_lift_X4_addChange
set_option maxRecDepth 20000 in
theorem ggX6_lift_X6_publish : GoodIn wsX6_lift wsX6_publish := goodIn_r _ [147, 4, 12, 148, 149, 150, 151, 53, 152, 55, 153, 72, 73, 33, 74, 35, 154, 155, 156, 157, 158, 159, 160, 161, 41, 42, 43, 162, 166, 167, 168, 169, 170, 171, 172, 173, 174, 188, 187, 189, 190] (by decide +kernel) (by decide +kernel)
set_option maxRecDepth 20000 in
theorem gX6_lift_X6_publish : GoodIn wsX6_lift (wsV RX6 131 RX6 yX6_publish wsX6_publish) := goodIn_app (goodIn_of _ (by decide +kernel)) ggX6_lift_X6_publish
set_option maxRecDepth 20000 in
theorem ggX6_lift_X6_numberOf : GoodIn wsX6_lift wsX6_numberOf := goodIn_r _ [165] (by decide +kernel) (by decide +kernel)
set_option maxRecDepth 20000 in
theorem gX6_lift_X6_numberOf : GoodIn wsX6_lift (va_wsS RX6 135 yX6_numberOf wsX6_numberOf) := goodIn_app (goodIn_of _ (by decide +kernel)) ggX6_lift_X6_numberOf
theorem dX6_lift_0 : decode cX6_lift 0 = .ok (.aload_n 0, 1) := by decide +kernel
theorem dX6_lift_1 : decode cX6_lift 1 = .ok (.iload_n 1, 1) := by decide +kernel
theorem dX6_lift_2 : decode cX6_lift 2 = .ok (.invokevirtual 78, 3) := by decide +kernel
theorem dX6_lift_5 : decode cX6_lift 5 = .ok (.ifCond .eq 16, 3) := by decide +kernel
theorem dX6_lift_8 : decode cX6_lift 8 = .ok (.iload_n 2, 1) := by decide +kernel
theorem dX6_lift_9 : decode cX6_lift 9 = .ok (.ifCond .lt 12, 3) := by decide +kernel
theorem dX6_lift_12 : decode cX6_lift 12 = .ok (.iload_n 3, 1) := by decide +kernel
theorem dX6_lift_13 : decode cX6_lift 13 = .ok (.iconst 0, 1) := by decide +kernel
theorem dX6_lift_14 : decode cX6_lift 14 = .ok (.iconst 3, 1) := by decide +kernel
theorem dX6_lift_15 : decode cX6_lift 15 = .ok (.invokestatic 63, 3) := by decide +kernel
theorem dX6_lift_18 : decode cX6_lift 18 = .ok (.ifCond .ne 6, 3) := by decide +kernel
theorem dX6_lift_21 : decode cX6_lift 21 = .ok (.ldc 67, 2) := by decide +kernel
theorem dX6_lift_23 : decode cX6_lift 23 = .ok (.ireturn, 1) := by decide +kernel
theorem dX6_lift_24 : decode cX6_lift 24 = .ok (.aload_n 0, 1) := by decide +kernel
theorem dX6_lift_25 : decode cX6_lift 25 = .ok (.getfield 45, 3) := by decide +kernel
theorem dX6_lift_28 : decode cX6_lift 28 = .ok (.aload_n 0, 1) := by decide +kernel
theorem dX6_lift_29 : decode cX6_lift 29 = .ok (.getfield 12, 3) := by decide +kernel
theorem dX6_lift_32 : decode cX6_lift 32 = .ok (.aload_n 0, 1) := by decide +kernel
theorem dX6_lift_33 : decode cX6_lift 33 = .ok (.getfield 28, 3) := by decide +kernel
theorem dX6_lift_36 : decode cX6_lift 36 = .ok (.iload_n 1, 1) := by decide +kernel
theorem dX6_lift_37 : decode cX6_lift 37 = .ok (.invokevirtual 92, 3) := by decide +kernel
theorem dX6_lift_40 : decode cX6_lift 40 = .ok (.iload_n 2, 1) := by decide +kernel
theorem dX6_lift_41 : decode cX6_lift 41 = .ok (.aload_n 0, 1) := by decide +kernel
theorem dX6_lift_42 : decode cX6_lift 42 = .ok (.getfield 45, 3) := by decide +kernel
theorem dX6_lift_45 : decode cX6_lift 45 = .ok (.invokevirtual 96, 3) := by decide +kernel
theorem dX6_lift_48 : decode cX6_lift 48 = .ok (.if_icmp .lt 6, 3) := by decide +kernel
theorem dX6_lift_51 : decode cX6_lift 51 = .ok (.ldc 110, 2) := by decide +kernel
theorem dX6_lift_53 : decode cX6_lift 53 = .ok (.ireturn, 1) := by decide +kernel
theorem dX6_lift_54 : decode cX6_lift 54 = .ok (.aload_n 0, 1) := by decide +kernel
theorem dX6_lift_55 : decode cX6_lift 55 = .ok (.iload_n 1, 1) := by decide +kernel
theorem dX6_lift_56 : decode cX6_lift 56 = .ok (.invokevirtual 118, 3) := by decide +kernel
theorem dX6_lift_59 : decode cX6_lift 59 = .ok (.ifCond .eq 6, 3) := by decide +kernel
theorem dX6_lift_62 : decode cX6_lift 62 = .ok (.ldc 77, 2) := by decide +kernel
theorem dX6_lift_64 : decode cX6_lift 64 = .ok (.ireturn, 1) := by decide +kernel
theorem dX6_lift_65 : decode cX6_lift 65 = .ok (.aload_n 0, 1) := by decide +kernel
theorem dX6_lift_66 : decode cX6_lift 66 = .ok (.getfield 12, 3) := by decide +kernel
theorem dX6_lift_69 : decode cX6_lift 69 = .ok (.iload_n 1, 1) := by decide +kernel
theorem dX6_lift_70 : decode cX6_lift 70 = .ok (.aload_n 0, 1) := by decide +kernel
theorem dX6_lift_71 : decode cX6_lift 71 = .ok (.iload_n 1, 1) := by decide +kernel
theorem dX6_lift_72 : decode cX6_lift 72 = .ok (.invokevirtual 121, 3) := by decide +kernel
theorem dX6_lift_75 : decode cX6_lift 75 = .ok (.iconst 3, 1) := by decide +kernel
theorem dX6_lift_76 : decode cX6_lift 76 = .ok (.aload_n 0, 1) := by decide +kernel
theorem dX6_lift_77 : decode cX6_lift 77 = .ok (.getfield 45, 3) := by decide +kernel
theorem dX6_lift_80 : decode cX6_lift 80 = .ok (.iload_n 2, 1) := by decide +kernel
theorem dX6_lift_81 : decode cX6_lift 81 = .ok (.invokevirtual 148, 3) := by decide +kernel
theorem dX6_lift_84 : decode cX6_lift 84 = .ok (.iload_n 3, 1) := by decide +kernel
theorem dX6_lift_85 : decode cX6_lift 85 = .ok (.invokevirtual 151, 3) := by decide +kernel
theorem dX6_lift_88 : decode cX6_lift 88 = .ok (.istore 4, 2) := by decide +kernel
theorem dX6_lift_90 : decode cX6_lift 90 = .ok (.aload_n 0, 1) := by decide +kernel
theorem dX6_lift_91 : decode cX6_lift 91 = .ok (.iload_n 1, 1) := by decide +kernel
theorem dX6_lift_92 : decode cX6_lift 92 = .ok (.iload 4, 2) := by decide +kernel
theorem dX6_lift_94 : decode cX6_lift 94 = .ok (.invokevirtual 131, 3) := by decide +kernel
theorem dX6_lift_97 : decode cX6_lift 97 = .ok (.iload 4, 2) := by decide +kernel
theorem dX6_lift_99 : decode cX6_lift 99 = .ok (.invokestatic 135, 3) := by decide +kernel
theorem dX6_lift_102 : decode cX6_lift 102 = .ok (.ireturn, 1) := by decide +kernel
set_option maxRecDepth 20000 in
theorem ggX6_deliver_X6_areTwoSites : GoodIn wsX6_deliver wsX6_areTwoSites := goodIn_r _ [8, 9, 10, 11, 7, 12, 13, 14, 15, 16, 76, 77, 78, 79, 80, 81, 82, 83, 84] (by decide +kernel) (by decide +kernel)
set_option maxRecDepth 20000 in
theorem gX6_deliver_X6_areTwoSites : GoodIn wsX6_deliver (wsV RX6 155 RX6 yX6_areTwoSites wsX6_areTwoSites) := goodIn_app (goodIn_of _ (by decide +kernel)) ggX6_deliver_X6_areTwoSites
set_option maxRecDepth 20000 in
theorem ggX6_deliver_X3_countIn : GoodIn wsX6_deliver wsX3_countIn := goodIn_r _ [21, 22, 23, 24, 25, 26, 27, 28, 85, 86, 87] (by decide +kernel) (by decide +kernel)
set_option maxRecDepth 20000 in
theorem gX6_deliver_X3_countIn : GoodIn wsX6_deliver (wsV RX6 159 RX3 yX3_countIn wsX3_countIn) := goodIn_app (goodIn_of _ (by decide +kernel)) ggX6_deliver_X3_countIn
set_option maxRecDepth 20000 in
theorem ggX6_deliver_X3_messageIn : GoodIn wsX6_deliver wsX3_messageIn := goodIn_r _ [32, 33, 23, 24, 25, 26, 27, 28, 85, 86, 87] (by decide +kernel) (by decide +kernel)
set_option maxRecDepth 20000 in
theorem gX6_deliver_X3_messageIn : GoodIn wsX6_deliver (wsV RX6 163 RX3 yX3_messageIn wsX3_messageIn) := goodIn_app (goodIn_of _ (by decide +kernel)) ggX6_deliver_X3_messageIn
set_option maxRecDepth 20000 in
theorem ggX6_deliver_X3_dropFirst : GoodIn wsX6_deliver wsX3_dropFirst := goodIn_r _ [37, 22, 33, 38, 39, 40, 41, 23, 24, 25, 26, 27, 28, 42, 43, 44, 45, 85, 86, 87] (by decide +kernel) (by decide +kernel)
set_option maxRecDepth 20000 in
theorem gX6_deliver_X3_dropFirst : GoodIn wsX6_deliver (wsV RX6 166 RX3 yX3_dropFirst wsX3_dropFirst) := goodIn_app (goodIn_of _ (by decide +kernel)) ggX6_deliver_X3_dropFirst
set_option maxRecDepth 20000 in
theorem ggX6_deliver_X6_receive : GoodIn wsX6_deliver wsX6_receive := goodIn_r _ [49, 50, 51, 52, 53, 39, 40, 41, 54, 55, 56, 57, 58, 59, 60, 43, 44, 26, 45, 28, 61, 24, 25, 27, 62, 63, 64, 65, 66, 67, 68, 69, 76, 77, 78, 79, 80, 81, 82, 83, 84, 88, 87, 89, 90, 91, 92, 93, 94, 95, 96] (by decide +kernel) (by decide +kernel)
set_option maxRecDepth 20000 in
theorem gX6_deliver_X6_receive : GoodIn wsX6_deliver (wsV RX6 169 RX6 yX6_receive wsX6_receive) := goodIn_app (goodIn_of _ (by decide +kernel)) ggX6_deliver_X6_receive
set_option maxRecDepth 20000 in
theorem ggX6_deliver_X6_authorOf : GoodIn wsX6_deliver wsX6_authorOf := goodIn_r _ [72] (by decide +kernel) (by decide +kernel)
set_option maxRecDepth 20000 in
theorem gX6_deliver_X6_authorOf : GoodIn wsX6_deliver (va_wsS RX6 172 yX6_authorOf wsX6_authorOf) := goodIn_app (goodIn_of _ (by decide +kernel)) ggX6_deliver_X6_authorOf
set_option maxRecDepth 20000 in
theorem ggX6_deliver_X6_numberOf : GoodIn wsX6_deliver wsX6_numberOf := goodIn_r _ [75] (by decide +kernel) (by decide +kernel)
set_option maxRecDepth 20000 in
theorem gX6_deliver_X6_numberOf : GoodIn wsX6_deliver (va_wsS RX6 135 yX6_numberOf wsX6_numberOf) := goodIn_app (goodIn_of _ (by decide +kernel)) ggX6_deliver_X6_numberOf
theorem dX6_deliver_0 : decode cX6_deliver 0 = .ok (.aload_n 0, 1) := by decide +kernel
theorem dX6_deliver_1 : decode cX6_deliver 1 = .ok (.iload_n 1, 1) := by decide +kernel
theorem dX6_deliver_2 : decode cX6_deliver 2 = .ok (.iload_n 2, 1) := by decide +kernel
theorem dX6_deliver_3 : decode cX6_deliver 3 = .ok (.invokevirtual 155, 3) := by decide +kernel
theorem dX6_deliver_6 : decode cX6_deliver 6 = .ok (.ifCond .ne 6, 3) := by decide +kernel
theorem dX6_deliver_9 : decode cX6_deliver 9 = .ok (.ldc 67, 2) := by decide +kernel
theorem dX6_deliver_11 : decode cX6_deliver 11 = .ok (.ireturn, 1) := by decide +kernel
theorem dX6_deliver_12 : decode cX6_deliver 12 = .ok (.aload_n 0, 1) := by decide +kernel
theorem dX6_deliver_13 : decode cX6_deliver 13 = .ok (.getfield 38, 3) := by decide +kernel
theorem dX6_deliver_16 : decode cX6_deliver 16 = .ok (.iload_n 1, 1) := by decide +kernel
theorem dX6_deliver_17 : decode cX6_deliver 17 = .ok (.iload_n 2, 1) := by decide +kernel
theorem dX6_deliver_18 : decode cX6_deliver 18 = .ok (.invokevirtual 159, 3) := by decide +kernel
theorem dX6_deliver_21 : decode cX6_deliver 21 = .ok (.ifCond .ne 6, 3) := by decide +kernel
theorem dX6_deliver_24 : decode cX6_deliver 24 = .ok (.ldc 162, 2) := by decide +kernel
theorem dX6_deliver_26 : decode cX6_deliver 26 = .ok (.ireturn, 1) := by decide +kernel
theorem dX6_deliver_27 : decode cX6_deliver 27 = .ok (.aload_n 0, 1) := by decide +kernel
theorem dX6_deliver_28 : decode cX6_deliver 28 = .ok (.getfield 38, 3) := by decide +kernel
theorem dX6_deliver_31 : decode cX6_deliver 31 = .ok (.iload_n 1, 1) := by decide +kernel
theorem dX6_deliver_32 : decode cX6_deliver 32 = .ok (.iload_n 2, 1) := by decide +kernel
theorem dX6_deliver_33 : decode cX6_deliver 33 = .ok (.iconst 0, 1) := by decide +kernel
theorem dX6_deliver_34 : decode cX6_deliver 34 = .ok (.invokevirtual 163, 3) := by decide +kernel
theorem dX6_deliver_37 : decode cX6_deliver 37 = .ok (.istore_n 3, 1) := by decide +kernel
theorem dX6_deliver_38 : decode cX6_deliver 38 = .ok (.aload_n 0, 1) := by decide +kernel
theorem dX6_deliver_39 : decode cX6_deliver 39 = .ok (.getfield 38, 3) := by decide +kernel
theorem dX6_deliver_42 : decode cX6_deliver 42 = .ok (.iload_n 1, 1) := by decide +kernel
theorem dX6_deliver_43 : decode cX6_deliver 43 = .ok (.iload_n 2, 1) := by decide +kernel
theorem dX6_deliver_44 : decode cX6_deliver 44 = .ok (.invokevirtual 166, 3) := by decide +kernel
theorem dX6_deliver_47 : decode cX6_deliver 47 = .ok (.aload_n 0, 1) := by decide +kernel
theorem dX6_deliver_48 : decode cX6_deliver 48 = .ok (.iload_n 2, 1) := by decide +kernel
theorem dX6_deliver_49 : decode cX6_deliver 49 = .ok (.iload_n 3, 1) := by decide +kernel
theorem dX6_deliver_50 : decode cX6_deliver 50 = .ok (.invokevirtual 169, 3) := by decide +kernel
theorem dX6_deliver_53 : decode cX6_deliver 53 = .ok (.bipush 100, 2) := by decide +kernel
theorem dX6_deliver_55 : decode cX6_deliver 55 = .ok (.iload_n 3, 1) := by decide +kernel
theorem dX6_deliver_56 : decode cX6_deliver 56 = .ok (.invokestatic 172, 3) := by decide +kernel
theorem dX6_deliver_59 : decode cX6_deliver 59 = .ok (.imul, 1) := by decide +kernel
theorem dX6_deliver_60 : decode cX6_deliver 60 = .ok (.iload_n 3, 1) := by decide +kernel
theorem dX6_deliver_61 : decode cX6_deliver 61 = .ok (.invokestatic 135, 3) := by decide +kernel
theorem dX6_deliver_64 : decode cX6_deliver 64 = .ok (.iadd, 1) := by decide +kernel
theorem dX6_deliver_65 : decode cX6_deliver 65 = .ok (.ireturn, 1) := by decide +kernel
set_option maxRecDepth 20000 in
theorem ggX6_lose_X6_areTwoSites : GoodIn wsX6_lose wsX6_areTwoSites := goodIn_r _ [8, 9, 10, 11, 7, 12, 13, 14, 15, 16, 42, 43, 44, 45, 46, 47, 48, 49, 50] (by decide +kernel) (by decide +kernel)
set_option maxRecDepth 20000 in
theorem gX6_lose_X6_areTwoSites : GoodIn wsX6_lose (wsV RX6 155 RX6 yX6_areTwoSites wsX6_areTwoSites) := goodIn_app (goodIn_of _ (by decide +kernel)) ggX6_lose_X6_areTwoSites
set_option maxRecDepth 20000 in
theorem ggX6_lose_X3_countIn : GoodIn wsX6_lose wsX3_countIn := goodIn_r _ [21, 22, 23, 24, 25, 26, 27, 28, 51, 52, 53] (by decide +kernel) (by decide +kernel)
set_option maxRecDepth 20000 in
theorem gX6_lose_X3_countIn : GoodIn wsX6_lose (wsV RX6 159 RX3 yX3_countIn wsX3_countIn) := goodIn_app (goodIn_of _ (by decide +kernel)) ggX6_lose_X3_countIn
set_option maxRecDepth 20000 in
theorem ggX6_lose_X3_dropFirst : GoodIn wsX6_lose wsX3_dropFirst := goodIn_r _ [32, 22, 33, 34, 35, 36, 37, 23, 24, 25, 26, 27, 28, 38, 39, 40, 41, 51, 52, 53] (by decide +kernel) (by decide +kernel)
set_option maxRecDepth 20000 in
theorem gX6_lose_X3_dropFirst : GoodIn wsX6_lose (wsV RX6 166 RX3 yX3_dropFirst wsX3_dropFirst) := goodIn_app (goodIn_of _ (by decide +kernel)) ggX6_lose_X3_dropFirst
theorem dX6_lose_0 : decode cX6_lose 0 = .ok (.aload_n 0, 1) := by decide +kernel
theorem dX6_lose_1 : decode cX6_lose 1 = .ok (.iload_n 1, 1) := by decide +kernel
theorem dX6_lose_2 : decode cX6_lose 2 = .ok (.iload_n 2, 1) := by decide +kernel
theorem dX6_lose_3 : decode cX6_lose 3 = .ok (.invokevirtual 155, 3) := by decide +kernel
theorem dX6_lose_6 : decode cX6_lose 6 = .ok (.ifCond .ne 6, 3) := by decide +kernel
theorem dX6_lose_9 : decode cX6_lose 9 = .ok (.ldc 67, 2) := by decide +kernel
theorem dX6_lose_11 : decode cX6_lose 11 = .ok (.ireturn, 1) := by decide +kernel
theorem dX6_lose_12 : decode cX6_lose 12 = .ok (.aload_n 0, 1) := by decide +kernel
theorem dX6_lose_13 : decode cX6_lose 13 = .ok (.getfield 38, 3) := by decide +kernel
theorem dX6_lose_16 : decode cX6_lose 16 = .ok (.iload_n 1, 1) := by decide +kernel
theorem dX6_lose_17 : decode cX6_lose 17 = .ok (.iload_n 2, 1) := by decide +kernel
theorem dX6_lose_18 : decode cX6_lose 18 = .ok (.invokevirtual 159, 3) := by decide +kernel
theorem dX6_lose_21 : decode cX6_lose 21 = .ok (.ifCond .ne 6, 3) := by decide +kernel
theorem dX6_lose_24 : decode cX6_lose 24 = .ok (.ldc 162, 2) := by decide +kernel
theorem dX6_lose_26 : decode cX6_lose 26 = .ok (.ireturn, 1) := by decide +kernel
theorem dX6_lose_27 : decode cX6_lose 27 = .ok (.aload_n 0, 1) := by decide +kernel
theorem dX6_lose_28 : decode cX6_lose 28 = .ok (.getfield 38, 3) := by decide +kernel
theorem dX6_lose_31 : decode cX6_lose 31 = .ok (.iload_n 1, 1) := by decide +kernel
theorem dX6_lose_32 : decode cX6_lose 32 = .ok (.iload_n 2, 1) := by decide +kernel
theorem dX6_lose_33 : decode cX6_lose 33 = .ok (.invokevirtual 166, 3) := by decide +kernel
theorem dX6_lose_36 : decode cX6_lose 36 = .ok (.aload_n 0, 1) := by decide +kernel
theorem dX6_lose_37 : decode cX6_lose 37 = .ok (.getfield 38, 3) := by decide +kernel
theorem dX6_lose_40 : decode cX6_lose 40 = .ok (.iload_n 1, 1) := by decide +kernel
theorem dX6_lose_41 : decode cX6_lose 41 = .ok (.iload_n 2, 1) := by decide +kernel
theorem dX6_lose_42 : decode cX6_lose 42 = .ok (.invokevirtual 159, 3) := by decide +kernel
theorem dX6_lose_45 : decode cX6_lose 45 = .ok (.ireturn, 1) := by decide +kernel
set_option maxRecDepth 20000 in
theorem ggX6_deliverAll_X6_deliverLink : GoodIn wsX6_deliverAll wsX6_deliverLink := goodIn_r _ [6, 7, 8, 9, 10, 11, 12, 13, 14, 15, 16, 17, 18, 19, 20, 21, 22, 23, 24, 25, 26, 27, 5, 28, 29, 30, 31, 32, 33, 34, 35, 36, 37, 38, 39, 40, 41, 42, 43, 44, 45, 46, 47, 48, 49, 50, 51, 52, 53, 54, 55, 56, 57, 58, 59, 60, 61, 62, 63, 64, 65, 66, 67, 68, 69, 70, 71, 72, 73, 74, 75, 76, 77, 78, 79, 80, 81] (by decide +kernel) (by decide +kernel)
set_option maxRecDepth 20000 in
theorem gX6_deliverAll_X6_deliverLink : GoodIn wsX6_deliverAll (wsV RX6 175 RX6 yX6_deliverLink wsX6_deliverLink) := goodIn_app (goodIn_of _ (by decide +kernel)) ggX6_deliverAll_X6_deliverLink
theorem dX6_deliverAll_0 : decode cX6_deliverAll 0 = .ok (.iconst 0, 1) := by decide +kernel
theorem dX6_deliverAll_1 : decode cX6_deliverAll 1 = .ok (.istore_n 1, 1) := by decide +kernel
theorem dX6_deliverAll_2 : decode cX6_deliverAll 2 = .ok (.iconst 0, 1) := by decide +kernel
theorem dX6_deliverAll_3 : decode cX6_deliverAll 3 = .ok (.istore_n 2, 1) := by decide +kernel
theorem dX6_deliverAll_4 : decode cX6_deliverAll 4 = .ok (.iload_n 2, 1) := by decide +kernel
theorem dX6_deliverAll_5 : decode cX6_deliverAll 5 = .ok (.aload_n 0, 1) := by decide +kernel
theorem dX6_deliverAll_6 : decode cX6_deliverAll 6 = .ok (.getfield 59, 3) := by decide +kernel
theorem dX6_deliverAll_9 : decode cX6_deliverAll 9 = .ok (.if_icmp .ge 34, 3) := by decide +kernel
theorem dX6_deliverAll_12 : decode cX6_deliverAll 12 = .ok (.iconst 0, 1) := by decide +kernel
theorem dX6_deliverAll_13 : decode cX6_deliverAll 13 = .ok (.istore_n 3, 1) := by decide +kernel
theorem dX6_deliverAll_14 : decode cX6_deliverAll 14 = .ok (.iload_n 3, 1) := by decide +kernel
theorem dX6_deliverAll_15 : decode cX6_deliverAll 15 = .ok (.aload_n 0, 1) := by decide +kernel
theorem dX6_deliverAll_16 : decode cX6_deliverAll 16 = .ok (.getfield 59, 3) := by decide +kernel
theorem dX6_deliverAll_19 : decode cX6_deliverAll 19 = .ok (.if_icmp .ge 18, 3) := by decide +kernel
theorem dX6_deliverAll_22 : decode cX6_deliverAll 22 = .ok (.iload_n 1, 1) := by decide +kernel
theorem dX6_deliverAll_23 : decode cX6_deliverAll 23 = .ok (.aload_n 0, 1) := by decide +kernel
theorem dX6_deliverAll_24 : decode cX6_deliverAll 24 = .ok (.iload_n 2, 1) := by decide +kernel
theorem dX6_deliverAll_25 : decode cX6_deliverAll 25 = .ok (.iload_n 3, 1) := by decide +kernel
theorem dX6_deliverAll_26 : decode cX6_deliverAll 26 = .ok (.invokevirtual 175, 3) := by decide +kernel
theorem dX6_deliverAll_29 : decode cX6_deliverAll 29 = .ok (.iadd, 1) := by decide +kernel
theorem dX6_deliverAll_30 : decode cX6_deliverAll 30 = .ok (.istore_n 1, 1) := by decide +kernel
theorem dX6_deliverAll_31 : decode cX6_deliverAll 31 = .ok (.iinc 3 1, 3) := by decide +kernel
theorem dX6_deliverAll_34 : decode cX6_deliverAll 34 = .ok (.goto (-20), 3) := by decide +kernel
theorem dX6_deliverAll_37 : decode cX6_deliverAll 37 = .ok (.iinc 2 1, 3) := by decide +kernel
theorem dX6_deliverAll_40 : decode cX6_deliverAll 40 = .ok (.goto (-36), 3) := by decide +kernel
theorem dX6_deliverAll_43 : decode cX6_deliverAll 43 = .ok (.iload_n 1, 1) := by decide +kernel
theorem dX6_deliverAll_44 : decode cX6_deliverAll 44 = .ok (.ireturn, 1) := by decide +kernel
set_option maxRecDepth 20000 in
theorem ggX6_waiting_X6_areTwoSites : GoodIn wsX6_waiting wsX6_areTwoSites := goodIn_r _ [7, 8, 9, 10, 6, 11, 12, 13, 14, 15, 28, 29, 30, 31, 32, 33, 34, 35, 36] (by decide +kernel) (by decide +kernel)
set_option maxRecDepth 20000 in
theorem gX6_waiting_X6_areTwoSites : GoodIn wsX6_waiting (wsV RX6 155 RX6 yX6_areTwoSites wsX6_areTwoSites) := goodIn_app (goodIn_of _ (by decide +kernel)) ggX6_waiting_X6_areTwoSites
set_option maxRecDepth 20000 in
theorem ggX6_waiting_X3_countIn : GoodIn wsX6_waiting wsX3_countIn := goodIn_r _ [20, 21, 22, 23, 24, 25, 26, 27, 37, 38, 39] (by decide +kernel) (by decide +kernel)
set_option maxRecDepth 20000 in
theorem gX6_waiting_X3_countIn : GoodIn wsX6_waiting (wsV RX6 159 RX3 yX3_countIn wsX3_countIn) := goodIn_app (goodIn_of _ (by decide +kernel)) ggX6_waiting_X3_countIn
theorem dX6_waiting_0 : decode cX6_waiting 0 = .ok (.aload_n 0, 1) := by decide +kernel
theorem dX6_waiting_1 : decode cX6_waiting 1 = .ok (.iload_n 1, 1) := by decide +kernel
theorem dX6_waiting_2 : decode cX6_waiting 2 = .ok (.iload_n 2, 1) := by decide +kernel
theorem dX6_waiting_3 : decode cX6_waiting 3 = .ok (.invokevirtual 155, 3) := by decide +kernel
theorem dX6_waiting_6 : decode cX6_waiting 6 = .ok (.ifCond .eq 15, 3) := by decide +kernel
theorem dX6_waiting_9 : decode cX6_waiting 9 = .ok (.aload_n 0, 1) := by decide +kernel
theorem dX6_waiting_10 : decode cX6_waiting 10 = .ok (.getfield 38, 3) := by decide +kernel
theorem dX6_waiting_13 : decode cX6_waiting 13 = .ok (.iload_n 1, 1) := by decide +kernel
theorem dX6_waiting_14 : decode cX6_waiting 14 = .ok (.iload_n 2, 1) := by decide +kernel
theorem dX6_waiting_15 : decode cX6_waiting 15 = .ok (.invokevirtual 159, 3) := by decide +kernel
theorem dX6_waiting_18 : decode cX6_waiting 18 = .ok (.goto 5, 3) := by decide +kernel
theorem dX6_waiting_21 : decode cX6_waiting 21 = .ok (.ldc 67, 2) := by decide +kernel
theorem dX6_waiting_23 : decode cX6_waiting 23 = .ok (.ireturn, 1) := by decide +kernel
set_option maxRecDepth 20000 in
theorem ggX6_gap_X6_isSite : GoodIn wsX6_gap wsX6_isSite := goodIn_r _ [8, 9, 10, 11, 7, 12, 28, 29, 30, 31, 32, 33, 34, 35, 36] (by decide +kernel) (by decide +kernel)
set_option maxRecDepth 20000 in
theorem gX6_gap_X6_isSite : GoodIn wsX6_gap (wsV RX6 78 RX6 yX6_isSite wsX6_isSite) := goodIn_app (goodIn_of _ (by decide +kernel)) ggX6_gap_X6_isSite
set_option maxRecDepth 20000 in
theorem ggX6_gap_X6_idOf : GoodIn wsX6_gap wsX6_idOf := goodIn_r _ [15] (by decide +kernel) (by decide +kernel)
set_option maxRecDepth 20000 in
theorem gX6_gap_X6_idOf : GoodIn wsX6_gap (va_wsS RX6 178 yX6_idOf wsX6_idOf) := goodIn_app (goodIn_of _ (by decide +kernel)) ggX6_gap_X6_idOf
set_option maxRecDepth 20000 in
theorem ggX6_gap_X2_has : GoodIn wsX6_gap wsX2_has := goodIn_r _ [20, 21, 22, 23, 24, 25, 26, 27, 37, 38] (by decide +kernel) (by decide +kernel)
set_option maxRecDepth 20000 in
theorem gX6_gap_X2_has : GoodIn wsX6_gap (wsV RX6 181 RX2 yX2_has wsX2_has) := goodIn_app (goodIn_of _ (by decide +kernel)) ggX6_gap_X2_has
theorem dX6_gap_0 : decode cX6_gap 0 = .ok (.aload_n 0, 1) := by decide +kernel
theorem dX6_gap_1 : decode cX6_gap 1 = .ok (.iload_n 1, 1) := by decide +kernel
theorem dX6_gap_2 : decode cX6_gap 2 = .ok (.invokevirtual 78, 3) := by decide +kernel
theorem dX6_gap_5 : decode cX6_gap 5 = .ok (.ifCond .eq 15, 3) := by decide +kernel
theorem dX6_gap_8 : decode cX6_gap 8 = .ok (.aload_n 0, 1) := by decide +kernel
theorem dX6_gap_9 : decode cX6_gap 9 = .ok (.iload_n 2, 1) := by decide +kernel
theorem dX6_gap_10 : decode cX6_gap 10 = .ok (.invokevirtual 78, 3) := by decide +kernel
theorem dX6_gap_13 : decode cX6_gap 13 = .ok (.ifCond .eq 7, 3) := by decide +kernel
theorem dX6_gap_16 : decode cX6_gap 16 = .ok (.iload_n 3, 1) := by decide +kernel
theorem dX6_gap_17 : decode cX6_gap 17 = .ok (.ifCond .ge 6, 3) := by decide +kernel
theorem dX6_gap_20 : decode cX6_gap 20 = .ok (.ldc 67, 2) := by decide +kernel
theorem dX6_gap_22 : decode cX6_gap 22 = .ok (.ireturn, 1) := by decide +kernel
theorem dX6_gap_23 : decode cX6_gap 23 = .ok (.iconst 0, 1) := by decide +kernel
theorem dX6_gap_24 : decode cX6_gap 24 = .ok (.istore 4, 2) := by decide +kernel
theorem dX6_gap_26 : decode cX6_gap 26 = .ok (.iconst 0, 1) := by decide +kernel
theorem dX6_gap_27 : decode cX6_gap 27 = .ok (.istore 5, 2) := by decide +kernel
theorem dX6_gap_29 : decode cX6_gap 29 = .ok (.iconst 1, 1) := by decide +kernel
theorem dX6_gap_30 : decode cX6_gap 30 = .ok (.istore 6, 2) := by decide +kernel
theorem dX6_gap_32 : decode cX6_gap 32 = .ok (.iload 6, 2) := by decide +kernel
theorem dX6_gap_34 : decode cX6_gap 34 = .ok (.bipush 20, 2) := by decide +kernel
theorem dX6_gap_36 : decode cX6_gap 36 = .ok (.if_icmp .gt 72, 3) := by decide +kernel
theorem dX6_gap_39 : decode cX6_gap 39 = .ok (.aload_n 0, 1) := by decide +kernel
theorem dX6_gap_40 : decode cX6_gap 40 = .ok (.getfield 28, 3) := by decide +kernel
theorem dX6_gap_43 : decode cX6_gap 43 = .ok (.iload_n 1, 1) := by decide +kernel
theorem dX6_gap_44 : decode cX6_gap 44 = .ok (.iload_n 2, 1) := by decide +kernel
theorem dX6_gap_45 : decode cX6_gap 45 = .ok (.iload 6, 2) := by decide +kernel
theorem dX6_gap_47 : decode cX6_gap 47 = .ok (.invokestatic 178, 3) := by decide +kernel
theorem dX6_gap_50 : decode cX6_gap 50 = .ok (.invokevirtual 181, 3) := by decide +kernel
theorem dX6_gap_53 : decode cX6_gap 53 = .ok (.istore 7, 2) := by decide +kernel
theorem dX6_gap_55 : decode cX6_gap 55 = .ok (.iload 7, 2) := by decide +kernel
theorem dX6_gap_57 : decode cX6_gap 57 = .ok (.ifCond .ne 12, 3) := by decide +kernel
theorem dX6_gap_60 : decode cX6_gap 60 = .ok (.iload 4, 2) := by decide +kernel
theorem dX6_gap_62 : decode cX6_gap 62 = .ok (.ifCond .ne 7, 3) := by decide +kernel
theorem dX6_gap_65 : decode cX6_gap 65 = .ok (.iload 6, 2) := by decide +kernel
theorem dX6_gap_67 : decode cX6_gap 67 = .ok (.istore 4, 2) := by decide +kernel
theorem dX6_gap_69 : decode cX6_gap 69 = .ok (.iload 7, 2) := by decide +kernel
theorem dX6_gap_71 : decode cX6_gap 71 = .ok (.ifCond .eq 31, 3) := by decide +kernel
theorem dX6_gap_74 : decode cX6_gap 74 = .ok (.iload 4, 2) := by decide +kernel
theorem dX6_gap_76 : decode cX6_gap 76 = .ok (.ifCond .eq 26, 3) := by decide +kernel
theorem dX6_gap_79 : decode cX6_gap 79 = .ok (.iload 5, 2) := by decide +kernel
theorem dX6_gap_81 : decode cX6_gap 81 = .ok (.iload_n 3, 1) := by decide +kernel
theorem dX6_gap_82 : decode cX6_gap 82 = .ok (.if_icmp .ne 14, 3) := by decide +kernel
theorem dX6_gap_85 : decode cX6_gap 85 = .ok (.bipush 100, 2) := by decide +kernel
theorem dX6_gap_87 : decode cX6_gap 87 = .ok (.iload 4, 2) := by decide +kernel
theorem dX6_gap_89 : decode cX6_gap 89 = .ok (.imul, 1) := by decide +kernel
theorem dX6_gap_90 : decode cX6_gap 90 = .ok (.iload 6, 2) := by decide +kernel
theorem dX6_gap_92 : decode cX6_gap 92 = .ok (.iadd, 1) := by decide +kernel
theorem dX6_gap_93 : decode cX6_gap 93 = .ok (.iconst 1, 1) := by decide +kernel
theorem dX6_gap_94 : decode cX6_gap 94 = .ok (.isub, 1) := by decide +kernel
theorem dX6_gap_95 : decode cX6_gap 95 = .ok (.ireturn, 1) := by decide +kernel
theorem dX6_gap_96 : decode cX6_gap 96 = .ok (.iinc 5 1, 3) := by decide +kernel
theorem dX6_gap_99 : decode cX6_gap 99 = .ok (.iconst 0, 1) := by decide +kernel
theorem dX6_gap_100 : decode cX6_gap 100 = .ok (.istore 4, 2) := by decide +kernel
theorem dX6_gap_102 : decode cX6_gap 102 = .ok (.iinc 6 1, 3) := by decide +kernel
theorem dX6_gap_105 : decode cX6_gap 105 = .ok (.goto (-73), 3) := by decide +kernel
theorem dX6_gap_108 : decode cX6_gap 108 = .ok (.ldc 162, 2) := by decide +kernel
theorem dX6_gap_110 : decode cX6_gap 110 = .ok (.ireturn, 1) := by decide +kernel
set_option maxRecDepth 20000 in
theorem ggX6_repair_X6_areTwoSites : GoodIn wsX6_repair wsX6_areTwoSites := goodIn_r _ [6, 7, 8, 9, 5, 10, 11, 12, 13, 14, 74, 75, 76, 77, 78, 79, 80, 81, 82] (by decide +kernel) (by decide +kernel)
set_option maxRecDepth 20000 in
theorem gX6_repair_X6_areTwoSites : GoodIn wsX6_repair (wsV RX6 155 RX6 yX6_areTwoSites wsX6_areTwoSites) := goodIn_app (goodIn_of _ (by decide +kernel)) ggX6_repair_X6_areTwoSites
set_option maxRecDepth 20000 in
theorem ggX6_repair_X6_canRepair : GoodIn wsX6_repair wsX6_canRepair := goodIn_r _ [18, 19, 20, 21, 22, 23, 24, 25, 26, 27, 28, 29, 30, 31, 32, 33, 34, 35, 36, 37, 38, 39, 40, 5, 41, 42, 43, 44, 45, 46, 74, 75, 76, 77, 78, 79, 80, 81, 82, 83, 84] (by decide +kernel) (by decide +kernel)
set_option maxRecDepth 20000 in
theorem gX6_repair_X6_canRepair : GoodIn wsX6_repair (wsV RX6 184 RX6 yX6_canRepair wsX6_canRepair) := goodIn_app (goodIn_of _ (by decide +kernel)) ggX6_repair_X6_canRepair
set_option maxRecDepth 20000 in
theorem ggX6_repair_X6_receive : GoodIn wsX6_repair wsX6_receive := goodIn_r _ [50, 19, 51, 52, 53, 54, 55, 56, 57, 58, 59, 23, 60, 29, 61, 62, 63, 33, 64, 35, 65, 31, 32, 34, 66, 67, 68, 69, 70, 71, 72, 73, 74, 75, 76, 77, 78, 79, 80, 81, 82, 83, 84, 85, 86, 87, 88, 89, 90, 91, 92] (by decide +kernel) (by decide +kernel)
set_option maxRecDepth 20000 in
theorem gX6_repair_X6_receive : GoodIn wsX6_repair (wsV RX6 169 RX6 yX6_receive wsX6_receive) := goodIn_app (goodIn_of _ (by decide +kernel)) ggX6_repair_X6_receive
theorem dX6_repair_0 : decode cX6_repair 0 = .ok (.aload_n 0, 1) := by decide +kernel
theorem dX6_repair_1 : decode cX6_repair 1 = .ok (.iload_n 1, 1) := by decide +kernel
theorem dX6_repair_2 : decode cX6_repair 2 = .ok (.iload_n 2, 1) := by decide +kernel
theorem dX6_repair_3 : decode cX6_repair 3 = .ok (.invokevirtual 155, 3) := by decide +kernel
theorem dX6_repair_6 : decode cX6_repair 6 = .ok (.ifCond .ne 6, 3) := by decide +kernel
theorem dX6_repair_9 : decode cX6_repair 9 = .ok (.ldc 67, 2) := by decide +kernel
theorem dX6_repair_11 : decode cX6_repair 11 = .ok (.ireturn, 1) := by decide +kernel
theorem dX6_repair_12 : decode cX6_repair 12 = .ok (.iconst 0, 1) := by decide +kernel
theorem dX6_repair_13 : decode cX6_repair 13 = .ok (.istore_n 3, 1) := by decide +kernel
theorem dX6_repair_14 : decode cX6_repair 14 = .ok (.iconst 0, 1) := by decide +kernel
theorem dX6_repair_15 : decode cX6_repair 15 = .ok (.istore 4, 2) := by decide +kernel
theorem dX6_repair_17 : decode cX6_repair 17 = .ok (.iload 4, 2) := by decide +kernel
theorem dX6_repair_19 : decode cX6_repair 19 = .ok (.bipush 100, 2) := by decide +kernel
theorem dX6_repair_21 : decode cX6_repair 21 = .ok (.if_icmp .ge 30, 3) := by decide +kernel
theorem dX6_repair_24 : decode cX6_repair 24 = .ok (.aload_n 0, 1) := by decide +kernel
theorem dX6_repair_25 : decode cX6_repair 25 = .ok (.iload_n 1, 1) := by decide +kernel
theorem dX6_repair_26 : decode cX6_repair 26 = .ok (.iload_n 2, 1) := by decide +kernel
theorem dX6_repair_27 : decode cX6_repair 27 = .ok (.iload 4, 2) := by decide +kernel
theorem dX6_repair_29 : decode cX6_repair 29 = .ok (.invokevirtual 184, 3) := by decide +kernel
theorem dX6_repair_32 : decode cX6_repair 32 = .ok (.ifCond .eq 13, 3) := by decide +kernel
theorem dX6_repair_35 : decode cX6_repair 35 = .ok (.aload_n 0, 1) := by decide +kernel
theorem dX6_repair_36 : decode cX6_repair 36 = .ok (.iload_n 1, 1) := by decide +kernel
theorem dX6_repair_37 : decode cX6_repair 37 = .ok (.iload 4, 2) := by decide +kernel
theorem dX6_repair_39 : decode cX6_repair 39 = .ok (.invokevirtual 169, 3) := by decide +kernel
theorem dX6_repair_42 : decode cX6_repair 42 = .ok (.iinc 3 1, 3) := by decide +kernel
theorem dX6_repair_45 : decode cX6_repair 45 = .ok (.iinc 4 1, 3) := by decide +kernel
theorem dX6_repair_48 : decode cX6_repair 48 = .ok (.goto (-31), 3) := by decide +kernel
theorem dX6_repair_51 : decode cX6_repair 51 = .ok (.iload_n 3, 1) := by decide +kernel
theorem dX6_repair_52 : decode cX6_repair 52 = .ok (.ireturn, 1) := by decide +kernel
set_option maxRecDepth 20000 in
theorem ggX6_transfer_X6_areTwoSites : GoodIn wsX6_transfer wsX6_areTwoSites := goodIn_r _ [13, 14, 15, 16, 12, 17, 18, 19, 20, 21, 78, 79, 80, 81, 82, 83, 84, 85, 86] (by decide +kernel) (by decide +kernel)
set_option maxRecDepth 20000 in
theorem gX6_transfer_X6_areTwoSites : GoodIn wsX6_transfer (wsV RX6 155 RX6 yX6_areTwoSites wsX6_areTwoSites) := goodIn_app (goodIn_of _ (by decide +kernel)) ggX6_transfer_X6_areTwoSites
set_option maxRecDepth 20000 in
theorem ggX6_transfer_X2_has : GoodIn wsX6_transfer wsX2_has := goodIn_r _ [26, 27, 28, 29, 30, 31, 32, 33, 87, 88] (by decide +kernel) (by decide +kernel)
set_option maxRecDepth 20000 in
theorem gX6_transfer_X2_has : GoodIn wsX6_transfer (wsV RX6 181 RX2 yX2_has wsX2_has) := goodIn_app (goodIn_of _ (by decide +kernel)) ggX6_transfer_X2_has
set_option maxRecDepth 20000 in
theorem ggX6_transfer_X6_receive : GoodIn wsX6_transfer wsX6_receive := goodIn_r _ [37, 2, 4, 3, 5, 6, 7, 8, 38, 39, 40, 25, 41, 27, 42, 43, 44, 31, 45, 33, 46, 29, 30, 32, 47, 48, 49, 50, 51, 52, 53, 54, 78, 79, 80, 81, 82, 83, 84, 85, 86, 87, 88, 89, 90, 91, 92, 93, 94, 95, 96] (by decide +kernel) (by decide +kernel)
set_option maxRecDepth 20000 in
theorem gX6_transfer_X6_receive : GoodIn wsX6_transfer (wsV RX6 169 RX6 yX6_receive wsX6_receive) := goodIn_app (goodIn_of _ (by decide +kernel)) ggX6_transfer_X6_receive
set_option maxRecDepth 20000 in
theorem ggX6_transfer_X4_sizeOf : GoodIn wsX6_transfer wsX4_sizeOf := goodIn_r _ [58, 59, 60, 53, 29, 30, 31, 32, 33, 61, 62, 63, 64, 65, 66, 67, 68, 69, 70, 71, 72, 20, 12, 21, 73, 74, 75, 76, 77, 89, 90, 91, 92, 93, 94, 95, 96, 88, 97, 98, 99, 100, 101] (by decide +kernel) (by decide +kernel)
set_option maxRecDepth 20000 in
theorem gX6_transfer_X4_sizeOf : GoodIn wsX6_transfer (wsV RX6 187 RX4 yX4_sizeOf wsX4_sizeOf) := goodIn_app (goodIn_of _ (by decide +kernel)) ggX6_transfer_X4_sizeOf
set_option maxRecDepth 20000 in
theorem ggX6_transfer_X5_get : GoodIn wsX6_transfer wsX5_get := goodIn_r _ [32, 33, 88] (by decide +kernel) (by decide +kernel)
set_option maxRecDepth 20000 in
theorem gX6_transfer_X5_get : GoodIn wsX6_transfer (wsV RX6 82 RX5 yX5_get wsX5_get) := goodIn_app (goodIn_of _ (by decide +kernel)) ggX6_transfer_X5_get
set_option maxRecDepth 20000 in
theorem ggX6_transfer_X5_set : GoodIn wsX6_transfer wsX5_set := goodIn_r _ [45, 33, 88] (by decide +kernel) (by decide +kernel)
set_option maxRecDepth 20000 in
theorem gX6_transfer_X5_set : GoodIn wsX6_transfer (wsV RX6 195 RX5 yX5_set wsX5_set) := goodIn_app (goodIn_of _ (by decide +kernel)) ggX6_transfer_X5_set
theorem dX6_transfer_0 : decode cX6_transfer 0 = .ok (.aload_n 0, 1) := by decide +kernel
theorem dX6_transfer_1 : decode cX6_transfer 1 = .ok (.iload_n 1, 1) := by decide +kernel
theorem dX6_transfer_2 : decode cX6_transfer 2 = .ok (.iload_n 2, 1) := by decide +kernel
theorem dX6_transfer_3 : decode cX6_transfer 3 = .ok (.invokevirtual 155, 3) := by decide +kernel
theorem dX6_transfer_6 : decode cX6_transfer 6 = .ok (.ifCond .ne 6, 3) := by decide +kernel
theorem dX6_transfer_9 : decode cX6_transfer 9 = .ok (.ldc 67, 2) := by decide +kernel
theorem dX6_transfer_11 : decode cX6_transfer 11 = .ok (.ireturn, 1) := by decide +kernel
theorem dX6_transfer_12 : decode cX6_transfer 12 = .ok (.iconst 0, 1) := by decide +kernel
theorem dX6_transfer_13 : decode cX6_transfer 13 = .ok (.istore_n 3, 1) := by decide +kernel
theorem dX6_transfer_14 : decode cX6_transfer 14 = .ok (.iconst 0, 1) := by decide +kernel
theorem dX6_transfer_15 : decode cX6_transfer 15 = .ok (.istore 4, 2) := by decide +kernel
theorem dX6_transfer_17 : decode cX6_transfer 17 = .ok (.iload 4, 2) := by decide +kernel
theorem dX6_transfer_19 : decode cX6_transfer 19 = .ok (.bipush 100, 2) := by decide +kernel
theorem dX6_transfer_21 : decode cX6_transfer 21 = .ok (.if_icmp .ge 54, 3) := by decide +kernel
theorem dX6_transfer_24 : decode cX6_transfer 24 = .ok (.aload_n 0, 1) := by decide +kernel
theorem dX6_transfer_25 : decode cX6_transfer 25 = .ok (.getfield 28, 3) := by decide +kernel
theorem dX6_transfer_28 : decode cX6_transfer 28 = .ok (.iload_n 2, 1) := by decide +kernel
theorem dX6_transfer_29 : decode cX6_transfer 29 = .ok (.iload 4, 2) := by decide +kernel
theorem dX6_transfer_31 : decode cX6_transfer 31 = .ok (.invokevirtual 181, 3) := by decide +kernel
theorem dX6_transfer_34 : decode cX6_transfer 34 = .ok (.ifCond .eq 35, 3) := by decide +kernel
theorem dX6_transfer_37 : decode cX6_transfer 37 = .ok (.aload_n 0, 1) := by decide +kernel
theorem dX6_transfer_38 : decode cX6_transfer 38 = .ok (.getfield 28, 3) := by decide +kernel
theorem dX6_transfer_41 : decode cX6_transfer 41 = .ok (.iload_n 1, 1) := by decide +kernel
theorem dX6_transfer_42 : decode cX6_transfer 42 = .ok (.iload 4, 2) := by decide +kernel
theorem dX6_transfer_44 : decode cX6_transfer 44 = .ok (.invokevirtual 181, 3) := by decide +kernel
theorem dX6_transfer_47 : decode cX6_transfer 47 = .ok (.ifCond .ne 22, 3) := by decide +kernel
theorem dX6_transfer_50 : decode cX6_transfer 50 = .ok (.aload_n 0, 1) := by decide +kernel
theorem dX6_transfer_51 : decode cX6_transfer 51 = .ok (.iload_n 1, 1) := by decide +kernel
theorem dX6_transfer_52 : decode cX6_transfer 52 = .ok (.iload 4, 2) := by decide +kernel
theorem dX6_transfer_54 : decode cX6_transfer 54 = .ok (.invokevirtual 169, 3) := by decide +kernel
theorem dX6_transfer_57 : decode cX6_transfer 57 = .ok (.iload_n 3, 1) := by decide +kernel
theorem dX6_transfer_58 : decode cX6_transfer 58 = .ok (.aload_n 0, 1) := by decide +kernel
theorem dX6_transfer_59 : decode cX6_transfer 59 = .ok (.getfield 12, 3) := by decide +kernel
theorem dX6_transfer_62 : decode cX6_transfer 62 = .ok (.iload 4, 2) := by decide +kernel
theorem dX6_transfer_64 : decode cX6_transfer 64 = .ok (.invokevirtual 187, 3) := by decide +kernel
theorem dX6_transfer_67 : decode cX6_transfer 67 = .ok (.iadd, 1) := by decide +kernel
theorem dX6_transfer_68 : decode cX6_transfer 68 = .ok (.istore_n 3, 1) := by decide +kernel
theorem dX6_transfer_69 : decode cX6_transfer 69 = .ok (.iinc 4 1, 3) := by decide +kernel
theorem dX6_transfer_72 : decode cX6_transfer 72 = .ok (.goto (-55), 3) := by decide +kernel
theorem dX6_transfer_75 : decode cX6_transfer 75 = .ok (.aload_n 0, 1) := by decide +kernel
theorem dX6_transfer_76 : decode cX6_transfer 76 = .ok (.getfield 55, 3) := by decide +kernel
theorem dX6_transfer_79 : decode cX6_transfer 79 = .ok (.iload_n 1, 1) := by decide +kernel
theorem dX6_transfer_80 : decode cX6_transfer 80 = .ok (.aload_n 0, 1) := by decide +kernel
theorem dX6_transfer_81 : decode cX6_transfer 81 = .ok (.getfield 55, 3) := by decide +kernel
theorem dX6_transfer_84 : decode cX6_transfer 84 = .ok (.iload_n 1, 1) := by decide +kernel
theorem dX6_transfer_85 : decode cX6_transfer 85 = .ok (.invokevirtual 82, 3) := by decide +kernel
theorem dX6_transfer_88 : decode cX6_transfer 88 = .ok (.aload_n 0, 1) := by decide +kernel
theorem dX6_transfer_89 : decode cX6_transfer 89 = .ok (.getfield 55, 3) := by decide +kernel
theorem dX6_transfer_92 : decode cX6_transfer 92 = .ok (.iload_n 2, 1) := by decide +kernel
theorem dX6_transfer_93 : decode cX6_transfer 93 = .ok (.invokevirtual 82, 3) := by decide +kernel
theorem dX6_transfer_96 : decode cX6_transfer 96 = .ok (.invokestatic 190, 3) := by decide +kernel
theorem dX6_transfer_99 : decode cX6_transfer 99 = .ok (.invokevirtual 195, 3) := by decide +kernel
theorem dX6_transfer_102 : decode cX6_transfer 102 = .ok (.iload_n 3, 1) := by decide +kernel
theorem dX6_transfer_103 : decode cX6_transfer 103 = .ok (.ireturn, 1) := by decide +kernel
set_option maxRecDepth 20000 in
theorem ggX6_operation_X6_isSite : GoodIn wsX6_operation wsX6_isSite := goodIn_r _ [8, 9, 10, 11, 7, 12, 84, 85, 86, 87, 88, 89, 90, 91, 92] (by decide +kernel) (by decide +kernel)
set_option maxRecDepth 20000 in
theorem gX6_operation_X6_isSite : GoodIn wsX6_operation (wsV RX6 78 RX6 yX6_isSite wsX6_isSite) := goodIn_app (goodIn_of _ (by decide +kernel)) ggX6_operation_X6_isSite
set_option maxRecDepth 20000 in
theorem ggX6_operation_X6_isWithin : GoodIn wsX6_operation wsX6_isWithin := goodIn_r _ [12] (by decide +kernel) (by decide +kernel)
set_option maxRecDepth 20000 in
theorem gX6_operation_X6_isWithin : GoodIn wsX6_operation (va_wsS RX6 63 yX6_isWithin wsX6_isWithin) := goodIn_app (goodIn_of _ (by decide +kernel)) ggX6_operation_X6_isWithin
set_option maxRecDepth 20000 in
theorem ggX6_operation_X4_madeBy : GoodIn wsX6_operation wsX4_madeBy := goodIn_r _ [17, 18, 19, 20, 21, 22, 23, 24, 93, 94, 95, 96, 97, 98, 99, 100, 101] (by decide +kernel) (by decide +kernel)
set_option maxRecDepth 20000 in
theorem gX6_operation_X4_madeBy : GoodIn wsX6_operation (wsV RX6 89 RX4 yX4_madeBy wsX4_madeBy) := goodIn_app (goodIn_of _ (by decide +kernel)) ggX6_operation_X4_madeBy
set_option maxRecDepth 20000 in
theorem ggX6_operation_X6_idOf : GoodIn wsX6_operation wsX6_idOf := goodIn_r _ [27] (by decide +kernel) (by decide +kernel)
set_option maxRecDepth 20000 in
theorem gX6_operation_X6_idOf : GoodIn wsX6_operation (va_wsS RX6 178 yX6_idOf wsX6_idOf) := goodIn_app (goodIn_of _ (by decide +kernel)) ggX6_operation_X6_idOf
set_option maxRecDepth 20000 in
theorem ggX6_operation_X4_kindOf : GoodIn wsX6_operation wsX4_kindOf := goodIn_r _ [31, 32, 19, 20, 21, 22, 23, 24, 93, 94, 95, 96, 97, 98, 99, 100, 101] (by decide +kernel) (by decide +kernel)
set_option maxRecDepth 20000 in
theorem gX6_operation_X4_kindOf : GoodIn wsX6_operation (wsV RX6 198 RX4 yX4_kindOf wsX4_kindOf) := goodIn_app (goodIn_of _ (by decide +kernel)) ggX6_operation_X4_kindOf
set_option maxRecDepth 20000 in
theorem ggX6_operation_X4_timeOf : GoodIn wsX6_operation wsX4_timeOf := goodIn_r _ [36, 37, 19, 20, 21, 22, 23, 24, 93, 94, 95, 96, 97, 98, 99, 100, 101] (by decide +kernel) (by decide +kernel)
set_option maxRecDepth 20000 in
theorem gX6_operation_X4_timeOf : GoodIn wsX6_operation (wsV RX6 201 RX4 yX4_timeOf wsX4_timeOf) := goodIn_app (goodIn_of _ (by decide +kernel)) ggX6_operation_X4_timeOf
set_option maxRecDepth 20000 in
theorem ggX6_operation_X4_sizeOf : GoodIn wsX6_operation wsX4_sizeOf := goodIn_r _ [41, 32, 42, 19, 20, 21, 22, 23, 24, 43, 44, 45, 46, 47, 48, 49, 50, 51, 52, 53, 54, 11, 7, 12, 55, 56, 57, 58, 59, 93, 94, 95, 96, 97, 98, 99, 100, 101, 102, 103, 104, 105, 106] (by decide +kernel) (by decide +kernel)
set_option maxRecDepth 20000 in
theorem gX6_operation_X4_sizeOf : GoodIn wsX6_operation (wsV RX6 187 RX4 yX4_sizeOf wsX4_sizeOf) := goodIn_app (goodIn_of _ (by decide +kernel)) ggX6_operation_X4_sizeOf
set_option maxRecDepth 20000 in
theorem ggX6_operation_X4_isStroke : GoodIn wsX6_operation wsX4_isStroke := goodIn_r _ [63, 32, 19, 20, 21, 22, 23, 24, 93, 94, 95, 96, 97, 98, 99, 100, 101] (by decide +kernel) (by decide +kernel)
set_option maxRecDepth 20000 in
theorem gX6_operation_X4_isStroke : GoodIn wsX6_operation (wsV RX6 204 RX4 yX4_isStroke wsX4_isStroke) := goodIn_app (goodIn_of _ (by decide +kernel)) ggX6_operation_X4_isStroke
set_option maxRecDepth 20000 in
theorem ggX6_operation_X1_pointCount : GoodIn wsX6_operation wsX1_pointCount := goodIn_r _ [67, 48, 49, 20, 21, 22, 23, 24, 102, 103, 104, 105, 106, 101] (by decide +kernel) (by decide +kernel)
set_option maxRecDepth 20000 in
theorem gX6_operation_X1_pointCount : GoodIn wsX6_operation (wsV RX6 100 RX1 yX1_pointCount wsX1_pointCount) := goodIn_app (goodIn_of _ (by decide +kernel)) ggX6_operation_X1_pointCount
set_option maxRecDepth 20000 in
theorem ggX6_operation_X4_targetOf : GoodIn wsX6_operation wsX4_targetOf := goodIn_r _ [71, 72, 19, 20, 21, 22, 23, 24, 93, 94, 95, 96, 97, 98, 99, 100, 101] (by decide +kernel) (by decide +kernel)
set_option maxRecDepth 20000 in
theorem gX6_operation_X4_targetOf : GoodIn wsX6_operation (wsV RX6 210 RX4 yX4_targetOf wsX4_targetOf) := goodIn_app (goodIn_of _ (by decide +kernel)) ggX6_operation_X4_targetOf
set_option maxRecDepth 20000 in
theorem ggX6_operation_X6_numberOf : GoodIn wsX6_operation wsX6_numberOf := goodIn_r _ [75] (by decide +kernel) (by decide +kernel)
set_option maxRecDepth 20000 in
theorem gX6_operation_X6_numberOf : GoodIn wsX6_operation (va_wsS RX6 135 yX6_numberOf wsX6_numberOf) := goodIn_app (goodIn_of _ (by decide +kernel)) ggX6_operation_X6_numberOf
set_option maxRecDepth 20000 in
theorem ggX6_operation_X6_authorOf : GoodIn wsX6_operation wsX6_authorOf := goodIn_r _ [78] (by decide +kernel) (by decide +kernel)
set_option maxRecDepth 20000 in
theorem gX6_operation_X6_authorOf : GoodIn wsX6_operation (va_wsS RX6 172 yX6_authorOf wsX6_authorOf) := goodIn_app (goodIn_of _ (by decide +kernel)) ggX6_operation_X6_authorOf
set_option maxRecDepth 20000 in
theorem ggX6_operation_X4_layerOf : GoodIn wsX6_operation wsX4_layerOf := goodIn_r _ [82, 83, 19, 20, 21, 22, 23, 24, 93, 94, 95, 96, 97, 98, 99, 100, 101] (by decide +kernel) (by decide +kernel)
set_option maxRecDepth 20000 in
theorem gX6_operation_X4_layerOf : GoodIn wsX6_operation (wsV RX6 213 RX4 yX4_layerOf wsX4_layerOf) := goodIn_app (goodIn_of _ (by decide +kernel)) ggX6_operation_X4_layerOf
theorem dX6_operation_0 : decode cX6_operation 0 = .ok (.aload_n 0, 1) := by decide +kernel
theorem dX6_operation_1 : decode cX6_operation 1 = .ok (.iload_n 1, 1) := by decide +kernel
theorem dX6_operation_2 : decode cX6_operation 2 = .ok (.invokevirtual 78, 3) := by decide +kernel
theorem dX6_operation_5 : decode cX6_operation 5 = .ok (.ifCond .eq 17, 3) := by decide +kernel
theorem dX6_operation_8 : decode cX6_operation 8 = .ok (.iload_n 2, 1) := by decide +kernel
theorem dX6_operation_9 : decode cX6_operation 9 = .ok (.iconst 1, 1) := by decide +kernel
theorem dX6_operation_10 : decode cX6_operation 10 = .ok (.if_icmp .lt 12, 3) := by decide +kernel
theorem dX6_operation_13 : decode cX6_operation 13 = .ok (.iload_n 3, 1) := by decide +kernel
theorem dX6_operation_14 : decode cX6_operation 14 = .ok (.iconst 0, 1) := by decide +kernel
theorem dX6_operation_15 : decode cX6_operation 15 = .ok (.iconst 5, 1) := by decide +kernel
theorem dX6_operation_16 : decode cX6_operation 16 = .ok (.invokestatic 63, 3) := by decide +kernel
theorem dX6_operation_19 : decode cX6_operation 19 = .ok (.ifCond .ne 6, 3) := by decide +kernel
theorem dX6_operation_22 : decode cX6_operation 22 = .ok (.ldc 67, 2) := by decide +kernel
theorem dX6_operation_24 : decode cX6_operation 24 = .ok (.ireturn, 1) := by decide +kernel
theorem dX6_operation_25 : decode cX6_operation 25 = .ok (.iload_n 2, 1) := by decide +kernel
theorem dX6_operation_26 : decode cX6_operation 26 = .ok (.aload_n 0, 1) := by decide +kernel
theorem dX6_operation_27 : decode cX6_operation 27 = .ok (.getfield 12, 3) := by decide +kernel
theorem dX6_operation_30 : decode cX6_operation 30 = .ok (.iload_n 1, 1) := by decide +kernel
theorem dX6_operation_31 : decode cX6_operation 31 = .ok (.invokevirtual 89, 3) := by decide +kernel
theorem dX6_operation_34 : decode cX6_operation 34 = .ok (.if_icmp .le 6, 3) := by decide +kernel
theorem dX6_operation_37 : decode cX6_operation 37 = .ok (.ldc 162, 2) := by decide +kernel
theorem dX6_operation_39 : decode cX6_operation 39 = .ok (.ireturn, 1) := by decide +kernel
theorem dX6_operation_40 : decode cX6_operation 40 = .ok (.iload_n 1, 1) := by decide +kernel
theorem dX6_operation_41 : decode cX6_operation 41 = .ok (.iload_n 2, 1) := by decide +kernel
theorem dX6_operation_42 : decode cX6_operation 42 = .ok (.invokestatic 178, 3) := by decide +kernel
theorem dX6_operation_45 : decode cX6_operation 45 = .ok (.istore 4, 2) := by decide +kernel
theorem dX6_operation_47 : decode cX6_operation 47 = .ok (.iload_n 3, 1) := by decide +kernel
theorem dX6_operation_48 : decode cX6_operation 48 = .ok (.tableswitch 136 0 4 #[36, 46, 56, 66, 106], 36) := by decide +kernel
theorem dX6_operation_84 : decode cX6_operation 84 = .ok (.aload_n 0, 1) := by decide +kernel
theorem dX6_operation_85 : decode cX6_operation 85 = .ok (.getfield 12, 3) := by decide +kernel
theorem dX6_operation_88 : decode cX6_operation 88 = .ok (.iload 4, 2) := by decide +kernel
theorem dX6_operation_90 : decode cX6_operation 90 = .ok (.invokevirtual 198, 3) := by decide +kernel
theorem dX6_operation_93 : decode cX6_operation 93 = .ok (.ireturn, 1) := by decide +kernel
theorem dX6_operation_94 : decode cX6_operation 94 = .ok (.aload_n 0, 1) := by decide +kernel
theorem dX6_operation_95 : decode cX6_operation 95 = .ok (.getfield 12, 3) := by decide +kernel
theorem dX6_operation_98 : decode cX6_operation 98 = .ok (.iload 4, 2) := by decide +kernel
theorem dX6_operation_100 : decode cX6_operation 100 = .ok (.invokevirtual 201, 3) := by decide +kernel
theorem dX6_operation_103 : decode cX6_operation 103 = .ok (.ireturn, 1) := by decide +kernel
theorem dX6_operation_104 : decode cX6_operation 104 = .ok (.aload_n 0, 1) := by decide +kernel
theorem dX6_operation_105 : decode cX6_operation 105 = .ok (.getfield 12, 3) := by decide +kernel
theorem dX6_operation_108 : decode cX6_operation 108 = .ok (.iload 4, 2) := by decide +kernel
theorem dX6_operation_110 : decode cX6_operation 110 = .ok (.invokevirtual 187, 3) := by decide +kernel
theorem dX6_operation_113 : decode cX6_operation 113 = .ok (.ireturn, 1) := by decide +kernel
theorem dX6_operation_114 : decode cX6_operation 114 = .ok (.aload_n 0, 1) := by decide +kernel
theorem dX6_operation_115 : decode cX6_operation 115 = .ok (.getfield 12, 3) := by decide +kernel
theorem dX6_operation_118 : decode cX6_operation 118 = .ok (.iload 4, 2) := by decide +kernel
theorem dX6_operation_120 : decode cX6_operation 120 = .ok (.invokevirtual 204, 3) := by decide +kernel
theorem dX6_operation_123 : decode cX6_operation 123 = .ok (.ifCond .eq 18, 3) := by decide +kernel
theorem dX6_operation_126 : decode cX6_operation 126 = .ok (.aload_n 0, 1) := by decide +kernel
theorem dX6_operation_127 : decode cX6_operation 127 = .ok (.getfield 12, 3) := by decide +kernel
theorem dX6_operation_130 : decode cX6_operation 130 = .ok (.getfield 207, 3) := by decide +kernel
theorem dX6_operation_133 : decode cX6_operation 133 = .ok (.iload 4, 2) := by decide +kernel
theorem dX6_operation_135 : decode cX6_operation 135 = .ok (.invokevirtual 100, 3) := by decide +kernel
theorem dX6_operation_138 : decode cX6_operation 138 = .ok (.goto 15, 3) := by decide +kernel
theorem dX6_operation_141 : decode cX6_operation 141 = .ok (.aload_n 0, 1) := by decide +kernel
theorem dX6_operation_142 : decode cX6_operation 142 = .ok (.getfield 12, 3) := by decide +kernel
theorem dX6_operation_145 : decode cX6_operation 145 = .ok (.iload 4, 2) := by decide +kernel
theorem dX6_operation_147 : decode cX6_operation 147 = .ok (.invokevirtual 210, 3) := by decide +kernel
theorem dX6_operation_150 : decode cX6_operation 150 = .ok (.invokestatic 135, 3) := by decide +kernel
theorem dX6_operation_153 : decode cX6_operation 153 = .ok (.ireturn, 1) := by decide +kernel
theorem dX6_operation_154 : decode cX6_operation 154 = .ok (.aload_n 0, 1) := by decide +kernel
theorem dX6_operation_155 : decode cX6_operation 155 = .ok (.getfield 12, 3) := by decide +kernel
theorem dX6_operation_158 : decode cX6_operation 158 = .ok (.iload 4, 2) := by decide +kernel
theorem dX6_operation_160 : decode cX6_operation 160 = .ok (.invokevirtual 198, 3) := by decide +kernel
theorem dX6_operation_163 : decode cX6_operation 163 = .ok (.iconst 3, 1) := by decide +kernel
theorem dX6_operation_164 : decode cX6_operation 164 = .ok (.if_icmp .ne 18, 3) := by decide +kernel
theorem dX6_operation_167 : decode cX6_operation 167 = .ok (.aload_n 0, 1) := by decide +kernel
theorem dX6_operation_168 : decode cX6_operation 168 = .ok (.getfield 12, 3) := by decide +kernel
theorem dX6_operation_171 : decode cX6_operation 171 = .ok (.iload 4, 2) := by decide +kernel
theorem dX6_operation_173 : decode cX6_operation 173 = .ok (.invokevirtual 210, 3) := by decide +kernel
theorem dX6_operation_176 : decode cX6_operation 176 = .ok (.invokestatic 172, 3) := by decide +kernel
theorem dX6_operation_179 : decode cX6_operation 179 = .ok (.goto 4, 3) := by decide +kernel
theorem dX6_operation_182 : decode cX6_operation 182 = .ok (.iload_n 1, 1) := by decide +kernel
theorem dX6_operation_183 : decode cX6_operation 183 = .ok (.ireturn, 1) := by decide +kernel
theorem dX6_operation_184 : decode cX6_operation 184 = .ok (.aload_n 0, 1) := by decide +kernel
theorem dX6_operation_185 : decode cX6_operation 185 = .ok (.getfield 12, 3) := by decide +kernel
theorem dX6_operation_188 : decode cX6_operation 188 = .ok (.iload 4, 2) := by decide +kernel
theorem dX6_operation_190 : decode cX6_operation 190 = .ok (.invokevirtual 213, 3) := by decide +kernel
theorem dX6_operation_193 : decode cX6_operation 193 = .ok (.ireturn, 1) := by decide +kernel
set_option maxRecDepth 20000 in
theorem ggX6_knows_X6_isSite : GoodIn wsX6_knows wsX6_isSite := goodIn_r _ [9, 10, 11, 12, 8, 13, 36, 37, 38, 39, 40, 41, 42, 43, 44] (by decide +kernel) (by decide +kernel)
set_option maxRecDepth 20000 in
theorem gX6_knows_X6_isSite : GoodIn wsX6_knows (wsV RX6 78 RX6 yX6_isSite wsX6_isSite) := goodIn_app (goodIn_of _ (by decide +kernel)) ggX6_knows_X6_isSite
set_option maxRecDepth 20000 in
theorem ggX6_knows_X4_madeBy : GoodIn wsX6_knows wsX4_madeBy := goodIn_r _ [18, 19, 20, 21, 22, 23, 24, 25, 45, 46, 47, 48, 49, 50, 51, 52, 53] (by decide +kernel) (by decide +kernel)
set_option maxRecDepth 20000 in
theorem gX6_knows_X4_madeBy : GoodIn wsX6_knows (wsV RX6 89 RX4 yX4_madeBy wsX4_madeBy) := goodIn_app (goodIn_of _ (by decide +kernel)) ggX6_knows_X4_madeBy
set_option maxRecDepth 20000 in
theorem ggX6_knows_X6_idOf : GoodIn wsX6_knows wsX6_idOf := goodIn_r _ [28] (by decide +kernel) (by decide +kernel)
set_option maxRecDepth 20000 in
theorem gX6_knows_X6_idOf : GoodIn wsX6_knows (va_wsS RX6 178 yX6_idOf wsX6_idOf) := goodIn_app (goodIn_of _ (by decide +kernel)) ggX6_knows_X6_idOf
set_option maxRecDepth 20000 in
theorem ggX6_knows_X2_has : GoodIn wsX6_knows wsX2_has := goodIn_r _ [33, 34, 35, 21, 22, 23, 24, 25, 54, 53] (by decide +kernel) (by decide +kernel)
set_option maxRecDepth 20000 in
theorem gX6_knows_X2_has : GoodIn wsX6_knows (wsV RX6 181 RX2 yX2_has wsX2_has) := goodIn_app (goodIn_of _ (by decide +kernel)) ggX6_knows_X2_has
theorem dX6_knows_0 : decode cX6_knows 0 = .ok (.aload_n 0, 1) := by decide +kernel
theorem dX6_knows_1 : decode cX6_knows 1 = .ok (.iload_n 1, 1) := by decide +kernel
theorem dX6_knows_2 : decode cX6_knows 2 = .ok (.invokevirtual 78, 3) := by decide +kernel
theorem dX6_knows_5 : decode cX6_knows 5 = .ok (.ifCond .eq 16, 3) := by decide +kernel
theorem dX6_knows_8 : decode cX6_knows 8 = .ok (.aload_n 0, 1) := by decide +kernel
theorem dX6_knows_9 : decode cX6_knows 9 = .ok (.iload_n 2, 1) := by decide +kernel

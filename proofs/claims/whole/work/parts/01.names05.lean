set_option maxRecDepth 20000 in
theorem gX7_repair_X7_learns : GoodIn wsX7_repair (wsV RX7 113 RX7 yX7_learns wsX7_learns) := goodIn_app (goodIn_of _ (by decide +kernel)) ggX7_repair_X7_learns
theorem dX7_repair_0 : decode cX7_repair 0 = .ok (.aload_n 0, 1) := by decide +kernel
theorem dX7_repair_1 : decode cX7_repair 1 = .ok (.iload_n 1, 1) := by decide +kernel
theorem dX7_repair_2 : decode cX7_repair 2 = .ok (.iload_n 2, 1) := by decide +kernel
theorem dX7_repair_3 : decode cX7_repair 3 = .ok (.invokevirtual 106, 3) := by decide +kernel
theorem dX7_repair_6 : decode cX7_repair 6 = .ok (.ifCond .ne 6, 3) := by decide +kernel
theorem dX7_repair_9 : decode cX7_repair 9 = .ok (.ldc 89, 2) := by decide +kernel
theorem dX7_repair_11 : decode cX7_repair 11 = .ok (.ireturn, 1) := by decide +kernel
theorem dX7_repair_12 : decode cX7_repair 12 = .ok (.iconst 0, 1) := by decide +kernel
theorem dX7_repair_13 : decode cX7_repair 13 = .ok (.istore_n 3, 1) := by decide +kernel
theorem dX7_repair_14 : decode cX7_repair 14 = .ok (.iconst 0, 1) := by decide +kernel
theorem dX7_repair_15 : decode cX7_repair 15 = .ok (.istore 4, 2) := by decide +kernel
theorem dX7_repair_17 : decode cX7_repair 17 = .ok (.iload 4, 2) := by decide +kernel
theorem dX7_repair_19 : decode cX7_repair 19 = .ok (.bipush 100, 2) := by decide +kernel
theorem dX7_repair_21 : decode cX7_repair 21 = .ok (.if_icmp .ge 30, 3) := by decide +kernel
theorem dX7_repair_24 : decode cX7_repair 24 = .ok (.aload_n 0, 1) := by decide +kernel
theorem dX7_repair_25 : decode cX7_repair 25 = .ok (.iload_n 1, 1) := by decide +kernel
theorem dX7_repair_26 : decode cX7_repair 26 = .ok (.iload_n 2, 1) := by decide +kernel
theorem dX7_repair_27 : decode cX7_repair 27 = .ok (.iload 4, 2) := by decide +kernel
theorem dX7_repair_29 : decode cX7_repair 29 = .ok (.invokevirtual 120, 3) := by decide +kernel
theorem dX7_repair_32 : decode cX7_repair 32 = .ok (.ifCond .eq 13, 3) := by decide +kernel
theorem dX7_repair_35 : decode cX7_repair 35 = .ok (.aload_n 0, 1) := by decide +kernel
theorem dX7_repair_36 : decode cX7_repair 36 = .ok (.iload_n 1, 1) := by decide +kernel
theorem dX7_repair_37 : decode cX7_repair 37 = .ok (.iload 4, 2) := by decide +kernel
theorem dX7_repair_39 : decode cX7_repair 39 = .ok (.invokevirtual 113, 3) := by decide +kernel
theorem dX7_repair_42 : decode cX7_repair 42 = .ok (.iinc 3 1, 3) := by decide +kernel
theorem dX7_repair_45 : decode cX7_repair 45 = .ok (.iinc 4 1, 3) := by decide +kernel
theorem dX7_repair_48 : decode cX7_repair 48 = .ok (.goto (-31), 3) := by decide +kernel
theorem dX7_repair_51 : decode cX7_repair 51 = .ok (.iload_n 3, 1) := by decide +kernel
theorem dX7_repair_52 : decode cX7_repair 52 = .ok (.ireturn, 1) := by decide +kernel
set_option maxRecDepth 20000 in
theorem ggX7_sizeOf_X7_of : GoodIn wsX7_sizeOf wsX7_of := goodIn_r _ [5, 6, 10, 11, 12, 13, 14, 15, 16, 17, 18, 19, 20, 21, 22, 23] (by decide +kernel) (by decide +kernel)
set_option maxRecDepth 20000 in
theorem gX7_sizeOf_X7_of : GoodIn wsX7_sizeOf (wsV RX7 58 RX7 yX7_of wsX7_of) := goodIn_app (goodIn_of _ (by decide +kernel)) ggX7_sizeOf_X7_of
set_option maxRecDepth 20000 in
theorem ggX7_sizeOf_X7_in : GoodIn wsX7_sizeOf wsX7_in := goodIn_r _ [9] (by decide +kernel) (by decide +kernel)
set_option maxRecDepth 20000 in
theorem gX7_sizeOf_X7_in : GoodIn wsX7_sizeOf (va_wsS RX7 50 yX7_in wsX7_in) := goodIn_app (goodIn_of _ (by decide +kernel)) ggX7_sizeOf_X7_in
theorem dX7_sizeOf_0 : decode cX7_sizeOf 0 = .ok (.aload_n 0, 1) := by decide +kernel
theorem dX7_sizeOf_1 : decode cX7_sizeOf 1 = .ok (.iload_n 1, 1) := by decide +kernel
theorem dX7_sizeOf_2 : decode cX7_sizeOf 2 = .ok (.iconst 0, 1) := by decide +kernel
theorem dX7_sizeOf_3 : decode cX7_sizeOf 3 = .ok (.invokevirtual 58, 3) := by decide +kernel
theorem dX7_sizeOf_6 : decode cX7_sizeOf 6 = .ok (.ifCond .eq 19, 3) := by decide +kernel
theorem dX7_sizeOf_9 : decode cX7_sizeOf 9 = .ok (.aload_n 0, 1) := by decide +kernel
theorem dX7_sizeOf_10 : decode cX7_sizeOf 10 = .ok (.iload_n 1, 1) := by decide +kernel
theorem dX7_sizeOf_11 : decode cX7_sizeOf 11 = .ok (.iconst 0, 1) := by decide +kernel
theorem dX7_sizeOf_12 : decode cX7_sizeOf 12 = .ok (.invokevirtual 58, 3) := by decide +kernel
theorem dX7_sizeOf_15 : decode cX7_sizeOf 15 = .ok (.iconst 3, 1) := by decide +kernel
theorem dX7_sizeOf_16 : decode cX7_sizeOf 16 = .ok (.if_icmp .ne 7, 3) := by decide +kernel
theorem dX7_sizeOf_19 : decode cX7_sizeOf 19 = .ok (.iconst 4, 1) := by decide +kernel
theorem dX7_sizeOf_20 : decode cX7_sizeOf 20 = .ok (.goto 4, 3) := by decide +kernel
theorem dX7_sizeOf_23 : decode cX7_sizeOf 23 = .ok (.iconst 3, 1) := by decide +kernel
theorem dX7_sizeOf_24 : decode cX7_sizeOf 24 = .ok (.ireturn, 1) := by decide +kernel
theorem dX7_sizeOf_25 : decode cX7_sizeOf 25 = .ok (.iconst 4, 1) := by decide +kernel
theorem dX7_sizeOf_26 : decode cX7_sizeOf 26 = .ok (.istore_n 2, 1) := by decide +kernel
theorem dX7_sizeOf_27 : decode cX7_sizeOf 27 = .ok (.iconst 1, 1) := by decide +kernel
theorem dX7_sizeOf_28 : decode cX7_sizeOf 28 = .ok (.istore_n 3, 1) := by decide +kernel
theorem dX7_sizeOf_29 : decode cX7_sizeOf 29 = .ok (.iload_n 3, 1) := by decide +kernel
theorem dX7_sizeOf_30 : decode cX7_sizeOf 30 = .ok (.aload_n 0, 1) := by decide +kernel
theorem dX7_sizeOf_31 : decode cX7_sizeOf 31 = .ok (.iload_n 1, 1) := by decide +kernel
theorem dX7_sizeOf_32 : decode cX7_sizeOf 32 = .ok (.iconst 4, 1) := by decide +kernel
theorem dX7_sizeOf_33 : decode cX7_sizeOf 33 = .ok (.invokevirtual 58, 3) := by decide +kernel
theorem dX7_sizeOf_36 : decode cX7_sizeOf 36 = .ok (.if_icmp .ge 91, 3) := by decide +kernel
theorem dX7_sizeOf_39 : decode cX7_sizeOf 39 = .ok (.aload_n 0, 1) := by decide +kernel
theorem dX7_sizeOf_40 : decode cX7_sizeOf 40 = .ok (.iload_n 1, 1) := by decide +kernel
theorem dX7_sizeOf_41 : decode cX7_sizeOf 41 = .ok (.iconst 5, 1) := by decide +kernel
theorem dX7_sizeOf_42 : decode cX7_sizeOf 42 = .ok (.iconst 2, 1) := by decide +kernel
theorem dX7_sizeOf_43 : decode cX7_sizeOf 43 = .ok (.iload_n 3, 1) := by decide +kernel
theorem dX7_sizeOf_44 : decode cX7_sizeOf 44 = .ok (.imul, 1) := by decide +kernel
theorem dX7_sizeOf_45 : decode cX7_sizeOf 45 = .ok (.iadd, 1) := by decide +kernel
theorem dX7_sizeOf_46 : decode cX7_sizeOf 46 = .ok (.invokevirtual 58, 3) := by decide +kernel
theorem dX7_sizeOf_49 : decode cX7_sizeOf 49 = .ok (.aload_n 0, 1) := by decide +kernel
theorem dX7_sizeOf_50 : decode cX7_sizeOf 50 = .ok (.iload_n 1, 1) := by decide +kernel
theorem dX7_sizeOf_51 : decode cX7_sizeOf 51 = .ok (.iconst 5, 1) := by decide +kernel
theorem dX7_sizeOf_52 : decode cX7_sizeOf 52 = .ok (.iconst 2, 1) := by decide +kernel
theorem dX7_sizeOf_53 : decode cX7_sizeOf 53 = .ok (.iload_n 3, 1) := by decide +kernel
theorem dX7_sizeOf_54 : decode cX7_sizeOf 54 = .ok (.imul, 1) := by decide +kernel
theorem dX7_sizeOf_55 : decode cX7_sizeOf 55 = .ok (.iadd, 1) := by decide +kernel
theorem dX7_sizeOf_56 : decode cX7_sizeOf 56 = .ok (.iconst 2, 1) := by decide +kernel
theorem dX7_sizeOf_57 : decode cX7_sizeOf 57 = .ok (.isub, 1) := by decide +kernel
theorem dX7_sizeOf_58 : decode cX7_sizeOf 58 = .ok (.invokevirtual 58, 3) := by decide +kernel
theorem dX7_sizeOf_61 : decode cX7_sizeOf 61 = .ok (.isub, 1) := by decide +kernel
theorem dX7_sizeOf_62 : decode cX7_sizeOf 62 = .ok (.istore 4, 2) := by decide +kernel
theorem dX7_sizeOf_64 : decode cX7_sizeOf 64 = .ok (.aload_n 0, 1) := by decide +kernel
theorem dX7_sizeOf_65 : decode cX7_sizeOf 65 = .ok (.iload_n 1, 1) := by decide +kernel
theorem dX7_sizeOf_66 : decode cX7_sizeOf 66 = .ok (.iconst 5, 1) := by decide +kernel
theorem dX7_sizeOf_67 : decode cX7_sizeOf 67 = .ok (.iconst 2, 1) := by decide +kernel
theorem dX7_sizeOf_68 : decode cX7_sizeOf 68 = .ok (.iload_n 3, 1) := by decide +kernel
theorem dX7_sizeOf_69 : decode cX7_sizeOf 69 = .ok (.imul, 1) := by decide +kernel
theorem dX7_sizeOf_70 : decode cX7_sizeOf 70 = .ok (.iadd, 1) := by decide +kernel
theorem dX7_sizeOf_71 : decode cX7_sizeOf 71 = .ok (.iconst 1, 1) := by decide +kernel
theorem dX7_sizeOf_72 : decode cX7_sizeOf 72 = .ok (.iadd, 1) := by decide +kernel
theorem dX7_sizeOf_73 : decode cX7_sizeOf 73 = .ok (.invokevirtual 58, 3) := by decide +kernel
theorem dX7_sizeOf_76 : decode cX7_sizeOf 76 = .ok (.aload_n 0, 1) := by decide +kernel
theorem dX7_sizeOf_77 : decode cX7_sizeOf 77 = .ok (.iload_n 1, 1) := by decide +kernel
theorem dX7_sizeOf_78 : decode cX7_sizeOf 78 = .ok (.iconst 5, 1) := by decide +kernel
theorem dX7_sizeOf_79 : decode cX7_sizeOf 79 = .ok (.iconst 2, 1) := by decide +kernel
theorem dX7_sizeOf_80 : decode cX7_sizeOf 80 = .ok (.iload_n 3, 1) := by decide +kernel
theorem dX7_sizeOf_81 : decode cX7_sizeOf 81 = .ok (.imul, 1) := by decide +kernel
theorem dX7_sizeOf_82 : decode cX7_sizeOf 82 = .ok (.iadd, 1) := by decide +kernel
theorem dX7_sizeOf_83 : decode cX7_sizeOf 83 = .ok (.iconst 1, 1) := by decide +kernel
theorem dX7_sizeOf_84 : decode cX7_sizeOf 84 = .ok (.isub, 1) := by decide +kernel
theorem dX7_sizeOf_85 : decode cX7_sizeOf 85 = .ok (.invokevirtual 58, 3) := by decide +kernel
theorem dX7_sizeOf_88 : decode cX7_sizeOf 88 = .ok (.isub, 1) := by decide +kernel
theorem dX7_sizeOf_89 : decode cX7_sizeOf 89 = .ok (.istore 5, 2) := by decide +kernel
theorem dX7_sizeOf_91 : decode cX7_sizeOf 91 = .ok (.iload_n 2, 1) := by decide +kernel
theorem dX7_sizeOf_92 : decode cX7_sizeOf 92 = .ok (.iload 4, 2) := by decide +kernel
theorem dX7_sizeOf_94 : decode cX7_sizeOf 94 = .ok (.bipush (-4), 2) := by decide +kernel
theorem dX7_sizeOf_96 : decode cX7_sizeOf 96 = .ok (.iconst 3, 1) := by decide +kernel
theorem dX7_sizeOf_97 : decode cX7_sizeOf 97 = .ok (.invokestatic 50, 3) := by decide +kernel
theorem dX7_sizeOf_100 : decode cX7_sizeOf 100 = .ok (.ifCond .eq 18, 3) := by decide +kernel
theorem dX7_sizeOf_103 : decode cX7_sizeOf 103 = .ok (.iload 5, 2) := by decide +kernel
theorem dX7_sizeOf_105 : decode cX7_sizeOf 105 = .ok (.bipush (-4), 2) := by decide +kernel
theorem dX7_sizeOf_107 : decode cX7_sizeOf 107 = .ok (.iconst 3, 1) := by decide +kernel
theorem dX7_sizeOf_108 : decode cX7_sizeOf 108 = .ok (.invokestatic 50, 3) := by decide +kernel
theorem dX7_sizeOf_111 : decode cX7_sizeOf 111 = .ok (.ifCond .eq 7, 3) := by decide +kernel
theorem dX7_sizeOf_114 : decode cX7_sizeOf 114 = .ok (.iconst 1, 1) := by decide +kernel
theorem dX7_sizeOf_115 : decode cX7_sizeOf 115 = .ok (.goto 4, 3) := by decide +kernel
theorem dX7_sizeOf_118 : decode cX7_sizeOf 118 = .ok (.iconst 2, 1) := by decide +kernel
theorem dX7_sizeOf_119 : decode cX7_sizeOf 119 = .ok (.iadd, 1) := by decide +kernel
theorem dX7_sizeOf_120 : decode cX7_sizeOf 120 = .ok (.istore_n 2, 1) := by decide +kernel
theorem dX7_sizeOf_121 : decode cX7_sizeOf 121 = .ok (.iinc 3 1, 3) := by decide +kernel
theorem dX7_sizeOf_124 : decode cX7_sizeOf 124 = .ok (.goto (-95), 3) := by decide +kernel
theorem dX7_sizeOf_127 : decode cX7_sizeOf 127 = .ok (.iload_n 2, 1) := by decide +kernel
theorem dX7_sizeOf_128 : decode cX7_sizeOf 128 = .ok (.ireturn, 1) := by decide +kernel
set_option maxRecDepth 20000 in
theorem ggX7_transfer_X7_isPair : GoodIn wsX7_transfer wsX7_isPair := goodIn_r _ [7, 8, 9, 10, 6, 11, 12, 13, 14, 15, 34, 35, 36, 37, 38, 39, 40, 41, 42, 43, 44, 45, 46, 47] (by decide +kernel) (by decide +kernel)
set_option maxRecDepth 20000 in
theorem gX7_transfer_X7_isPair : GoodIn wsX7_transfer (wsV RX7 106 RX7 yX7_isPair wsX7_isPair) := goodIn_app (goodIn_of _ (by decide +kernel)) ggX7_transfer_X7_isPair
set_option maxRecDepth 20000 in
theorem ggX7_transfer_X7_doesKnow : GoodIn wsX7_transfer wsX7_doesKnow := goodIn_r _ [19, 20, 34, 35, 36, 37, 38, 39, 40, 41, 42, 43, 44, 45, 46, 47] (by decide +kernel) (by decide +kernel)
set_option maxRecDepth 20000 in
theorem gX7_transfer_X7_doesKnow : GoodIn wsX7_transfer (wsV RX7 65 RX7 yX7_doesKnow wsX7_doesKnow) := goodIn_app (goodIn_of _ (by decide +kernel)) ggX7_transfer_X7_doesKnow
set_option maxRecDepth 20000 in
theorem ggX7_transfer_X7_learns : GoodIn wsX7_transfer wsX7_learns := goodIn_r _ [24, 20, 2, 25, 26, 27, 6, 28, 29, 34, 35, 36, 37, 38, 39, 40, 41, 42, 43, 44, 45, 46, 47] (by decide +kernel) (by decide +kernel)
set_option maxRecDepth 20000 in
theorem gX7_transfer_X7_learns : GoodIn wsX7_transfer (wsV RX7 113 RX7 yX7_learns wsX7_learns) := goodIn_app (goodIn_of _ (by decide +kernel)) ggX7_transfer_X7_learns
set_option maxRecDepth 20000 in
theorem ggX7_transfer_X7_sizeOf : GoodIn wsX7_transfer wsX7_sizeOf := goodIn_r _ [33, 25, 26, 27, 6, 28, 29, 13, 14, 15, 34, 35, 36, 37, 38, 39, 40, 41, 42, 43, 44, 45, 46, 47] (by decide +kernel) (by decide +kernel)
set_option maxRecDepth 20000 in
theorem gX7_transfer_X7_sizeOf : GoodIn wsX7_transfer (wsV RX7 123 RX7 yX7_sizeOf wsX7_sizeOf) := goodIn_app (goodIn_of _ (by decide +kernel)) ggX7_transfer_X7_sizeOf
theorem dX7_transfer_0 : decode cX7_transfer 0 = .ok (.aload_n 0, 1) := by decide +kernel
theorem dX7_transfer_1 : decode cX7_transfer 1 = .ok (.iload_n 1, 1) := by decide +kernel
theorem dX7_transfer_2 : decode cX7_transfer 2 = .ok (.iload_n 2, 1) := by decide +kernel
theorem dX7_transfer_3 : decode cX7_transfer 3 = .ok (.invokevirtual 106, 3) := by decide +kernel
theorem dX7_transfer_6 : decode cX7_transfer 6 = .ok (.ifCond .ne 6, 3) := by decide +kernel
theorem dX7_transfer_9 : decode cX7_transfer 9 = .ok (.ldc 89, 2) := by decide +kernel
theorem dX7_transfer_11 : decode cX7_transfer 11 = .ok (.ireturn, 1) := by decide +kernel
theorem dX7_transfer_12 : decode cX7_transfer 12 = .ok (.iconst 0, 1) := by decide +kernel
theorem dX7_transfer_13 : decode cX7_transfer 13 = .ok (.istore_n 3, 1) := by decide +kernel
theorem dX7_transfer_14 : decode cX7_transfer 14 = .ok (.iconst 0, 1) := by decide +kernel
theorem dX7_transfer_15 : decode cX7_transfer 15 = .ok (.istore 4, 2) := by decide +kernel
theorem dX7_transfer_17 : decode cX7_transfer 17 = .ok (.iload 4, 2) := by decide +kernel
theorem dX7_transfer_19 : decode cX7_transfer 19 = .ok (.bipush 100, 2) := by decide +kernel
theorem dX7_transfer_21 : decode cX7_transfer 21 = .ok (.if_icmp .ge 45, 3) := by decide +kernel
theorem dX7_transfer_24 : decode cX7_transfer 24 = .ok (.aload_n 0, 1) := by decide +kernel
theorem dX7_transfer_25 : decode cX7_transfer 25 = .ok (.iload_n 2, 1) := by decide +kernel
theorem dX7_transfer_26 : decode cX7_transfer 26 = .ok (.iload 4, 2) := by decide +kernel
theorem dX7_transfer_28 : decode cX7_transfer 28 = .ok (.invokevirtual 65, 3) := by decide +kernel
theorem dX7_transfer_31 : decode cX7_transfer 31 = .ok (.ifCond .eq 29, 3) := by decide +kernel
theorem dX7_transfer_34 : decode cX7_transfer 34 = .ok (.aload_n 0, 1) := by decide +kernel
theorem dX7_transfer_35 : decode cX7_transfer 35 = .ok (.iload_n 1, 1) := by decide +kernel
theorem dX7_transfer_36 : decode cX7_transfer 36 = .ok (.iload 4, 2) := by decide +kernel
theorem dX7_transfer_38 : decode cX7_transfer 38 = .ok (.invokevirtual 65, 3) := by decide +kernel
theorem dX7_transfer_41 : decode cX7_transfer 41 = .ok (.ifCond .ne 19, 3) := by decide +kernel
theorem dX7_transfer_44 : decode cX7_transfer 44 = .ok (.aload_n 0, 1) := by decide +kernel
theorem dX7_transfer_45 : decode cX7_transfer 45 = .ok (.iload_n 1, 1) := by decide +kernel
theorem dX7_transfer_46 : decode cX7_transfer 46 = .ok (.iload 4, 2) := by decide +kernel
theorem dX7_transfer_48 : decode cX7_transfer 48 = .ok (.invokevirtual 113, 3) := by decide +kernel
theorem dX7_transfer_51 : decode cX7_transfer 51 = .ok (.iload_n 3, 1) := by decide +kernel
theorem dX7_transfer_52 : decode cX7_transfer 52 = .ok (.aload_n 0, 1) := by decide +kernel
theorem dX7_transfer_53 : decode cX7_transfer 53 = .ok (.iload 4, 2) := by decide +kernel
theorem dX7_transfer_55 : decode cX7_transfer 55 = .ok (.invokevirtual 123, 3) := by decide +kernel
theorem dX7_transfer_58 : decode cX7_transfer 58 = .ok (.iadd, 1) := by decide +kernel
theorem dX7_transfer_59 : decode cX7_transfer 59 = .ok (.istore_n 3, 1) := by decide +kernel
theorem dX7_transfer_60 : decode cX7_transfer 60 = .ok (.iinc 4 1, 3) := by decide +kernel
theorem dX7_transfer_63 : decode cX7_transfer 63 = .ok (.goto (-46), 3) := by decide +kernel
theorem dX7_transfer_66 : decode cX7_transfer 66 = .ok (.aload_n 0, 1) := by decide +kernel
theorem dX7_transfer_67 : decode cX7_transfer 67 = .ok (.getfield 20, 3) := by decide +kernel
theorem dX7_transfer_70 : decode cX7_transfer 70 = .ok (.iload_n 1, 1) := by decide +kernel
theorem dX7_transfer_71 : decode cX7_transfer 71 = .ok (.aload_n 0, 1) := by decide +kernel
theorem dX7_transfer_72 : decode cX7_transfer 72 = .ok (.getfield 20, 3) := by decide +kernel
theorem dX7_transfer_75 : decode cX7_transfer 75 = .ok (.iload_n 2, 1) := by decide +kernel
theorem dX7_transfer_76 : decode cX7_transfer 76 = .ok (.iaload, 1) := by decide +kernel
theorem dX7_transfer_77 : decode cX7_transfer 77 = .ok (.aload_n 0, 1) := by decide +kernel
theorem dX7_transfer_78 : decode cX7_transfer 78 = .ok (.getfield 20, 3) := by decide +kernel
theorem dX7_transfer_81 : decode cX7_transfer 81 = .ok (.iload_n 1, 1) := by decide +kernel
theorem dX7_transfer_82 : decode cX7_transfer 82 = .ok (.iaload, 1) := by decide +kernel
theorem dX7_transfer_83 : decode cX7_transfer 83 = .ok (.if_icmp .le 12, 3) := by decide +kernel
theorem dX7_transfer_86 : decode cX7_transfer 86 = .ok (.aload_n 0, 1) := by decide +kernel
theorem dX7_transfer_87 : decode cX7_transfer 87 = .ok (.getfield 20, 3) := by decide +kernel
theorem dX7_transfer_90 : decode cX7_transfer 90 = .ok (.iload_n 2, 1) := by decide +kernel
theorem dX7_transfer_91 : decode cX7_transfer 91 = .ok (.iaload, 1) := by decide +kernel
theorem dX7_transfer_92 : decode cX7_transfer 92 = .ok (.goto 9, 3) := by decide +kernel
theorem dX7_transfer_95 : decode cX7_transfer 95 = .ok (.aload_n 0, 1) := by decide +kernel
theorem dX7_transfer_96 : decode cX7_transfer 96 = .ok (.getfield 20, 3) := by decide +kernel
theorem dX7_transfer_99 : decode cX7_transfer 99 = .ok (.iload_n 1, 1) := by decide +kernel
theorem dX7_transfer_100 : decode cX7_transfer 100 = .ok (.iaload, 1) := by decide +kernel
theorem dX7_transfer_101 : decode cX7_transfer 101 = .ok (.iastore, 1) := by decide +kernel
theorem dX7_transfer_102 : decode cX7_transfer 102 = .ok (.iload_n 3, 1) := by decide +kernel
theorem dX7_transfer_103 : decode cX7_transfer 103 = .ok (.ireturn, 1) := by decide +kernel
set_option maxRecDepth 20000 in
theorem ggX7_operation_X7_isSite : GoodIn wsX7_operation wsX7_isSite := goodIn_r _ [8, 9, 10, 11, 7, 12, 25, 26, 27, 28, 29, 30, 31, 32, 33, 34, 35, 36, 37, 38] (by decide +kernel) (by decide +kernel)
set_option maxRecDepth 20000 in
theorem gX7_operation_X7_isSite : GoodIn wsX7_operation (wsV RX7 54 RX7 yX7_isSite wsX7_isSite) := goodIn_app (goodIn_of _ (by decide +kernel)) ggX7_operation_X7_isSite
set_option maxRecDepth 20000 in
theorem ggX7_operation_X7_in : GoodIn wsX7_operation wsX7_in := goodIn_r _ [12] (by decide +kernel) (by decide +kernel)
set_option maxRecDepth 20000 in
theorem gX7_operation_X7_in : GoodIn wsX7_operation (va_wsS RX7 50 yX7_in wsX7_in) := goodIn_app (goodIn_of _ (by decide +kernel)) ggX7_operation_X7_in
set_option maxRecDepth 20000 in
theorem ggX7_operation_X7_place : GoodIn wsX7_operation wsX7_place := goodIn_r _ [15] (by decide +kernel) (by decide +kernel)
set_option maxRecDepth 20000 in
theorem gX7_operation_X7_place : GoodIn wsX7_operation (va_wsS RX7 62 yX7_place wsX7_place) := goodIn_app (goodIn_of _ (by decide +kernel)) ggX7_operation_X7_place
set_option maxRecDepth 20000 in
theorem ggX7_operation_X7_of : GoodIn wsX7_operation wsX7_of := goodIn_r _ [19, 20, 25, 26, 27, 28, 29, 30, 31, 32, 33, 34, 35, 36, 37, 38] (by decide +kernel) (by decide +kernel)
set_option maxRecDepth 20000 in
theorem gX7_operation_X7_of : GoodIn wsX7_operation (wsV RX7 58 RX7 yX7_of wsX7_of) := goodIn_app (goodIn_of _ (by decide +kernel)) ggX7_operation_X7_of
set_option maxRecDepth 20000 in
theorem ggX7_operation_X7_sizeOf : GoodIn wsX7_operation wsX7_sizeOf := goodIn_r _ [24, 16, 17, 18, 7, 19, 20, 10, 11, 12, 25, 26, 27, 28, 29, 30, 31, 32, 33, 34, 35, 36, 37, 38] (by decide +kernel) (by decide +kernel)
set_option maxRecDepth 20000 in
theorem gX7_operation_X7_sizeOf : GoodIn wsX7_operation (wsV RX7 123 RX7 yX7_sizeOf wsX7_sizeOf) := goodIn_app (goodIn_of _ (by decide +kernel)) ggX7_operation_X7_sizeOf
theorem dX7_operation_0 : decode cX7_operation 0 = .ok (.aload_n 0, 1) := by decide +kernel
theorem dX7_operation_1 : decode cX7_operation 1 = .ok (.iload_n 1, 1) := by decide +kernel
theorem dX7_operation_2 : decode cX7_operation 2 = .ok (.invokevirtual 54, 3) := by decide +kernel
theorem dX7_operation_5 : decode cX7_operation 5 = .ok (.ifCond .eq 17, 3) := by decide +kernel
theorem dX7_operation_8 : decode cX7_operation 8 = .ok (.iload_n 2, 1) := by decide +kernel
theorem dX7_operation_9 : decode cX7_operation 9 = .ok (.iconst 1, 1) := by decide +kernel
theorem dX7_operation_10 : decode cX7_operation 10 = .ok (.if_icmp .lt 12, 3) := by decide +kernel
theorem dX7_operation_13 : decode cX7_operation 13 = .ok (.iload_n 3, 1) := by decide +kernel
theorem dX7_operation_14 : decode cX7_operation 14 = .ok (.iconst 0, 1) := by decide +kernel
theorem dX7_operation_15 : decode cX7_operation 15 = .ok (.iconst 5, 1) := by decide +kernel
theorem dX7_operation_16 : decode cX7_operation 16 = .ok (.invokestatic 50, 3) := by decide +kernel
theorem dX7_operation_19 : decode cX7_operation 19 = .ok (.ifCond .ne 6, 3) := by decide +kernel
theorem dX7_operation_22 : decode cX7_operation 22 = .ok (.ldc 89, 2) := by decide +kernel
theorem dX7_operation_24 : decode cX7_operation 24 = .ok (.ireturn, 1) := by decide +kernel
theorem dX7_operation_25 : decode cX7_operation 25 = .ok (.iload_n 2, 1) := by decide +kernel
theorem dX7_operation_26 : decode cX7_operation 26 = .ok (.aload_n 0, 1) := by decide +kernel
theorem dX7_operation_27 : decode cX7_operation 27 = .ok (.getfield 17, 3) := by decide +kernel
theorem dX7_operation_30 : decode cX7_operation 30 = .ok (.iload_n 1, 1) := by decide +kernel
theorem dX7_operation_31 : decode cX7_operation 31 = .ok (.iaload, 1) := by decide +kernel
theorem dX7_operation_32 : decode cX7_operation 32 = .ok (.if_icmp .le 6, 3) := by decide +kernel
theorem dX7_operation_35 : decode cX7_operation 35 = .ok (.ldc 109, 2) := by decide +kernel
theorem dX7_operation_37 : decode cX7_operation 37 = .ok (.ireturn, 1) := by decide +kernel
theorem dX7_operation_38 : decode cX7_operation 38 = .ok (.iload_n 1, 1) := by decide +kernel
theorem dX7_operation_39 : decode cX7_operation 39 = .ok (.iload_n 2, 1) := by decide +kernel
theorem dX7_operation_40 : decode cX7_operation 40 = .ok (.invokestatic 62, 3) := by decide +kernel
theorem dX7_operation_43 : decode cX7_operation 43 = .ok (.istore 4, 2) := by decide +kernel
theorem dX7_operation_45 : decode cX7_operation 45 = .ok (.iload_n 3, 1) := by decide +kernel
theorem dX7_operation_46 : decode cX7_operation 46 = .ok (.tableswitch 88 0 4 #[34, 42, 50, 57, 65], 34) := by decide +kernel
theorem dX7_operation_80 : decode cX7_operation 80 = .ok (.aload_n 0, 1) := by decide +kernel
theorem dX7_operation_81 : decode cX7_operation 81 = .ok (.iload 4, 2) := by decide +kernel
theorem dX7_operation_83 : decode cX7_operation 83 = .ok (.iconst 0, 1) := by decide +kernel
theorem dX7_operation_84 : decode cX7_operation 84 = .ok (.invokevirtual 58, 3) := by decide +kernel
theorem dX7_operation_87 : decode cX7_operation 87 = .ok (.ireturn, 1) := by decide +kernel
theorem dX7_operation_88 : decode cX7_operation 88 = .ok (.aload_n 0, 1) := by decide +kernel
theorem dX7_operation_89 : decode cX7_operation 89 = .ok (.iload 4, 2) := by decide +kernel
theorem dX7_operation_91 : decode cX7_operation 91 = .ok (.iconst 1, 1) := by decide +kernel
theorem dX7_operation_92 : decode cX7_operation 92 = .ok (.invokevirtual 58, 3) := by decide +kernel
theorem dX7_operation_95 : decode cX7_operation 95 = .ok (.ireturn, 1) := by decide +kernel
theorem dX7_operation_96 : decode cX7_operation 96 = .ok (.aload_n 0, 1) := by decide +kernel
theorem dX7_operation_97 : decode cX7_operation 97 = .ok (.iload 4, 2) := by decide +kernel
theorem dX7_operation_99 : decode cX7_operation 99 = .ok (.invokevirtual 123, 3) := by decide +kernel
theorem dX7_operation_102 : decode cX7_operation 102 = .ok (.ireturn, 1) := by decide +kernel
theorem dX7_operation_103 : decode cX7_operation 103 = .ok (.aload_n 0, 1) := by decide +kernel
theorem dX7_operation_104 : decode cX7_operation 104 = .ok (.iload 4, 2) := by decide +kernel
theorem dX7_operation_106 : decode cX7_operation 106 = .ok (.iconst 4, 1) := by decide +kernel
theorem dX7_operation_107 : decode cX7_operation 107 = .ok (.invokevirtual 58, 3) := by decide +kernel
theorem dX7_operation_110 : decode cX7_operation 110 = .ok (.ireturn, 1) := by decide +kernel
theorem dX7_operation_111 : decode cX7_operation 111 = .ok (.aload_n 0, 1) := by decide +kernel
theorem dX7_operation_112 : decode cX7_operation 112 = .ok (.iload 4, 2) := by decide +kernel
theorem dX7_operation_114 : decode cX7_operation 114 = .ok (.iconst 0, 1) := by decide +kernel
theorem dX7_operation_115 : decode cX7_operation 115 = .ok (.invokevirtual 58, 3) := by decide +kernel
theorem dX7_operation_118 : decode cX7_operation 118 = .ok (.iconst 3, 1) := by decide +kernel
theorem dX7_operation_119 : decode cX7_operation 119 = .ok (.if_icmp .ne 13, 3) := by decide +kernel
theorem dX7_operation_122 : decode cX7_operation 122 = .ok (.aload_n 0, 1) := by decide +kernel
theorem dX7_operation_123 : decode cX7_operation 123 = .ok (.iload 4, 2) := by decide +kernel
theorem dX7_operation_125 : decode cX7_operation 125 = .ok (.iconst 2, 1) := by decide +kernel
theorem dX7_operation_126 : decode cX7_operation 126 = .ok (.invokevirtual 58, 3) := by decide +kernel
theorem dX7_operation_129 : decode cX7_operation 129 = .ok (.goto 4, 3) := by decide +kernel
theorem dX7_operation_132 : decode cX7_operation 132 = .ok (.iload_n 1, 1) := by decide +kernel
theorem dX7_operation_133 : decode cX7_operation 133 = .ok (.ireturn, 1) := by decide +kernel
theorem dX7_operation_134 : decode cX7_operation 134 = .ok (.aload_n 0, 1) := by decide +kernel
theorem dX7_operation_135 : decode cX7_operation 135 = .ok (.iload 4, 2) := by decide +kernel
theorem dX7_operation_137 : decode cX7_operation 137 = .ok (.iconst 3, 1) := by decide +kernel
theorem dX7_operation_138 : decode cX7_operation 138 = .ok (.invokevirtual 58, 3) := by decide +kernel
theorem dX7_operation_141 : decode cX7_operation 141 = .ok (.ireturn, 1) := by decide +kernel
set_option maxRecDepth 20000 in
theorem ggX7_knows_X7_isSite : GoodIn wsX7_knows wsX7_isSite := goodIn_r _ [9, 10, 11, 12, 8, 13, 17, 18, 19, 20, 21, 22, 23, 24, 25, 26, 27, 28, 29, 30] (by decide +kernel) (by decide +kernel)
set_option maxRecDepth 20000 in
theorem gX7_knows_X7_isSite : GoodIn wsX7_knows (wsV RX7 54 RX7 yX7_isSite wsX7_isSite) := goodIn_app (goodIn_of _ (by decide +kernel)) ggX7_knows_X7_isSite
set_option maxRecDepth 20000 in
theorem ggX7_knows_X7_place : GoodIn wsX7_knows wsX7_place := goodIn_r _ [16] (by decide +kernel) (by decide +kernel)
set_option maxRecDepth 20000 in
theorem gX7_knows_X7_place : GoodIn wsX7_knows (va_wsS RX7 62 yX7_place wsX7_place) := goodIn_app (goodIn_of _ (by decide +kernel)) ggX7_knows_X7_place
theorem dX7_knows_0 : decode cX7_knows 0 = .ok (.aload_n 0, 1) := by decide +kernel
theorem dX7_knows_1 : decode cX7_knows 1 = .ok (.iload_n 1, 1) := by decide +kernel
theorem dX7_knows_2 : decode cX7_knows 2 = .ok (.invokevirtual 54, 3) := by decide +kernel
theorem dX7_knows_5 : decode cX7_knows 5 = .ok (.ifCond .eq 16, 3) := by decide +kernel
theorem dX7_knows_8 : decode cX7_knows 8 = .ok (.aload_n 0, 1) := by decide +kernel
theorem dX7_knows_9 : decode cX7_knows 9 = .ok (.iload_n 2, 1) := by decide +kernel
theorem dX7_knows_10 : decode cX7_knows 10 = .ok (.invokevirtual 54, 3) := by decide +kernel
theorem dX7_knows_13 : decode cX7_knows 13 = .ok (.ifCond .eq 8, 3) := by decide +kernel
theorem dX7_knows_16 : decode cX7_knows 16 = .ok (.iload_n 3, 1) := by decide +kernel
theorem dX7_knows_17 : decode cX7_knows 17 = .ok (.iconst 1, 1) := by decide +kernel
theorem dX7_knows_18 : decode cX7_knows 18 = .ok (.if_icmp .ge 6, 3) := by decide +kernel
theorem dX7_knows_21 : decode cX7_knows 21 = .ok (.ldc 89, 2) := by decide +kernel
theorem dX7_knows_23 : decode cX7_knows 23 = .ok (.ireturn, 1) := by decide +kernel
theorem dX7_knows_24 : decode cX7_knows 24 = .ok (.iload_n 3, 1) := by decide +kernel
theorem dX7_knows_25 : decode cX7_knows 25 = .ok (.aload_n 0, 1) := by decide +kernel
theorem dX7_knows_26 : decode cX7_knows 26 = .ok (.getfield 17, 3) := by decide +kernel
theorem dX7_knows_29 : decode cX7_knows 29 = .ok (.iload_n 2, 1) := by decide +kernel
theorem dX7_knows_30 : decode cX7_knows 30 = .ok (.iaload, 1) := by decide +kernel
theorem dX7_knows_31 : decode cX7_knows 31 = .ok (.if_icmp .le 8, 3) := by decide +kernel
theorem dX7_knows_34 : decode cX7_knows 34 = .ok (.ldc 109, 2) := by decide +kernel
theorem dX7_knows_36 : decode cX7_knows 36 = .ok (.goto 18, 3) := by decide +kernel
theorem dX7_knows_39 : decode cX7_knows 39 = .ok (.aload_n 0, 1) := by decide +kernel
theorem dX7_knows_40 : decode cX7_knows 40 = .ok (.getfield 23, 3) := by decide +kernel
theorem dX7_knows_43 : decode cX7_knows 43 = .ok (.bipush 100, 2) := by decide +kernel
theorem dX7_knows_45 : decode cX7_knows 45 = .ok (.iload_n 1, 1) := by decide +kernel
theorem dX7_knows_46 : decode cX7_knows 46 = .ok (.imul, 1) := by decide +kernel
theorem dX7_knows_47 : decode cX7_knows 47 = .ok (.iload_n 2, 1) := by decide +kernel
theorem dX7_knows_48 : decode cX7_knows 48 = .ok (.iload_n 3, 1) := by decide +kernel
theorem dX7_knows_49 : decode cX7_knows 49 = .ok (.invokestatic 62, 3) := by decide +kernel
theorem dX7_knows_52 : decode cX7_knows 52 = .ok (.iadd, 1) := by decide +kernel
theorem dX7_knows_53 : decode cX7_knows 53 = .ok (.iaload, 1) := by decide +kernel
theorem dX7_knows_54 : decode cX7_knows 54 = .ok (.ireturn, 1) := by decide +kernel
set_option maxRecDepth 20000 in
theorem ggX7_stroke_X7_isSite : GoodIn wsX7_stroke wsX7_isSite := goodIn_r _ [10, 11, 12, 13, 9, 14, 52, 53, 54, 55, 56, 57, 58, 59, 60, 61, 62, 63, 64, 65] (by decide +kernel) (by decide +kernel)
set_option maxRecDepth 20000 in
theorem gX7_stroke_X7_isSite : GoodIn wsX7_stroke (wsV RX7 54 RX7 yX7_isSite wsX7_isSite) := goodIn_app (goodIn_of _ (by decide +kernel)) ggX7_stroke_X7_isSite
set_option maxRecDepth 20000 in
theorem ggX7_stroke_X7_in : GoodIn wsX7_stroke wsX7_in := goodIn_r _ [14] (by decide +kernel) (by decide +kernel)
set_option maxRecDepth 20000 in
theorem gX7_stroke_X7_in : GoodIn wsX7_stroke (va_wsS RX7 50 yX7_in wsX7_in) := goodIn_app (goodIn_of _ (by decide +kernel)) ggX7_stroke_X7_in
set_option maxRecDepth 20000 in
theorem ggX7_stroke_X7_workOut : GoodIn wsX7_stroke wsX7_workOut := goodIn_r _ [18, 2, 5, 4, 19, 20, 21, 9, 22, 23, 24, 25, 26, 27, 28, 29, 30, 31, 32, 33, 34, 35, 36, 12, 13, 14, 37, 38, 39, 40, 41, 42, 43, 44, 45, 46, 47, 48, 49, 50, 51, 52, 53, 54, 55, 56, 57, 58, 59, 60, 61, 62, 63, 64, 65] (by decide +kernel) (by decide +kernel)
set_option maxRecDepth 20000 in
theorem gX7_stroke_X7_workOut : GoodIn wsX7_stroke (wsV RX7 98 RX7 yX7_workOut wsX7_workOut) := goodIn_app (goodIn_of _ (by decide +kernel)) ggX7_stroke_X7_workOut
set_option maxRecDepth 20000 in
theorem ggX7_stroke_X7_of : GoodIn wsX7_stroke wsX7_of := goodIn_r _ [31, 32, 52, 53, 54, 55, 56, 57, 58, 59, 60, 61, 62, 63, 64, 65] (by decide +kernel) (by decide +kernel)
set_option maxRecDepth 20000 in
theorem gX7_stroke_X7_of : GoodIn wsX7_stroke (wsV RX7 58 RX7 yX7_of wsX7_of) := goodIn_app (goodIn_of _ (by decide +kernel)) ggX7_stroke_X7_of
theorem dX7_stroke_0 : decode cX7_stroke 0 = .ok (.aload_n 0, 1) := by decide +kernel
theorem dX7_stroke_1 : decode cX7_stroke 1 = .ok (.iload_n 1, 1) := by decide +kernel
theorem dX7_stroke_2 : decode cX7_stroke 2 = .ok (.invokevirtual 54, 3) := by decide +kernel
theorem dX7_stroke_5 : decode cX7_stroke 5 = .ok (.ifCond .eq 27, 3) := by decide +kernel
theorem dX7_stroke_8 : decode cX7_stroke 8 = .ok (.iload_n 2, 1) := by decide +kernel
theorem dX7_stroke_9 : decode cX7_stroke 9 = .ok (.ifCond .lt 23, 3) := by decide +kernel
theorem dX7_stroke_12 : decode cX7_stroke 12 = .ok (.iload_n 3, 1) := by decide +kernel
theorem dX7_stroke_13 : decode cX7_stroke 13 = .ok (.iconst 0, 1) := by decide +kernel
theorem dX7_stroke_14 : decode cX7_stroke 14 = .ok (.iconst 4, 1) := by decide +kernel
theorem dX7_stroke_15 : decode cX7_stroke 15 = .ok (.invokestatic 50, 3) := by decide +kernel
theorem dX7_stroke_18 : decode cX7_stroke 18 = .ok (.ifCond .ne 17, 3) := by decide +kernel
theorem dX7_stroke_21 : decode cX7_stroke 21 = .ok (.iload_n 3, 1) := by decide +kernel
theorem dX7_stroke_22 : decode cX7_stroke 22 = .ok (.bipush 10, 2) := by decide +kernel
theorem dX7_stroke_24 : decode cX7_stroke 24 = .ok (.bipush 25, 2) := by decide +kernel
theorem dX7_stroke_26 : decode cX7_stroke 26 = .ok (.invokestatic 50, 3) := by decide +kernel
theorem dX7_stroke_29 : decode cX7_stroke 29 = .ok (.ifCond .ne 6, 3) := by decide +kernel
theorem dX7_stroke_32 : decode cX7_stroke 32 = .ok (.ldc 89, 2) := by decide +kernel
theorem dX7_stroke_34 : decode cX7_stroke 34 = .ok (.ireturn, 1) := by decide +kernel
theorem dX7_stroke_35 : decode cX7_stroke 35 = .ok (.aload_n 0, 1) := by decide +kernel
theorem dX7_stroke_36 : decode cX7_stroke 36 = .ok (.iload_n 1, 1) := by decide +kernel
theorem dX7_stroke_37 : decode cX7_stroke 37 = .ok (.invokevirtual 98, 3) := by decide +kernel
theorem dX7_stroke_40 : decode cX7_stroke 40 = .ok (.iload_n 2, 1) := by decide +kernel
theorem dX7_stroke_41 : decode cX7_stroke 41 = .ok (.aload_n 0, 1) := by decide +kernel
theorem dX7_stroke_42 : decode cX7_stroke 42 = .ok (.getfield 80, 3) := by decide +kernel
theorem dX7_stroke_45 : decode cX7_stroke 45 = .ok (.if_icmp .lt 6, 3) := by decide +kernel
theorem dX7_stroke_48 : decode cX7_stroke 48 = .ok (.ldc 109, 2) := by decide +kernel
theorem dX7_stroke_50 : decode cX7_stroke 50 = .ok (.ireturn, 1) := by decide +kernel
theorem dX7_stroke_51 : decode cX7_stroke 51 = .ok (.aload_n 0, 1) := by decide +kernel
theorem dX7_stroke_52 : decode cX7_stroke 52 = .ok (.getfield 35, 3) := by decide +kernel
theorem dX7_stroke_55 : decode cX7_stroke 55 = .ok (.iload_n 2, 1) := by decide +kernel
theorem dX7_stroke_56 : decode cX7_stroke 56 = .ok (.iaload, 1) := by decide +kernel
theorem dX7_stroke_57 : decode cX7_stroke 57 = .ok (.istore 4, 2) := by decide +kernel
theorem dX7_stroke_59 : decode cX7_stroke 59 = .ok (.iload_n 3, 1) := by decide +kernel
theorem dX7_stroke_60 : decode cX7_stroke 60 = .ok (.tableswitch 73 0 4 #[36, 42, 50, 57, 65], 36) := by decide +kernel
theorem dX7_stroke_96 : decode cX7_stroke 96 = .ok (.iload 4, 2) := by decide +kernel
theorem dX7_stroke_98 : decode cX7_stroke 98 = .ok (.bipush 20, 2) := by decide +kernel
theorem dX7_stroke_100 : decode cX7_stroke 100 = .ok (.idiv, 1) := by decide +kernel
theorem dX7_stroke_101 : decode cX7_stroke 101 = .ok (.ireturn, 1) := by decide +kernel
theorem dX7_stroke_102 : decode cX7_stroke 102 = .ok (.iload 4, 2) := by decide +kernel
theorem dX7_stroke_104 : decode cX7_stroke 104 = .ok (.bipush 20, 2) := by decide +kernel
theorem dX7_stroke_106 : decode cX7_stroke 106 = .ok (.irem, 1) := by decide +kernel
theorem dX7_stroke_107 : decode cX7_stroke 107 = .ok (.iconst 1, 1) := by decide +kernel
theorem dX7_stroke_108 : decode cX7_stroke 108 = .ok (.iadd, 1) := by decide +kernel
theorem dX7_stroke_109 : decode cX7_stroke 109 = .ok (.ireturn, 1) := by decide +kernel
theorem dX7_stroke_110 : decode cX7_stroke 110 = .ok (.aload_n 0, 1) := by decide +kernel
theorem dX7_stroke_111 : decode cX7_stroke 111 = .ok (.getfield 38, 3) := by decide +kernel
theorem dX7_stroke_114 : decode cX7_stroke 114 = .ok (.iload_n 2, 1) := by decide +kernel
theorem dX7_stroke_115 : decode cX7_stroke 115 = .ok (.iaload, 1) := by decide +kernel
theorem dX7_stroke_116 : decode cX7_stroke 116 = .ok (.ireturn, 1) := by decide +kernel
theorem dX7_stroke_117 : decode cX7_stroke 117 = .ok (.aload_n 0, 1) := by decide +kernel
theorem dX7_stroke_118 : decode cX7_stroke 118 = .ok (.iload 4, 2) := by decide +kernel
theorem dX7_stroke_120 : decode cX7_stroke 120 = .ok (.iconst 2, 1) := by decide +kernel
theorem dX7_stroke_121 : decode cX7_stroke 121 = .ok (.invokevirtual 58, 3) := by decide +kernel
theorem dX7_stroke_124 : decode cX7_stroke 124 = .ok (.ireturn, 1) := by decide +kernel
theorem dX7_stroke_125 : decode cX7_stroke 125 = .ok (.aload_n 0, 1) := by decide +kernel
theorem dX7_stroke_126 : decode cX7_stroke 126 = .ok (.iload 4, 2) := by decide +kernel
theorem dX7_stroke_128 : decode cX7_stroke 128 = .ok (.iconst 4, 1) := by decide +kernel
theorem dX7_stroke_129 : decode cX7_stroke 129 = .ok (.invokevirtual 58, 3) := by decide +kernel
theorem dX7_stroke_132 : decode cX7_stroke 132 = .ok (.ireturn, 1) := by decide +kernel
theorem dX7_stroke_133 : decode cX7_stroke 133 = .ok (.iload_n 3, 1) := by decide +kernel
theorem dX7_stroke_134 : decode cX7_stroke 134 = .ok (.bipush 10, 2) := by decide +kernel
theorem dX7_stroke_136 : decode cX7_stroke 136 = .ok (.isub, 1) := by decide +kernel
theorem dX7_stroke_137 : decode cX7_stroke 137 = .ok (.iconst 2, 1) := by decide +kernel
theorem dX7_stroke_138 : decode cX7_stroke 138 = .ok (.aload_n 0, 1) := by decide +kernel
theorem dX7_stroke_139 : decode cX7_stroke 139 = .ok (.iload 4, 2) := by decide +kernel
theorem dX7_stroke_141 : decode cX7_stroke 141 = .ok (.iconst 4, 1) := by decide +kernel
theorem dX7_stroke_142 : decode cX7_stroke 142 = .ok (.invokevirtual 58, 3) := by decide +kernel
theorem dX7_stroke_145 : decode cX7_stroke 145 = .ok (.imul, 1) := by decide +kernel
theorem dX7_stroke_146 : decode cX7_stroke 146 = .ok (.if_icmp .ge 18, 3) := by decide +kernel
theorem dX7_stroke_149 : decode cX7_stroke 149 = .ok (.aload_n 0, 1) := by decide +kernel
theorem dX7_stroke_150 : decode cX7_stroke 150 = .ok (.iload 4, 2) := by decide +kernel
theorem dX7_stroke_152 : decode cX7_stroke 152 = .ok (.iconst 5, 1) := by decide +kernel
theorem dX7_stroke_153 : decode cX7_stroke 153 = .ok (.iload_n 3, 1) := by decide +kernel
theorem dX7_stroke_154 : decode cX7_stroke 154 = .ok (.iadd, 1) := by decide +kernel
theorem dX7_stroke_155 : decode cX7_stroke 155 = .ok (.bipush 10, 2) := by decide +kernel
theorem dX7_stroke_157 : decode cX7_stroke 157 = .ok (.isub, 1) := by decide +kernel
theorem dX7_stroke_158 : decode cX7_stroke 158 = .ok (.invokevirtual 58, 3) := by decide +kernel
theorem dX7_stroke_161 : decode cX7_stroke 161 = .ok (.goto 5, 3) := by decide +kernel
theorem dX7_stroke_164 : decode cX7_stroke 164 = .ok (.ldc 109, 2) := by decide +kernel
theorem dX7_stroke_166 : decode cX7_stroke 166 = .ok (.ireturn, 1) := by decide +kernel
set_option maxRecDepth 20000 in
theorem ggX7_strokeAt_X7_isSite : GoodIn wsX7_strokeAt wsX7_isSite := goodIn_r _ [9, 10, 11, 12, 8, 13, 52, 53, 54, 55, 56, 57, 58, 59, 60, 61, 62, 63, 64, 65] (by decide +kernel) (by decide +kernel)
set_option maxRecDepth 20000 in
theorem gX7_strokeAt_X7_isSite : GoodIn wsX7_strokeAt (wsV RX7 54 RX7 yX7_isSite wsX7_isSite) := goodIn_app (goodIn_of _ (by decide +kernel)) ggX7_strokeAt_X7_isSite
set_option maxRecDepth 20000 in
theorem ggX7_strokeAt_X7_in : GoodIn wsX7_strokeAt wsX7_in := goodIn_r _ [13] (by decide +kernel) (by decide +kernel)
set_option maxRecDepth 20000 in
theorem gX7_strokeAt_X7_in : GoodIn wsX7_strokeAt (va_wsS RX7 50 yX7_in wsX7_in) := goodIn_app (goodIn_of _ (by decide +kernel)) ggX7_strokeAt_X7_in
set_option maxRecDepth 20000 in
theorem ggX7_strokeAt_X7_workOut : GoodIn wsX7_strokeAt wsX7_workOut := goodIn_r _ [17, 3, 18, 4, 19, 20, 21, 8, 22, 23, 24, 25, 26, 27, 28, 29, 30, 31, 32, 33, 34, 35, 36, 11, 12, 13, 37, 38, 39, 40, 41, 42, 43, 44, 45, 46, 47, 48, 49, 50, 51, 52, 53, 54, 55, 56, 57, 58, 59, 60, 61, 62, 63, 64, 65] (by decide +kernel) (by decide +kernel)
set_option maxRecDepth 20000 in
theorem gX7_strokeAt_X7_workOut : GoodIn wsX7_strokeAt (wsV RX7 98 RX7 yX7_workOut wsX7_workOut) := goodIn_app (goodIn_of _ (by decide +kernel)) ggX7_strokeAt_X7_workOut
set_option maxRecDepth 20000 in
theorem ggX7_strokeAt_X7_of : GoodIn wsX7_strokeAt wsX7_of := goodIn_r _ [31, 32, 52, 53, 54, 55, 56, 57, 58, 59, 60, 61, 62, 63, 64, 65] (by decide +kernel) (by decide +kernel)
set_option maxRecDepth 20000 in
theorem gX7_strokeAt_X7_of : GoodIn wsX7_strokeAt (wsV RX7 58 RX7 yX7_of wsX7_of) := goodIn_app (goodIn_of _ (by decide +kernel)) ggX7_strokeAt_X7_of
theorem dX7_strokeAt_0 : decode cX7_strokeAt 0 = .ok (.aload_n 0, 1) := by decide +kernel
theorem dX7_strokeAt_1 : decode cX7_strokeAt 1 = .ok (.iload_n 1, 1) := by decide +kernel
theorem dX7_strokeAt_2 : decode cX7_strokeAt 2 = .ok (.invokevirtual 54, 3) := by decide +kernel
theorem dX7_strokeAt_5 : decode cX7_strokeAt 5 = .ok (.ifCond .eq 27, 3) := by decide +kernel
theorem dX7_strokeAt_8 : decode cX7_strokeAt 8 = .ok (.iload_n 2, 1) := by decide +kernel
theorem dX7_strokeAt_9 : decode cX7_strokeAt 9 = .ok (.bipush (-100), 2) := by decide +kernel
theorem dX7_strokeAt_11 : decode cX7_strokeAt 11 = .ok (.sipush 200, 3) := by decide +kernel
theorem dX7_strokeAt_14 : decode cX7_strokeAt 14 = .ok (.invokestatic 50, 3) := by decide +kernel
theorem dX7_strokeAt_17 : decode cX7_strokeAt 17 = .ok (.ifCond .eq 15, 3) := by decide +kernel
theorem dX7_strokeAt_20 : decode cX7_strokeAt 20 = .ok (.iload_n 3, 1) := by decide +kernel
theorem dX7_strokeAt_21 : decode cX7_strokeAt 21 = .ok (.bipush (-100), 2) := by decide +kernel
theorem dX7_strokeAt_23 : decode cX7_strokeAt 23 = .ok (.sipush 200, 3) := by decide +kernel
theorem dX7_strokeAt_26 : decode cX7_strokeAt 26 = .ok (.invokestatic 50, 3) := by decide +kernel
theorem dX7_strokeAt_29 : decode cX7_strokeAt 29 = .ok (.ifCond .ne 6, 3) := by decide +kernel
theorem dX7_strokeAt_32 : decode cX7_strokeAt 32 = .ok (.ldc 89, 2) := by decide +kernel
theorem dX7_strokeAt_34 : decode cX7_strokeAt 34 = .ok (.ireturn, 1) := by decide +kernel
theorem dX7_strokeAt_35 : decode cX7_strokeAt 35 = .ok (.aload_n 0, 1) := by decide +kernel
theorem dX7_strokeAt_36 : decode cX7_strokeAt 36 = .ok (.iload_n 1, 1) := by decide +kernel
theorem dX7_strokeAt_37 : decode cX7_strokeAt 37 = .ok (.invokevirtual 98, 3) := by decide +kernel
theorem dX7_strokeAt_40 : decode cX7_strokeAt 40 = .ok (.ldc 109, 2) := by decide +kernel
theorem dX7_strokeAt_42 : decode cX7_strokeAt 42 = .ok (.istore 4, 2) := by decide +kernel
theorem dX7_strokeAt_44 : decode cX7_strokeAt 44 = .ok (.iconst 0, 1) := by decide +kernel
theorem dX7_strokeAt_45 : decode cX7_strokeAt 45 = .ok (.istore 5, 2) := by decide +kernel
theorem dX7_strokeAt_47 : decode cX7_strokeAt 47 = .ok (.iload 5, 2) := by decide +kernel
theorem dX7_strokeAt_49 : decode cX7_strokeAt 49 = .ok (.aload_n 0, 1) := by decide +kernel
theorem dX7_strokeAt_50 : decode cX7_strokeAt 50 = .ok (.getfield 80, 3) := by decide +kernel
theorem dX7_strokeAt_53 : decode cX7_strokeAt 53 = .ok (.if_icmp .ge 88, 3) := by decide +kernel
theorem dX7_strokeAt_56 : decode cX7_strokeAt 56 = .ok (.iconst 0, 1) := by decide +kernel
theorem dX7_strokeAt_57 : decode cX7_strokeAt 57 = .ok (.istore 6, 2) := by decide +kernel
theorem dX7_strokeAt_59 : decode cX7_strokeAt 59 = .ok (.iload 6, 2) := by decide +kernel
theorem dX7_strokeAt_61 : decode cX7_strokeAt 61 = .ok (.aload_n 0, 1) := by decide +kernel
theorem dX7_strokeAt_62 : decode cX7_strokeAt 62 = .ok (.aload_n 0, 1) := by decide +kernel
theorem dX7_strokeAt_63 : decode cX7_strokeAt 63 = .ok (.getfield 35, 3) := by decide +kernel
theorem dX7_strokeAt_66 : decode cX7_strokeAt 66 = .ok (.iload 5, 2) := by decide +kernel
theorem dX7_strokeAt_68 : decode cX7_strokeAt 68 = .ok (.iaload, 1) := by decide +kernel
theorem dX7_strokeAt_69 : decode cX7_strokeAt 69 = .ok (.iconst 4, 1) := by decide +kernel
theorem dX7_strokeAt_70 : decode cX7_strokeAt 70 = .ok (.invokevirtual 58, 3) := by decide +kernel
theorem dX7_strokeAt_73 : decode cX7_strokeAt 73 = .ok (.if_icmp .ge 62, 3) := by decide +kernel
theorem dX7_strokeAt_76 : decode cX7_strokeAt 76 = .ok (.aload_n 0, 1) := by decide +kernel
theorem dX7_strokeAt_77 : decode cX7_strokeAt 77 = .ok (.aload_n 0, 1) := by decide +kernel
theorem dX7_strokeAt_78 : decode cX7_strokeAt 78 = .ok (.getfield 35, 3) := by decide +kernel
theorem dX7_strokeAt_81 : decode cX7_strokeAt 81 = .ok (.iload 5, 2) := by decide +kernel
theorem dX7_strokeAt_83 : decode cX7_strokeAt 83 = .ok (.iaload, 1) := by decide +kernel
theorem dX7_strokeAt_84 : decode cX7_strokeAt 84 = .ok (.iconst 5, 1) := by decide +kernel
theorem dX7_strokeAt_85 : decode cX7_strokeAt 85 = .ok (.iconst 2, 1) := by decide +kernel
theorem dX7_strokeAt_86 : decode cX7_strokeAt 86 = .ok (.iload 6, 2) := by decide +kernel
theorem dX7_strokeAt_88 : decode cX7_strokeAt 88 = .ok (.imul, 1) := by decide +kernel
theorem dX7_strokeAt_89 : decode cX7_strokeAt 89 = .ok (.iadd, 1) := by decide +kernel
theorem dX7_strokeAt_90 : decode cX7_strokeAt 90 = .ok (.invokevirtual 58, 3) := by decide +kernel
theorem dX7_strokeAt_93 : decode cX7_strokeAt 93 = .ok (.iload_n 2, 1) := by decide +kernel
theorem dX7_strokeAt_94 : decode cX7_strokeAt 94 = .ok (.if_icmp .ne 31, 3) := by decide +kernel
theorem dX7_strokeAt_97 : decode cX7_strokeAt 97 = .ok (.aload_n 0, 1) := by decide +kernel
theorem dX7_strokeAt_98 : decode cX7_strokeAt 98 = .ok (.aload_n 0, 1) := by decide +kernel
theorem dX7_strokeAt_99 : decode cX7_strokeAt 99 = .ok (.getfield 35, 3) := by decide +kernel
theorem dX7_strokeAt_102 : decode cX7_strokeAt 102 = .ok (.iload 5, 2) := by decide +kernel
theorem dX7_strokeAt_104 : decode cX7_strokeAt 104 = .ok (.iaload, 1) := by decide +kernel
theorem dX7_strokeAt_105 : decode cX7_strokeAt 105 = .ok (.iconst 5, 1) := by decide +kernel
theorem dX7_strokeAt_106 : decode cX7_strokeAt 106 = .ok (.iconst 2, 1) := by decide +kernel
theorem dX7_strokeAt_107 : decode cX7_strokeAt 107 = .ok (.iload 6, 2) := by decide +kernel
theorem dX7_strokeAt_109 : decode cX7_strokeAt 109 = .ok (.imul, 1) := by decide +kernel
theorem dX7_strokeAt_110 : decode cX7_strokeAt 110 = .ok (.iadd, 1) := by decide +kernel
theorem dX7_strokeAt_111 : decode cX7_strokeAt 111 = .ok (.iconst 1, 1) := by decide +kernel
theorem dX7_strokeAt_112 : decode cX7_strokeAt 112 = .ok (.iadd, 1) := by decide +kernel
theorem dX7_strokeAt_113 : decode cX7_strokeAt 113 = .ok (.invokevirtual 58, 3) := by decide +kernel
theorem dX7_strokeAt_116 : decode cX7_strokeAt 116 = .ok (.iload_n 3, 1) := by decide +kernel
theorem dX7_strokeAt_117 : decode cX7_strokeAt 117 = .ok (.if_icmp .ne 8, 3) := by decide +kernel
theorem dX7_strokeAt_120 : decode cX7_strokeAt 120 = .ok (.iload 5, 2) := by decide +kernel
theorem dX7_strokeAt_122 : decode cX7_strokeAt 122 = .ok (.goto 5, 3) := by decide +kernel
theorem dX7_strokeAt_125 : decode cX7_strokeAt 125 = .ok (.iload 4, 2) := by decide +kernel
theorem dX7_strokeAt_127 : decode cX7_strokeAt 127 = .ok (.istore 4, 2) := by decide +kernel
theorem dX7_strokeAt_129 : decode cX7_strokeAt 129 = .ok (.iinc 6 1, 3) := by decide +kernel
theorem dX7_strokeAt_132 : decode cX7_strokeAt 132 = .ok (.goto (-73), 3) := by decide +kernel
theorem dX7_strokeAt_135 : decode cX7_strokeAt 135 = .ok (.iinc 5 1, 3) := by decide +kernel
theorem dX7_strokeAt_138 : decode cX7_strokeAt 138 = .ok (.goto (-91), 3) := by decide +kernel
theorem dX7_strokeAt_141 : decode cX7_strokeAt 141 = .ok (.iload 4, 2) := by decide +kernel
theorem dX7_strokeAt_143 : decode cX7_strokeAt 143 = .ok (.ireturn, 1) := by decide +kernel
set_option maxRecDepth 20000 in
theorem ggX7_digest_X7_isSite : GoodIn wsX7_digest wsX7_isSite := goodIn_r _ [8, 9, 10, 11, 7, 12, 50, 51, 52, 53, 54, 55, 56, 57, 58, 59, 60, 61, 62, 63] (by decide +kernel) (by decide +kernel)
set_option maxRecDepth 20000 in
theorem gX7_digest_X7_isSite : GoodIn wsX7_digest (wsV RX7 54 RX7 yX7_isSite wsX7_isSite) := goodIn_app (goodIn_of _ (by decide +kernel)) ggX7_digest_X7_isSite
set_option maxRecDepth 20000 in
theorem ggX7_digest_X7_workOut : GoodIn wsX7_digest wsX7_workOut := goodIn_r _ [16, 1, 3, 2, 17, 18, 19, 7, 20, 21, 22, 23, 24, 25, 26, 27, 28, 29, 30, 31, 32, 33, 34, 10, 11, 12, 35, 36, 37, 38, 39, 40, 41, 42, 43, 44, 45, 46, 47, 48, 49, 50, 51, 52, 53, 54, 55, 56, 57, 58, 59, 60, 61, 62, 63] (by decide +kernel) (by decide +kernel)
set_option maxRecDepth 20000 in
theorem gX7_digest_X7_workOut : GoodIn wsX7_digest (wsV RX7 98 RX7 yX7_workOut wsX7_workOut) := goodIn_app (goodIn_of _ (by decide +kernel)) ggX7_digest_X7_workOut
set_option maxRecDepth 20000 in
theorem ggX7_digest_X7_of : GoodIn wsX7_digest wsX7_of := goodIn_r _ [29, 30, 50, 51, 52, 53, 54, 55, 56, 57, 58, 59, 60, 61, 62, 63] (by decide +kernel) (by decide +kernel)
set_option maxRecDepth 20000 in
theorem gX7_digest_X7_of : GoodIn wsX7_digest (wsV RX7 58 RX7 yX7_of wsX7_of) := goodIn_app (goodIn_of _ (by decide +kernel)) ggX7_digest_X7_of
theorem dX7_digest_0 : decode cX7_digest 0 = .ok (.aload_n 0, 1) := by decide +kernel
theorem dX7_digest_1 : decode cX7_digest 1 = .ok (.iload_n 1, 1) := by decide +kernel
theorem dX7_digest_2 : decode cX7_digest 2 = .ok (.invokevirtual 54, 3) := by decide +kernel
theorem dX7_digest_5 : decode cX7_digest 5 = .ok (.ifCond .ne 5, 3) := by decide +kernel
theorem dX7_digest_8 : decode cX7_digest 8 = .ok (.iconst 0, 1) := by decide +kernel
theorem dX7_digest_9 : decode cX7_digest 9 = .ok (.ireturn, 1) := by decide +kernel
theorem dX7_digest_10 : decode cX7_digest 10 = .ok (.aload_n 0, 1) := by decide +kernel
theorem dX7_digest_11 : decode cX7_digest 11 = .ok (.iload_n 1, 1) := by decide +kernel
theorem dX7_digest_12 : decode cX7_digest 12 = .ok (.invokevirtual 98, 3) := by decide +kernel
theorem dX7_digest_15 : decode cX7_digest 15 = .ok (.bipush 17, 2) := by decide +kernel
theorem dX7_digest_17 : decode cX7_digest 17 = .ok (.istore_n 2, 1) := by decide +kernel
theorem dX7_digest_18 : decode cX7_digest 18 = .ok (.iconst 0, 1) := by decide +kernel
theorem dX7_digest_19 : decode cX7_digest 19 = .ok (.istore_n 3, 1) := by decide +kernel
theorem dX7_digest_20 : decode cX7_digest 20 = .ok (.iload_n 3, 1) := by decide +kernel
theorem dX7_digest_21 : decode cX7_digest 21 = .ok (.aload_n 0, 1) := by decide +kernel
theorem dX7_digest_22 : decode cX7_digest 22 = .ok (.getfield 80, 3) := by decide +kernel
theorem dX7_digest_25 : decode cX7_digest 25 = .ok (.if_icmp .ge 105, 3) := by decide +kernel
theorem dX7_digest_28 : decode cX7_digest 28 = .ok (.aload_n 0, 1) := by decide +kernel
theorem dX7_digest_29 : decode cX7_digest 29 = .ok (.getfield 35, 3) := by decide +kernel
theorem dX7_digest_32 : decode cX7_digest 32 = .ok (.iload_n 3, 1) := by decide +kernel
theorem dX7_digest_33 : decode cX7_digest 33 = .ok (.iaload, 1) := by decide +kernel
theorem dX7_digest_34 : decode cX7_digest 34 = .ok (.istore 4, 2) := by decide +kernel
theorem dX7_digest_36 : decode cX7_digest 36 = .ok (.bipush 31, 2) := by decide +kernel
theorem dX7_digest_38 : decode cX7_digest 38 = .ok (.iload_n 2, 1) := by decide +kernel
theorem dX7_digest_39 : decode cX7_digest 39 = .ok (.imul, 1) := by decide +kernel
theorem dX7_digest_40 : decode cX7_digest 40 = .ok (.iload 4, 2) := by decide +kernel
theorem dX7_digest_42 : decode cX7_digest 42 = .ok (.bipush 20, 2) := by decide +kernel
theorem dX7_digest_44 : decode cX7_digest 44 = .ok (.idiv, 1) := by decide +kernel
theorem dX7_digest_45 : decode cX7_digest 45 = .ok (.iadd, 1) := by decide +kernel
theorem dX7_digest_46 : decode cX7_digest 46 = .ok (.istore_n 2, 1) := by decide +kernel
theorem dX7_digest_47 : decode cX7_digest 47 = .ok (.bipush 31, 2) := by decide +kernel
theorem dX7_digest_49 : decode cX7_digest 49 = .ok (.iload_n 2, 1) := by decide +kernel
theorem dX7_digest_50 : decode cX7_digest 50 = .ok (.imul, 1) := by decide +kernel
theorem dX7_digest_51 : decode cX7_digest 51 = .ok (.iload 4, 2) := by decide +kernel
theorem dX7_digest_53 : decode cX7_digest 53 = .ok (.bipush 20, 2) := by decide +kernel
theorem dX7_digest_55 : decode cX7_digest 55 = .ok (.irem, 1) := by decide +kernel
theorem dX7_digest_56 : decode cX7_digest 56 = .ok (.iadd, 1) := by decide +kernel
theorem dX7_digest_57 : decode cX7_digest 57 = .ok (.iconst 1, 1) := by decide +kernel
theorem dX7_digest_58 : decode cX7_digest 58 = .ok (.iadd, 1) := by decide +kernel
theorem dX7_digest_59 : decode cX7_digest 59 = .ok (.istore_n 2, 1) := by decide +kernel
theorem dX7_digest_60 : decode cX7_digest 60 = .ok (.bipush 31, 2) := by decide +kernel
theorem dX7_digest_62 : decode cX7_digest 62 = .ok (.iload_n 2, 1) := by decide +kernel
theorem dX7_digest_63 : decode cX7_digest 63 = .ok (.imul, 1) := by decide +kernel
theorem dX7_digest_64 : decode cX7_digest 64 = .ok (.aload_n 0, 1) := by decide +kernel
theorem dX7_digest_65 : decode cX7_digest 65 = .ok (.getfield 38, 3) := by decide +kernel
theorem dX7_digest_68 : decode cX7_digest 68 = .ok (.iload_n 3, 1) := by decide +kernel
theorem dX7_digest_69 : decode cX7_digest 69 = .ok (.iaload, 1) := by decide +kernel
theorem dX7_digest_70 : decode cX7_digest 70 = .ok (.iadd, 1) := by decide +kernel
theorem dX7_digest_71 : decode cX7_digest 71 = .ok (.istore_n 2, 1) := by decide +kernel
theorem dX7_digest_72 : decode cX7_digest 72 = .ok (.bipush 31, 2) := by decide +kernel
theorem dX7_digest_74 : decode cX7_digest 74 = .ok (.iload_n 2, 1) := by decide +kernel
theorem dX7_digest_75 : decode cX7_digest 75 = .ok (.imul, 1) := by decide +kernel
theorem dX7_digest_76 : decode cX7_digest 76 = .ok (.aload_n 0, 1) := by decide +kernel
theorem dX7_digest_77 : decode cX7_digest 77 = .ok (.iload 4, 2) := by decide +kernel
theorem dX7_digest_79 : decode cX7_digest 79 = .ok (.iconst 2, 1) := by decide +kernel
theorem dX7_digest_80 : decode cX7_digest 80 = .ok (.invokevirtual 58, 3) := by decide +kernel
theorem dX7_digest_83 : decode cX7_digest 83 = .ok (.iadd, 1) := by decide +kernel
theorem dX7_digest_84 : decode cX7_digest 84 = .ok (.istore_n 2, 1) := by decide +kernel
theorem dX7_digest_85 : decode cX7_digest 85 = .ok (.iconst 0, 1) := by decide +kernel
theorem dX7_digest_86 : decode cX7_digest 86 = .ok (.istore 5, 2) := by decide +kernel
theorem dX7_digest_88 : decode cX7_digest 88 = .ok (.iload 5, 2) := by decide +kernel
theorem dX7_digest_90 : decode cX7_digest 90 = .ok (.iconst 2, 1) := by decide +kernel
theorem dX7_digest_91 : decode cX7_digest 91 = .ok (.aload_n 0, 1) := by decide +kernel
theorem dX7_digest_92 : decode cX7_digest 92 = .ok (.iload 4, 2) := by decide +kernel
theorem dX7_digest_94 : decode cX7_digest 94 = .ok (.iconst 4, 1) := by decide +kernel
theorem dX7_digest_95 : decode cX7_digest 95 = .ok (.invokevirtual 58, 3) := by decide +kernel
theorem dX7_digest_98 : decode cX7_digest 98 = .ok (.imul, 1) := by decide +kernel
theorem dX7_digest_99 : decode cX7_digest 99 = .ok (.if_icmp .ge 25, 3) := by decide +kernel
theorem dX7_digest_102 : decode cX7_digest 102 = .ok (.bipush 31, 2) := by decide +kernel
theorem dX7_digest_104 : decode cX7_digest 104 = .ok (.iload_n 2, 1) := by decide +kernel
theorem dX7_digest_105 : decode cX7_digest 105 = .ok (.imul, 1) := by decide +kernel
theorem dX7_digest_106 : decode cX7_digest 106 = .ok (.aload_n 0, 1) := by decide +kernel
theorem dX7_digest_107 : decode cX7_digest 107 = .ok (.iload 4, 2) := by decide +kernel
theorem dX7_digest_109 : decode cX7_digest 109 = .ok (.iconst 5, 1) := by decide +kernel
theorem dX7_digest_110 : decode cX7_digest 110 = .ok (.iload 5, 2) := by decide +kernel
theorem dX7_digest_112 : decode cX7_digest 112 = .ok (.iadd, 1) := by decide +kernel
theorem dX7_digest_113 : decode cX7_digest 113 = .ok (.invokevirtual 58, 3) := by decide +kernel
theorem dX7_digest_116 : decode cX7_digest 116 = .ok (.iadd, 1) := by decide +kernel
theorem dX7_digest_117 : decode cX7_digest 117 = .ok (.istore_n 2, 1) := by decide +kernel
theorem dX7_digest_118 : decode cX7_digest 118 = .ok (.iinc 5 1, 3) := by decide +kernel
theorem dX7_digest_121 : decode cX7_digest 121 = .ok (.goto (-33), 3) := by decide +kernel
theorem dX7_digest_124 : decode cX7_digest 124 = .ok (.iinc 3 1, 3) := by decide +kernel
theorem dX7_digest_127 : decode cX7_digest 127 = .ok (.goto (-107), 3) := by decide +kernel
theorem dX7_digest_130 : decode cX7_digest 130 = .ok (.iload_n 2, 1) := by decide +kernel
theorem dX7_digest_131 : decode cX7_digest 131 = .ok (.ireturn, 1) := by decide +kernel
set_option maxRecDepth 20000 in
theorem ggX7_doShowSame_X7_workOut : GoodIn wsX7_doShowSame wsX7_workOut := goodIn_r _ [10, 1, 5, 3, 11, 12, 13, 9, 14, 15, 16, 17, 18, 19, 20, 21, 22, 23, 24, 25, 26, 27, 28, 29, 30, 31, 32, 33, 34, 35, 36, 37, 38, 39, 40, 41, 42, 43, 44, 45, 46, 47, 48, 49, 50, 51, 52, 53, 54, 55, 56, 57, 58, 59, 60] (by decide +kernel) (by decide +kernel)
set_option maxRecDepth 20000 in
theorem gX7_doShowSame_X7_workOut : GoodIn wsX7_doShowSame (wsV RX7 98 RX7 yX7_workOut wsX7_workOut) := goodIn_app (goodIn_of _ (by decide +kernel)) ggX7_doShowSame_X7_workOut
theorem dX7_doShowSame_0 : decode cX7_doShowSame 0 = .ok (.aload_n 0, 1) := by decide +kernel
theorem dX7_doShowSame_1 : decode cX7_doShowSame 1 = .ok (.iload_n 1, 1) := by decide +kernel
theorem dX7_doShowSame_2 : decode cX7_doShowSame 2 = .ok (.invokevirtual 98, 3) := by decide +kernel
theorem dX7_doShowSame_5 : decode cX7_doShowSame 5 = .ok (.aload_n 0, 1) := by decide +kernel
theorem dX7_doShowSame_6 : decode cX7_doShowSame 6 = .ok (.getfield 80, 3) := by decide +kernel
theorem dX7_doShowSame_9 : decode cX7_doShowSame 9 = .ok (.istore_n 3, 1) := by decide +kernel
theorem dX7_doShowSame_10 : decode cX7_doShowSame 10 = .ok (.iconst 0, 1) := by decide +kernel
theorem dX7_doShowSame_11 : decode cX7_doShowSame 11 = .ok (.istore 4, 2) := by decide +kernel
theorem dX7_doShowSame_13 : decode cX7_doShowSame 13 = .ok (.iload 4, 2) := by decide +kernel
theorem dX7_doShowSame_15 : decode cX7_doShowSame 15 = .ok (.iload_n 3, 1) := by decide +kernel
theorem dX7_doShowSame_16 : decode cX7_doShowSame 16 = .ok (.if_icmp .ge 37, 3) := by decide +kernel
theorem dX7_doShowSame_19 : decode cX7_doShowSame 19 = .ok (.aload_n 0, 1) := by decide +kernel
theorem dX7_doShowSame_20 : decode cX7_doShowSame 20 = .ok (.getfield 41, 3) := by decide +kernel
theorem dX7_doShowSame_23 : decode cX7_doShowSame 23 = .ok (.iload 4, 2) := by decide +kernel
theorem dX7_doShowSame_25 : decode cX7_doShowSame 25 = .ok (.aload_n 0, 1) := by decide +kernel
theorem dX7_doShowSame_26 : decode cX7_doShowSame 26 = .ok (.getfield 35, 3) := by decide +kernel
theorem dX7_doShowSame_29 : decode cX7_doShowSame 29 = .ok (.iload 4, 2) := by decide +kernel
theorem dX7_doShowSame_31 : decode cX7_doShowSame 31 = .ok (.iaload, 1) := by decide +kernel
theorem dX7_doShowSame_32 : decode cX7_doShowSame 32 = .ok (.iastore, 1) := by decide +kernel
theorem dX7_doShowSame_33 : decode cX7_doShowSame 33 = .ok (.aload_n 0, 1) := by decide +kernel
theorem dX7_doShowSame_34 : decode cX7_doShowSame 34 = .ok (.getfield 44, 3) := by decide +kernel
theorem dX7_doShowSame_37 : decode cX7_doShowSame 37 = .ok (.iload 4, 2) := by decide +kernel
theorem dX7_doShowSame_39 : decode cX7_doShowSame 39 = .ok (.aload_n 0, 1) := by decide +kernel
theorem dX7_doShowSame_40 : decode cX7_doShowSame 40 = .ok (.getfield 38, 3) := by decide +kernel
theorem dX7_doShowSame_43 : decode cX7_doShowSame 43 = .ok (.iload 4, 2) := by decide +kernel
theorem dX7_doShowSame_45 : decode cX7_doShowSame 45 = .ok (.iaload, 1) := by decide +kernel
theorem dX7_doShowSame_46 : decode cX7_doShowSame 46 = .ok (.iastore, 1) := by decide +kernel
theorem dX7_doShowSame_47 : decode cX7_doShowSame 47 = .ok (.iinc 4 1, 3) := by decide +kernel
theorem dX7_doShowSame_50 : decode cX7_doShowSame 50 = .ok (.goto (-37), 3) := by decide +kernel
theorem dX7_doShowSame_53 : decode cX7_doShowSame 53 = .ok (.aload_n 0, 1) := by decide +kernel
theorem dX7_doShowSame_54 : decode cX7_doShowSame 54 = .ok (.iload_n 2, 1) := by decide +kernel
theorem dX7_doShowSame_55 : decode cX7_doShowSame 55 = .ok (.invokevirtual 98, 3) := by decide +kernel
theorem dX7_doShowSame_58 : decode cX7_doShowSame 58 = .ok (.iload_n 3, 1) := by decide +kernel
theorem dX7_doShowSame_59 : decode cX7_doShowSame 59 = .ok (.aload_n 0, 1) := by decide +kernel
theorem dX7_doShowSame_60 : decode cX7_doShowSame 60 = .ok (.getfield 80, 3) := by decide +kernel
theorem dX7_doShowSame_63 : decode cX7_doShowSame 63 = .ok (.if_icmp .ne 7, 3) := by decide +kernel
theorem dX7_doShowSame_66 : decode cX7_doShowSame 66 = .ok (.iconst 1, 1) := by decide +kernel
theorem dX7_doShowSame_67 : decode cX7_doShowSame 67 = .ok (.goto 4, 3) := by decide +kernel
theorem dX7_doShowSame_70 : decode cX7_doShowSame 70 = .ok (.iconst 0, 1) := by decide +kernel
theorem dX7_doShowSame_71 : decode cX7_doShowSame 71 = .ok (.istore 4, 2) := by decide +kernel
theorem dX7_doShowSame_73 : decode cX7_doShowSame 73 = .ok (.iconst 0, 1) := by decide +kernel
theorem dX7_doShowSame_74 : decode cX7_doShowSame 74 = .ok (.istore 5, 2) := by decide +kernel
theorem dX7_doShowSame_76 : decode cX7_doShowSame 76 = .ok (.iload 5, 2) := by decide +kernel
theorem dX7_doShowSame_78 : decode cX7_doShowSame 78 = .ok (.iload_n 3, 1) := by decide +kernel
theorem dX7_doShowSame_79 : decode cX7_doShowSame 79 = .ok (.if_icmp .ge 55, 3) := by decide +kernel
theorem dX7_doShowSame_82 : decode cX7_doShowSame 82 = .ok (.iload 4, 2) := by decide +kernel
theorem dX7_doShowSame_84 : decode cX7_doShowSame 84 = .ok (.ifCond .eq 50, 3) := by decide +kernel
theorem dX7_doShowSame_87 : decode cX7_doShowSame 87 = .ok (.aload_n 0, 1) := by decide +kernel
theorem dX7_doShowSame_88 : decode cX7_doShowSame 88 = .ok (.getfield 35, 3) := by decide +kernel
theorem dX7_doShowSame_91 : decode cX7_doShowSame 91 = .ok (.iload 5, 2) := by decide +kernel
theorem dX7_doShowSame_93 : decode cX7_doShowSame 93 = .ok (.iaload, 1) := by decide +kernel
theorem dX7_doShowSame_94 : decode cX7_doShowSame 94 = .ok (.aload_n 0, 1) := by decide +kernel
theorem dX7_doShowSame_95 : decode cX7_doShowSame 95 = .ok (.getfield 41, 3) := by decide +kernel
theorem dX7_doShowSame_98 : decode cX7_doShowSame 98 = .ok (.iload 5, 2) := by decide +kernel
theorem dX7_doShowSame_100 : decode cX7_doShowSame 100 = .ok (.iaload, 1) := by decide +kernel
theorem dX7_doShowSame_101 : decode cX7_doShowSame 101 = .ok (.if_icmp .ne 24, 3) := by decide +kernel
theorem dX7_doShowSame_104 : decode cX7_doShowSame 104 = .ok (.aload_n 0, 1) := by decide +kernel
theorem dX7_doShowSame_105 : decode cX7_doShowSame 105 = .ok (.getfield 38, 3) := by decide +kernel
theorem dX7_doShowSame_108 : decode cX7_doShowSame 108 = .ok (.iload 5, 2) := by decide +kernel
theorem dX7_doShowSame_110 : decode cX7_doShowSame 110 = .ok (.iaload, 1) := by decide +kernel
theorem dX7_doShowSame_111 : decode cX7_doShowSame 111 = .ok (.aload_n 0, 1) := by decide +kernel
theorem dX7_doShowSame_112 : decode cX7_doShowSame 112 = .ok (.getfield 44, 3) := by decide +kernel
theorem dX7_doShowSame_115 : decode cX7_doShowSame 115 = .ok (.iload 5, 2) := by decide +kernel
theorem dX7_doShowSame_117 : decode cX7_doShowSame 117 = .ok (.iaload, 1) := by decide +kernel
theorem dX7_doShowSame_118 : decode cX7_doShowSame 118 = .ok (.if_icmp .ne 7, 3) := by decide +kernel
theorem dX7_doShowSame_121 : decode cX7_doShowSame 121 = .ok (.iconst 1, 1) := by decide +kernel
theorem dX7_doShowSame_122 : decode cX7_doShowSame 122 = .ok (.goto 4, 3) := by decide +kernel
theorem dX7_doShowSame_125 : decode cX7_doShowSame 125 = .ok (.iconst 0, 1) := by decide +kernel
theorem dX7_doShowSame_126 : decode cX7_doShowSame 126 = .ok (.istore 4, 2) := by decide +kernel
theorem dX7_doShowSame_128 : decode cX7_doShowSame 128 = .ok (.iinc 5 1, 3) := by decide +kernel
theorem dX7_doShowSame_131 : decode cX7_doShowSame 131 = .ok (.goto (-55), 3) := by decide +kernel
theorem dX7_doShowSame_134 : decode cX7_doShowSame 134 = .ok (.iload 4, 2) := by decide +kernel
theorem dX7_doShowSame_136 : decode cX7_doShowSame 136 = .ok (.ireturn, 1) := by decide +kernel
set_option maxRecDepth 20000 in
theorem ggX7_areSame_X7_isSite : GoodIn wsX7_areSame wsX7_isSite := goodIn_r _ [6, 7, 8, 9, 5, 10, 57, 58, 59, 60, 61, 62, 63, 64, 65, 66, 67, 68, 69, 70] (by decide +kernel) (by decide +kernel)
set_option maxRecDepth 20000 in
theorem gX7_areSame_X7_isSite : GoodIn wsX7_areSame (wsV RX7 54 RX7 yX7_isSite wsX7_isSite) := goodIn_app (goodIn_of _ (by decide +kernel)) ggX7_areSame_X7_isSite
set_option maxRecDepth 20000 in
theorem ggX7_areSame_X7_doShowSame : GoodIn wsX7_areSame wsX7_doShowSame := goodIn_r _ [14, 15, 16, 17, 18, 19, 20, 21, 22, 5, 23, 24, 25, 26, 27, 28, 29, 30, 31, 32, 33, 34, 35, 36, 37, 38, 39, 40, 41, 8, 9, 10, 42, 43, 44, 45, 46, 47, 48, 49, 50, 51, 52, 53, 54, 55, 56, 57, 58, 59, 60, 61, 62, 63, 64, 65, 66, 67, 68, 69, 70] (by decide +kernel) (by decide +kernel)
set_option maxRecDepth 20000 in
theorem gX7_areSame_X7_doShowSame : GoodIn wsX7_areSame (wsV RX7 126 RX7 yX7_doShowSame wsX7_doShowSame) := goodIn_app (goodIn_of _ (by decide +kernel)) ggX7_areSame_X7_doShowSame
theorem dX7_areSame_0 : decode cX7_areSame 0 = .ok (.aload_n 0, 1) := by decide +kernel
theorem dX7_areSame_1 : decode cX7_areSame 1 = .ok (.iload_n 1, 1) := by decide +kernel
theorem dX7_areSame_2 : decode cX7_areSame 2 = .ok (.invokevirtual 54, 3) := by decide +kernel
theorem dX7_areSame_5 : decode cX7_areSame 5 = .ok (.ifCond .eq 11, 3) := by decide +kernel
theorem dX7_areSame_8 : decode cX7_areSame 8 = .ok (.aload_n 0, 1) := by decide +kernel
theorem dX7_areSame_9 : decode cX7_areSame 9 = .ok (.iload_n 2, 1) := by decide +kernel
theorem dX7_areSame_10 : decode cX7_areSame 10 = .ok (.invokevirtual 54, 3) := by decide +kernel
theorem dX7_areSame_13 : decode cX7_areSame 13 = .ok (.ifCond .ne 6, 3) := by decide +kernel
theorem dX7_areSame_16 : decode cX7_areSame 16 = .ok (.ldc 89, 2) := by decide +kernel
theorem dX7_areSame_18 : decode cX7_areSame 18 = .ok (.ireturn, 1) := by decide +kernel
theorem dX7_areSame_19 : decode cX7_areSame 19 = .ok (.aload_n 0, 1) := by decide +kernel
theorem dX7_areSame_20 : decode cX7_areSame 20 = .ok (.iload_n 1, 1) := by decide +kernel
theorem dX7_areSame_21 : decode cX7_areSame 21 = .ok (.iload_n 2, 1) := by decide +kernel
theorem dX7_areSame_22 : decode cX7_areSame 22 = .ok (.invokevirtual 126, 3) := by decide +kernel
theorem dX7_areSame_25 : decode cX7_areSame 25 = .ok (.ifCond .eq 7, 3) := by decide +kernel
theorem dX7_areSame_28 : decode cX7_areSame 28 = .ok (.iconst 1, 1) := by decide +kernel
theorem dX7_areSame_29 : decode cX7_areSame 29 = .ok (.goto 4, 3) := by decide +kernel
theorem dX7_areSame_32 : decode cX7_areSame 32 = .ok (.iconst 0, 1) := by decide +kernel
theorem dX7_areSame_33 : decode cX7_areSame 33 = .ok (.ireturn, 1) := by decide +kernel
set_option maxRecDepth 20000 in
theorem ggX7_differing_X7_place : GoodIn wsX7_differing wsX7_place := goodIn_r _ [9] (by decide +kernel) (by decide +kernel)
set_option maxRecDepth 20000 in
theorem gX7_differing_X7_place : GoodIn wsX7_differing (va_wsS RX7 62 yX7_place wsX7_place) := goodIn_app (goodIn_of _ (by decide +kernel)) ggX7_differing_X7_place
set_option maxRecDepth 20000 in
theorem ggX7_differing_X7_doShowSame : GoodIn wsX7_differing wsX7_doShowSame := goodIn_r _ [13, 14, 15, 16, 17, 18, 19, 20, 21, 8, 22, 23, 24, 25, 26, 27, 28, 29, 30, 2, 31, 32, 33, 34, 35, 36, 37, 38, 39, 40, 41, 42, 43, 44, 45, 46, 6, 7, 9, 47, 48, 49, 50, 51, 52, 53, 54, 55, 56, 57, 58, 59, 60, 61, 62, 63, 64, 65, 66, 67, 68] (by decide +kernel) (by decide +kernel)
set_option maxRecDepth 20000 in
theorem gX7_differing_X7_doShowSame : GoodIn wsX7_differing (wsV RX7 126 RX7 yX7_doShowSame wsX7_doShowSame) := goodIn_app (goodIn_of _ (by decide +kernel)) ggX7_differing_X7_doShowSame
theorem dX7_differing_0 : decode cX7_differing 0 = .ok (.iconst 0, 1) := by decide +kernel
theorem dX7_differing_1 : decode cX7_differing 1 = .ok (.istore_n 1, 1) := by decide +kernel
theorem dX7_differing_2 : decode cX7_differing 2 = .ok (.iload_n 1, 1) := by decide +kernel
theorem dX7_differing_3 : decode cX7_differing 3 = .ok (.sipush 500, 3) := by decide +kernel
theorem dX7_differing_6 : decode cX7_differing 6 = .ok (.if_icmp .ge 21, 3) := by decide +kernel
theorem dX7_differing_9 : decode cX7_differing 9 = .ok (.aload_n 0, 1) := by decide +kernel
theorem dX7_differing_10 : decode cX7_differing 10 = .ok (.getfield 47, 3) := by decide +kernel
theorem dX7_differing_13 : decode cX7_differing 13 = .ok (.iload_n 1, 1) := by decide +kernel
theorem dX7_differing_14 : decode cX7_differing 14 = .ok (.aload_n 0, 1) := by decide +kernel
theorem dX7_differing_15 : decode cX7_differing 15 = .ok (.getfield 23, 3) := by decide +kernel
theorem dX7_differing_18 : decode cX7_differing 18 = .ok (.iload_n 1, 1) := by decide +kernel
theorem dX7_differing_19 : decode cX7_differing 19 = .ok (.iaload, 1) := by decide +kernel
theorem dX7_differing_20 : decode cX7_differing 20 = .ok (.iastore, 1) := by decide +kernel
theorem dX7_differing_21 : decode cX7_differing 21 = .ok (.iinc 1 1, 3) := by decide +kernel
theorem dX7_differing_24 : decode cX7_differing 24 = .ok (.goto (-22), 3) := by decide +kernel
theorem dX7_differing_27 : decode cX7_differing 27 = .ok (.iconst 0, 1) := by decide +kernel
theorem dX7_differing_28 : decode cX7_differing 28 = .ok (.istore_n 1, 1) := by decide +kernel
theorem dX7_differing_29 : decode cX7_differing 29 = .ok (.iload_n 1, 1) := by decide +kernel
theorem dX7_differing_30 : decode cX7_differing 30 = .ok (.bipush 25, 2) := by decide +kernel
theorem dX7_differing_32 : decode cX7_differing 32 = .ok (.if_icmp .ge 57, 3) := by decide +kernel
theorem dX7_differing_35 : decode cX7_differing 35 = .ok (.iconst 0, 1) := by decide +kernel
theorem dX7_differing_36 : decode cX7_differing 36 = .ok (.istore_n 2, 1) := by decide +kernel
theorem dX7_differing_37 : decode cX7_differing 37 = .ok (.iload_n 2, 1) := by decide +kernel
theorem dX7_differing_38 : decode cX7_differing 38 = .ok (.aload_n 0, 1) := by decide +kernel
theorem dX7_differing_39 : decode cX7_differing 39 = .ok (.getfield 32, 3) := by decide +kernel
theorem dX7_differing_42 : decode cX7_differing 42 = .ok (.iload_n 1, 1) := by decide +kernel
theorem dX7_differing_43 : decode cX7_differing 43 = .ok (.iaload, 1) := by decide +kernel
theorem dX7_differing_44 : decode cX7_differing 44 = .ok (.if_icmp .ge 39, 3) := by decide +kernel
theorem dX7_differing_47 : decode cX7_differing 47 = .ok (.aload_n 0, 1) := by decide +kernel
theorem dX7_differing_48 : decode cX7_differing 48 = .ok (.getfield 23, 3) := by decide +kernel
theorem dX7_differing_51 : decode cX7_differing 51 = .ok (.bipush 100, 2) := by decide +kernel
theorem dX7_differing_53 : decode cX7_differing 53 = .ok (.iload_n 1, 1) := by decide +kernel
theorem dX7_differing_54 : decode cX7_differing 54 = .ok (.iconst 5, 1) := by decide +kernel
theorem dX7_differing_55 : decode cX7_differing 55 = .ok (.irem, 1) := by decide +kernel
theorem dX7_differing_56 : decode cX7_differing 56 = .ok (.imul, 1) := by decide +kernel
theorem dX7_differing_57 : decode cX7_differing 57 = .ok (.iload_n 1, 1) := by decide +kernel
theorem dX7_differing_58 : decode cX7_differing 58 = .ok (.iconst 5, 1) := by decide +kernel
theorem dX7_differing_59 : decode cX7_differing 59 = .ok (.idiv, 1) := by decide +kernel
theorem dX7_differing_60 : decode cX7_differing 60 = .ok (.aload_n 0, 1) := by decide +kernel
theorem dX7_differing_61 : decode cX7_differing 61 = .ok (.getfield 29, 3) := by decide +kernel
theorem dX7_differing_64 : decode cX7_differing 64 = .ok (.bipush 10, 2) := by decide +kernel
theorem dX7_differing_66 : decode cX7_differing 66 = .ok (.iload_n 1, 1) := by decide +kernel
theorem dX7_differing_67 : decode cX7_differing 67 = .ok (.imul, 1) := by decide +kernel
theorem dX7_differing_68 : decode cX7_differing 68 = .ok (.iload_n 2, 1) := by decide +kernel
theorem dX7_differing_69 : decode cX7_differing 69 = .ok (.iadd, 1) := by decide +kernel
theorem dX7_differing_70 : decode cX7_differing 70 = .ok (.iaload, 1) := by decide +kernel
theorem dX7_differing_71 : decode cX7_differing 71 = .ok (.invokestatic 62, 3) := by decide +kernel
theorem dX7_differing_74 : decode cX7_differing 74 = .ok (.iadd, 1) := by decide +kernel
theorem dX7_differing_75 : decode cX7_differing 75 = .ok (.iconst 1, 1) := by decide +kernel
theorem dX7_differing_76 : decode cX7_differing 76 = .ok (.iastore, 1) := by decide +kernel
theorem dX7_differing_77 : decode cX7_differing 77 = .ok (.iinc 2 1, 3) := by decide +kernel
theorem dX7_differing_80 : decode cX7_differing 80 = .ok (.goto (-43), 3) := by decide +kernel
theorem dX7_differing_83 : decode cX7_differing 83 = .ok (.iinc 1 1, 3) := by decide +kernel
theorem dX7_differing_86 : decode cX7_differing 86 = .ok (.goto (-57), 3) := by decide +kernel
theorem dX7_differing_89 : decode cX7_differing 89 = .ok (.iconst 0, 1) := by decide +kernel
theorem dX7_differing_90 : decode cX7_differing 90 = .ok (.istore_n 1, 1) := by decide +kernel
theorem dX7_differing_91 : decode cX7_differing 91 = .ok (.iconst 0, 1) := by decide +kernel
theorem dX7_differing_92 : decode cX7_differing 92 = .ok (.istore_n 2, 1) := by decide +kernel
theorem dX7_differing_93 : decode cX7_differing 93 = .ok (.iload_n 2, 1) := by decide +kernel
theorem dX7_differing_94 : decode cX7_differing 94 = .ok (.aload_n 0, 1) := by decide +kernel
theorem dX7_differing_95 : decode cX7_differing 95 = .ok (.getfield 7, 3) := by decide +kernel
theorem dX7_differing_98 : decode cX7_differing 98 = .ok (.if_icmp .ge 44, 3) := by decide +kernel
theorem dX7_differing_101 : decode cX7_differing 101 = .ok (.iload_n 2, 1) := by decide +kernel
theorem dX7_differing_102 : decode cX7_differing 102 = .ok (.iconst 1, 1) := by decide +kernel
theorem dX7_differing_103 : decode cX7_differing 103 = .ok (.iadd, 1) := by decide +kernel
theorem dX7_differing_104 : decode cX7_differing 104 = .ok (.istore_n 3, 1) := by decide +kernel
theorem dX7_differing_105 : decode cX7_differing 105 = .ok (.iload_n 3, 1) := by decide +kernel
theorem dX7_differing_106 : decode cX7_differing 106 = .ok (.aload_n 0, 1) := by decide +kernel
theorem dX7_differing_107 : decode cX7_differing 107 = .ok (.getfield 7, 3) := by decide +kernel
theorem dX7_differing_110 : decode cX7_differing 110 = .ok (.if_icmp .ge 26, 3) := by decide +kernel
theorem dX7_differing_113 : decode cX7_differing 113 = .ok (.iload_n 1, 1) := by decide +kernel
theorem dX7_differing_114 : decode cX7_differing 114 = .ok (.aload_n 0, 1) := by decide +kernel
theorem dX7_differing_115 : decode cX7_differing 115 = .ok (.iload_n 2, 1) := by decide +kernel
theorem dX7_differing_116 : decode cX7_differing 116 = .ok (.iload_n 3, 1) := by decide +kernel
theorem dX7_differing_117 : decode cX7_differing 117 = .ok (.invokevirtual 126, 3) := by decide +kernel
theorem dX7_differing_120 : decode cX7_differing 120 = .ok (.ifCond .eq 7, 3) := by decide +kernel
theorem dX7_differing_123 : decode cX7_differing 123 = .ok (.iconst 0, 1) := by decide +kernel
theorem dX7_differing_124 : decode cX7_differing 124 = .ok (.goto 4, 3) := by decide +kernel
theorem dX7_differing_127 : decode cX7_differing 127 = .ok (.iconst 1, 1) := by decide +kernel
theorem dX7_differing_128 : decode cX7_differing 128 = .ok (.iadd, 1) := by decide +kernel
theorem dX7_differing_129 : decode cX7_differing 129 = .ok (.istore_n 1, 1) := by decide +kernel
theorem dX7_differing_130 : decode cX7_differing 130 = .ok (.iinc 3 1, 3) := by decide +kernel
theorem dX7_differing_133 : decode cX7_differing 133 = .ok (.goto (-28), 3) := by decide +kernel
theorem dX7_differing_136 : decode cX7_differing 136 = .ok (.iinc 2 1, 3) := by decide +kernel
theorem dX7_differing_139 : decode cX7_differing 139 = .ok (.goto (-46), 3) := by decide +kernel
theorem dX7_differing_142 : decode cX7_differing 142 = .ok (.iconst 0, 1) := by decide +kernel
theorem dX7_differing_143 : decode cX7_differing 143 = .ok (.istore_n 2, 1) := by decide +kernel
theorem dX7_differing_144 : decode cX7_differing 144 = .ok (.iload_n 2, 1) := by decide +kernel
theorem dX7_differing_145 : decode cX7_differing 145 = .ok (.sipush 500, 3) := by decide +kernel
theorem dX7_differing_148 : decode cX7_differing 148 = .ok (.if_icmp .ge 21, 3) := by decide +kernel
theorem dX7_differing_151 : decode cX7_differing 151 = .ok (.aload_n 0, 1) := by decide +kernel
theorem dX7_differing_152 : decode cX7_differing 152 = .ok (.getfield 23, 3) := by decide +kernel
theorem dX7_differing_155 : decode cX7_differing 155 = .ok (.iload_n 2, 1) := by decide +kernel
theorem dX7_differing_156 : decode cX7_differing 156 = .ok (.aload_n 0, 1) := by decide +kernel
theorem dX7_differing_157 : decode cX7_differing 157 = .ok (.getfield 47, 3) := by decide +kernel
theorem dX7_differing_160 : decode cX7_differing 160 = .ok (.iload_n 2, 1) := by decide +kernel
theorem dX7_differing_161 : decode cX7_differing 161 = .ok (.iaload, 1) := by decide +kernel
theorem dX7_differing_162 : decode cX7_differing 162 = .ok (.iastore, 1) := by decide +kernel
theorem dX7_differing_163 : decode cX7_differing 163 = .ok (.iinc 2 1, 3) := by decide +kernel
theorem dX7_differing_166 : decode cX7_differing 166 = .ok (.goto (-22), 3) := by decide +kernel
theorem dX7_differing_169 : decode cX7_differing 169 = .ok (.iload_n 1, 1) := by decide +kernel
theorem dX7_differing_170 : decode cX7_differing 170 = .ok (.ireturn, 1) := by decide +kernel
set_option maxRecDepth 20000 in
theorem ggX7_bestHelper_X7_isSite : GoodIn wsX7_bestHelper wsX7_isSite := goodIn_r _ [8, 3, 9, 10, 7, 11, 33, 34, 35, 36, 37, 38, 39, 40, 41, 42, 43, 44, 45, 46] (by decide +kernel) (by decide +kernel)
set_option maxRecDepth 20000 in
theorem gX7_bestHelper_X7_isSite : GoodIn wsX7_bestHelper (wsV RX7 54 RX7 yX7_isSite wsX7_isSite) := goodIn_app (goodIn_of _ (by decide +kernel)) ggX7_bestHelper_X7_isSite
set_option maxRecDepth 20000 in
theorem ggX7_bestHelper_X7_givenMany : GoodIn wsX7_bestHelper wsX7_givenMany := goodIn_r _ [15, 16, 17, 18, 7, 19, 20, 21, 22, 23, 24, 25, 26, 27, 28, 29, 30, 31, 32, 33, 34, 35, 36, 37, 38, 39, 40, 41, 42, 43, 44, 45, 46] (by decide +kernel) (by decide +kernel)
set_option maxRecDepth 20000 in
theorem gX7_bestHelper_X7_givenMany : GoodIn wsX7_bestHelper (wsV RX7 129 RX7 yX7_givenMany wsX7_givenMany) := goodIn_app (goodIn_of _ (by decide +kernel)) ggX7_bestHelper_X7_givenMany
theorem dX7_bestHelper_0 : decode cX7_bestHelper 0 = .ok (.aload_n 0, 1) := by decide +kernel
theorem dX7_bestHelper_1 : decode cX7_bestHelper 1 = .ok (.iload_n 1, 1) := by decide +kernel
theorem dX7_bestHelper_2 : decode cX7_bestHelper 2 = .ok (.invokevirtual 54, 3) := by decide +kernel
theorem dX7_bestHelper_5 : decode cX7_bestHelper 5 = .ok (.ifCond .ne 6, 3) := by decide +kernel
theorem dX7_bestHelper_8 : decode cX7_bestHelper 8 = .ok (.ldc 89, 2) := by decide +kernel
theorem dX7_bestHelper_10 : decode cX7_bestHelper 10 = .ok (.ireturn, 1) := by decide +kernel
theorem dX7_bestHelper_11 : decode cX7_bestHelper 11 = .ok (.ldc 109, 2) := by decide +kernel
theorem dX7_bestHelper_13 : decode cX7_bestHelper 13 = .ok (.istore_n 2, 1) := by decide +kernel
theorem dX7_bestHelper_14 : decode cX7_bestHelper 14 = .ok (.iconst 0, 1) := by decide +kernel
theorem dX7_bestHelper_15 : decode cX7_bestHelper 15 = .ok (.istore_n 3, 1) := by decide +kernel
theorem dX7_bestHelper_16 : decode cX7_bestHelper 16 = .ok (.iconst 0, 1) := by decide +kernel
theorem dX7_bestHelper_17 : decode cX7_bestHelper 17 = .ok (.istore 4, 2) := by decide +kernel
theorem dX7_bestHelper_19 : decode cX7_bestHelper 19 = .ok (.iload 4, 2) := by decide +kernel
theorem dX7_bestHelper_21 : decode cX7_bestHelper 21 = .ok (.aload_n 0, 1) := by decide +kernel
theorem dX7_bestHelper_22 : decode cX7_bestHelper 22 = .ok (.getfield 7, 3) := by decide +kernel
theorem dX7_bestHelper_25 : decode cX7_bestHelper 25 = .ok (.if_icmp .ge 54, 3) := by decide +kernel
theorem dX7_bestHelper_28 : decode cX7_bestHelper 28 = .ok (.iload 4, 2) := by decide +kernel
theorem dX7_bestHelper_30 : decode cX7_bestHelper 30 = .ok (.iload_n 1, 1) := by decide +kernel
theorem dX7_bestHelper_31 : decode cX7_bestHelper 31 = .ok (.if_icmp .ne 7, 3) := by decide +kernel
theorem dX7_bestHelper_34 : decode cX7_bestHelper 34 = .ok (.iconst 0, 1) := by decide +kernel
theorem dX7_bestHelper_35 : decode cX7_bestHelper 35 = .ok (.goto 10, 3) := by decide +kernel
theorem dX7_bestHelper_38 : decode cX7_bestHelper 38 = .ok (.aload_n 0, 1) := by decide +kernel
theorem dX7_bestHelper_39 : decode cX7_bestHelper 39 = .ok (.iload_n 1, 1) := by decide +kernel
theorem dX7_bestHelper_40 : decode cX7_bestHelper 40 = .ok (.iload 4, 2) := by decide +kernel
theorem dX7_bestHelper_42 : decode cX7_bestHelper 42 = .ok (.invokevirtual 129, 3) := by decide +kernel
theorem dX7_bestHelper_45 : decode cX7_bestHelper 45 = .ok (.istore 5, 2) := by decide +kernel
theorem dX7_bestHelper_47 : decode cX7_bestHelper 47 = .ok (.iload 5, 2) := by decide +kernel
theorem dX7_bestHelper_49 : decode cX7_bestHelper 49 = .ok (.iload_n 3, 1) := by decide +kernel
theorem dX7_bestHelper_50 : decode cX7_bestHelper 50 = .ok (.if_icmp .le 8, 3) := by decide +kernel
theorem dX7_bestHelper_53 : decode cX7_bestHelper 53 = .ok (.iload 4, 2) := by decide +kernel
theorem dX7_bestHelper_55 : decode cX7_bestHelper 55 = .ok (.goto 4, 3) := by decide +kernel
theorem dX7_bestHelper_58 : decode cX7_bestHelper 58 = .ok (.iload_n 2, 1) := by decide +kernel
theorem dX7_bestHelper_59 : decode cX7_bestHelper 59 = .ok (.istore_n 2, 1) := by decide +kernel
theorem dX7_bestHelper_60 : decode cX7_bestHelper 60 = .ok (.iload 5, 2) := by decide +kernel
theorem dX7_bestHelper_62 : decode cX7_bestHelper 62 = .ok (.iload_n 3, 1) := by decide +kernel
theorem dX7_bestHelper_63 : decode cX7_bestHelper 63 = .ok (.if_icmp .le 8, 3) := by decide +kernel
theorem dX7_bestHelper_66 : decode cX7_bestHelper 66 = .ok (.iload 5, 2) := by decide +kernel
theorem dX7_bestHelper_68 : decode cX7_bestHelper 68 = .ok (.goto 4, 3) := by decide +kernel
theorem dX7_bestHelper_71 : decode cX7_bestHelper 71 = .ok (.iload_n 3, 1) := by decide +kernel
theorem dX7_bestHelper_72 : decode cX7_bestHelper 72 = .ok (.istore_n 3, 1) := by decide +kernel
theorem dX7_bestHelper_73 : decode cX7_bestHelper 73 = .ok (.iinc 4 1, 3) := by decide +kernel
theorem dX7_bestHelper_76 : decode cX7_bestHelper 76 = .ok (.goto (-57), 3) := by decide +kernel
theorem dX7_bestHelper_79 : decode cX7_bestHelper 79 = .ok (.iload_n 2, 1) := by decide +kernel
theorem dX7_bestHelper_80 : decode cX7_bestHelper 80 = .ok (.ireturn, 1) := by decide +kernel
set_option maxRecDepth 20000 in
theorem ggX7_isSafe_X7_place : GoodIn wsX7_isSafe wsX7_place := goodIn_r _ [7] (by decide +kernel) (by decide +kernel)
set_option maxRecDepth 20000 in
theorem gX7_isSafe_X7_place : GoodIn wsX7_isSafe (va_wsS RX7 62 yX7_place wsX7_place) := goodIn_app (goodIn_of _ (by decide +kernel)) ggX7_isSafe_X7_place
set_option maxRecDepth 20000 in
theorem ggX7_isSafe_X7_doesKnow : GoodIn wsX7_isSafe wsX7_doesKnow := goodIn_r _ [11, 12, 13, 14, 15, 16, 17, 18, 19, 20, 21, 22, 23, 24, 25, 26] (by decide +kernel) (by decide +kernel)
set_option maxRecDepth 20000 in
theorem gX7_isSafe_X7_doesKnow : GoodIn wsX7_isSafe (wsV RX7 65 RX7 yX7_doesKnow wsX7_doesKnow) := goodIn_app (goodIn_of _ (by decide +kernel)) ggX7_isSafe_X7_doesKnow
theorem dX7_isSafe_0 : decode cX7_isSafe 0 = .ok (.iconst 0, 1) := by decide +kernel
theorem dX7_isSafe_1 : decode cX7_isSafe 1 = .ok (.istore_n 3, 1) := by decide +kernel
theorem dX7_isSafe_2 : decode cX7_isSafe 2 = .ok (.iconst 0, 1) := by decide +kernel
theorem dX7_isSafe_3 : decode cX7_isSafe 3 = .ok (.istore 4, 2) := by decide +kernel
theorem dX7_isSafe_5 : decode cX7_isSafe 5 = .ok (.iload 4, 2) := by decide +kernel
theorem dX7_isSafe_7 : decode cX7_isSafe 7 = .ok (.aload_n 0, 1) := by decide +kernel
theorem dX7_isSafe_8 : decode cX7_isSafe 8 = .ok (.getfield 7, 3) := by decide +kernel
theorem dX7_isSafe_11 : decode cX7_isSafe 11 = .ok (.if_icmp .ge 95, 3) := by decide +kernel
theorem dX7_isSafe_14 : decode cX7_isSafe 14 = .ok (.iload_n 3, 1) := by decide +kernel
theorem dX7_isSafe_15 : decode cX7_isSafe 15 = .ok (.ifCond .ne 23, 3) := by decide +kernel
theorem dX7_isSafe_18 : decode cX7_isSafe 18 = .ok (.iload 4, 2) := by decide +kernel
theorem dX7_isSafe_20 : decode cX7_isSafe 20 = .ok (.iload_n 1, 1) := by decide +kernel
theorem dX7_isSafe_21 : decode cX7_isSafe 21 = .ok (.if_icmp .eq 21, 3) := by decide +kernel
theorem dX7_isSafe_24 : decode cX7_isSafe 24 = .ok (.aload_n 0, 1) := by decide +kernel
theorem dX7_isSafe_25 : decode cX7_isSafe 25 = .ok (.iload 4, 2) := by decide +kernel
theorem dX7_isSafe_27 : decode cX7_isSafe 27 = .ok (.iload_n 1, 1) := by decide +kernel
theorem dX7_isSafe_28 : decode cX7_isSafe 28 = .ok (.iload_n 2, 1) := by decide +kernel
theorem dX7_isSafe_29 : decode cX7_isSafe 29 = .ok (.invokestatic 62, 3) := by decide +kernel
theorem dX7_isSafe_32 : decode cX7_isSafe 32 = .ok (.invokevirtual 65, 3) := by decide +kernel
theorem dX7_isSafe_35 : decode cX7_isSafe 35 = .ok (.ifCond .eq 7, 3) := by decide +kernel
theorem dX7_isSafe_38 : decode cX7_isSafe 38 = .ok (.iconst 1, 1) := by decide +kernel
theorem dX7_isSafe_39 : decode cX7_isSafe 39 = .ok (.goto 4, 3) := by decide +kernel
theorem dX7_isSafe_42 : decode cX7_isSafe 42 = .ok (.iconst 0, 1) := by decide +kernel
theorem dX7_isSafe_43 : decode cX7_isSafe 43 = .ok (.istore_n 3, 1) := by decide +kernel
theorem dX7_isSafe_44 : decode cX7_isSafe 44 = .ok (.iconst 0, 1) := by decide +kernel
theorem dX7_isSafe_45 : decode cX7_isSafe 45 = .ok (.istore 5, 2) := by decide +kernel
theorem dX7_isSafe_47 : decode cX7_isSafe 47 = .ok (.iload 5, 2) := by decide +kernel
theorem dX7_isSafe_49 : decode cX7_isSafe 49 = .ok (.aload_n 0, 1) := by decide +kernel
theorem dX7_isSafe_50 : decode cX7_isSafe 50 = .ok (.getfield 32, 3) := by decide +kernel
theorem dX7_isSafe_53 : decode cX7_isSafe 53 = .ok (.iconst 5, 1) := by decide +kernel
theorem dX7_isSafe_54 : decode cX7_isSafe 54 = .ok (.iload_n 1, 1) := by decide +kernel
theorem dX7_isSafe_55 : decode cX7_isSafe 55 = .ok (.imul, 1) := by decide +kernel
theorem dX7_isSafe_56 : decode cX7_isSafe 56 = .ok (.iload 4, 2) := by decide +kernel
theorem dX7_isSafe_58 : decode cX7_isSafe 58 = .ok (.iadd, 1) := by decide +kernel
theorem dX7_isSafe_59 : decode cX7_isSafe 59 = .ok (.iaload, 1) := by decide +kernel
theorem dX7_isSafe_60 : decode cX7_isSafe 60 = .ok (.if_icmp .ge 40, 3) := by decide +kernel
theorem dX7_isSafe_63 : decode cX7_isSafe 63 = .ok (.iload_n 3, 1) := by decide +kernel
theorem dX7_isSafe_64 : decode cX7_isSafe 64 = .ok (.ifCond .ne 24, 3) := by decide +kernel
theorem dX7_isSafe_67 : decode cX7_isSafe 67 = .ok (.aload_n 0, 1) := by decide +kernel
theorem dX7_isSafe_68 : decode cX7_isSafe 68 = .ok (.getfield 29, 3) := by decide +kernel
theorem dX7_isSafe_71 : decode cX7_isSafe 71 = .ok (.bipush 10, 2) := by decide +kernel
theorem dX7_isSafe_73 : decode cX7_isSafe 73 = .ok (.iconst 5, 1) := by decide +kernel
theorem dX7_isSafe_74 : decode cX7_isSafe 74 = .ok (.iload_n 1, 1) := by decide +kernel
theorem dX7_isSafe_75 : decode cX7_isSafe 75 = .ok (.imul, 1) := by decide +kernel
theorem dX7_isSafe_76 : decode cX7_isSafe 76 = .ok (.iload 4, 2) := by decide +kernel
theorem dX7_isSafe_78 : decode cX7_isSafe 78 = .ok (.iadd, 1) := by decide +kernel
theorem dX7_isSafe_79 : decode cX7_isSafe 79 = .ok (.imul, 1) := by decide +kernel
theorem dX7_isSafe_80 : decode cX7_isSafe 80 = .ok (.iload 5, 2) := by decide +kernel
theorem dX7_isSafe_82 : decode cX7_isSafe 82 = .ok (.iadd, 1) := by decide +kernel
theorem dX7_isSafe_83 : decode cX7_isSafe 83 = .ok (.iaload, 1) := by decide +kernel
theorem dX7_isSafe_84 : decode cX7_isSafe 84 = .ok (.iload_n 2, 1) := by decide +kernel
theorem dX7_isSafe_85 : decode cX7_isSafe 85 = .ok (.if_icmp .ne 7, 3) := by decide +kernel
theorem dX7_isSafe_88 : decode cX7_isSafe 88 = .ok (.iconst 1, 1) := by decide +kernel
theorem dX7_isSafe_89 : decode cX7_isSafe 89 = .ok (.goto 4, 3) := by decide +kernel
theorem dX7_isSafe_92 : decode cX7_isSafe 92 = .ok (.iconst 0, 1) := by decide +kernel
theorem dX7_isSafe_93 : decode cX7_isSafe 93 = .ok (.istore_n 3, 1) := by decide +kernel
theorem dX7_isSafe_94 : decode cX7_isSafe 94 = .ok (.iinc 5 1, 3) := by decide +kernel
theorem dX7_isSafe_97 : decode cX7_isSafe 97 = .ok (.goto (-50), 3) := by decide +kernel
theorem dX7_isSafe_100 : decode cX7_isSafe 100 = .ok (.iinc 4 1, 3) := by decide +kernel
theorem dX7_isSafe_103 : decode cX7_isSafe 103 = .ok (.goto (-98), 3) := by decide +kernel
theorem dX7_isSafe_106 : decode cX7_isSafe 106 = .ok (.iload_n 3, 1) := by decide +kernel
theorem dX7_isSafe_107 : decode cX7_isSafe 107 = .ok (.ireturn, 1) := by decide +kernel
set_option maxRecDepth 20000 in
theorem ggX7_endangered_X7_isSite : GoodIn wsX7_endangered wsX7_isSite := goodIn_r _ [7, 8, 9, 10, 6, 11, 26, 27, 28, 29, 30, 31, 32, 33, 34, 35, 36, 37, 38, 39] (by decide +kernel) (by decide +kernel)
set_option maxRecDepth 20000 in
theorem gX7_endangered_X7_isSite : GoodIn wsX7_endangered (wsV RX7 54 RX7 yX7_isSite wsX7_isSite) := goodIn_app (goodIn_of _ (by decide +kernel)) ggX7_endangered_X7_isSite
set_option maxRecDepth 20000 in
theorem ggX7_endangered_X7_isSafe : GoodIn wsX7_endangered wsX7_isSafe := goodIn_r _ [15, 8, 16, 17, 18, 19, 6, 20, 21, 22, 23, 24, 25, 26, 27, 28, 29, 30, 31, 32, 33, 34, 35, 36, 37, 38, 39] (by decide +kernel) (by decide +kernel)
set_option maxRecDepth 20000 in
theorem gX7_endangered_X7_isSafe : GoodIn wsX7_endangered (wsV RX7 132 RX7 yX7_isSafe wsX7_isSafe) := goodIn_app (goodIn_of _ (by decide +kernel)) ggX7_endangered_X7_isSafe
theorem dX7_endangered_0 : decode cX7_endangered 0 = .ok (.aload_n 0, 1) := by decide +kernel
theorem dX7_endangered_1 : decode cX7_endangered 1 = .ok (.iload_n 1, 1) := by decide +kernel
theorem dX7_endangered_2 : decode cX7_endangered 2 = .ok (.invokevirtual 54, 3) := by decide +kernel
theorem dX7_endangered_5 : decode cX7_endangered 5 = .ok (.ifCond .ne 6, 3) := by decide +kernel
theorem dX7_endangered_8 : decode cX7_endangered 8 = .ok (.ldc 89, 2) := by decide +kernel
theorem dX7_endangered_10 : decode cX7_endangered 10 = .ok (.ireturn, 1) := by decide +kernel
theorem dX7_endangered_11 : decode cX7_endangered 11 = .ok (.iconst 0, 1) := by decide +kernel
theorem dX7_endangered_12 : decode cX7_endangered 12 = .ok (.istore_n 2, 1) := by decide +kernel
theorem dX7_endangered_13 : decode cX7_endangered 13 = .ok (.iconst 1, 1) := by decide +kernel
theorem dX7_endangered_14 : decode cX7_endangered 14 = .ok (.istore_n 3, 1) := by decide +kernel
theorem dX7_endangered_15 : decode cX7_endangered 15 = .ok (.iload_n 3, 1) := by decide +kernel
theorem dX7_endangered_16 : decode cX7_endangered 16 = .ok (.aload_n 0, 1) := by decide +kernel
theorem dX7_endangered_17 : decode cX7_endangered 17 = .ok (.getfield 17, 3) := by decide +kernel
theorem dX7_endangered_20 : decode cX7_endangered 20 = .ok (.iload_n 1, 1) := by decide +kernel
theorem dX7_endangered_21 : decode cX7_endangered 21 = .ok (.iaload, 1) := by decide +kernel
theorem dX7_endangered_22 : decode cX7_endangered 22 = .ok (.if_icmp .gt 26, 3) := by decide +kernel
theorem dX7_endangered_25 : decode cX7_endangered 25 = .ok (.iload_n 2, 1) := by decide +kernel
theorem dX7_endangered_26 : decode cX7_endangered 26 = .ok (.aload_n 0, 1) := by decide +kernel
theorem dX7_endangered_27 : decode cX7_endangered 27 = .ok (.iload_n 1, 1) := by decide +kernel
theorem dX7_endangered_28 : decode cX7_endangered 28 = .ok (.iload_n 3, 1) := by decide +kernel
theorem dX7_endangered_29 : decode cX7_endangered 29 = .ok (.invokevirtual 132, 3) := by decide +kernel
theorem dX7_endangered_32 : decode cX7_endangered 32 = .ok (.ifCond .eq 7, 3) := by decide +kernel
theorem dX7_endangered_35 : decode cX7_endangered 35 = .ok (.iconst 0, 1) := by decide +kernel
theorem dX7_endangered_36 : decode cX7_endangered 36 = .ok (.goto 4, 3) := by decide +kernel
theorem dX7_endangered_39 : decode cX7_endangered 39 = .ok (.iconst 1, 1) := by decide +kernel
theorem dX7_endangered_40 : decode cX7_endangered 40 = .ok (.iadd, 1) := by decide +kernel
theorem dX7_endangered_41 : decode cX7_endangered 41 = .ok (.istore_n 2, 1) := by decide +kernel
theorem dX7_endangered_42 : decode cX7_endangered 42 = .ok (.iinc 3 1, 3) := by decide +kernel
theorem dX7_endangered_45 : decode cX7_endangered 45 = .ok (.goto (-30), 3) := by decide +kernel
theorem dX7_endangered_48 : decode cX7_endangered 48 = .ok (.iload_n 2, 1) := by decide +kernel
theorem dX7_endangered_49 : decode cX7_endangered 49 = .ok (.ireturn, 1) := by decide +kernel
theorem dJ6_compare_7cf53_0 : decode cJ6_compare_7cf53 0 = .ok (.iload_n 0, 1) := by decide +kernel
theorem dJ6_compare_7cf53_1 : decode cJ6_compare_7cf53 1 = .ok (.iload_n 1, 1) := by decide +kernel
theorem dJ6_compare_7cf53_2 : decode cJ6_compare_7cf53 2 = .ok (.if_icmp .ge 7, 3) := by decide +kernel
theorem dJ6_compare_7cf53_5 : decode cJ6_compare_7cf53 5 = .ok (.iconst (-1), 1) := by decide +kernel
theorem dJ6_compare_7cf53_6 : decode cJ6_compare_7cf53 6 = .ok (.goto 13, 3) := by decide +kernel
theorem dJ6_compare_7cf53_9 : decode cJ6_compare_7cf53 9 = .ok (.iload_n 0, 1) := by decide +kernel
theorem dJ6_compare_7cf53_10 : decode cJ6_compare_7cf53 10 = .ok (.iload_n 1, 1) := by decide +kernel
theorem dJ6_compare_7cf53_11 : decode cJ6_compare_7cf53 11 = .ok (.if_icmp .ne 7, 3) := by decide +kernel
theorem dJ6_compare_7cf53_14 : decode cJ6_compare_7cf53 14 = .ok (.iconst 0, 1) := by decide +kernel
theorem dJ6_compare_7cf53_15 : decode cJ6_compare_7cf53 15 = .ok (.goto 4, 3) := by decide +kernel
theorem dJ6_compare_7cf53_18 : decode cJ6_compare_7cf53 18 = .ok (.iconst 1, 1) := by decide +kernel
theorem dJ6_compare_7cf53_19 : decode cJ6_compare_7cf53 19 = .ok (.ireturn, 1) := by decide +kernel
theorem dJ9_max_7cf53_0 : decode cJ9_max_7cf53 0 = .ok (.iload_n 0, 1) := by decide +kernel
theorem dJ9_max_7cf53_1 : decode cJ9_max_7cf53 1 = .ok (.iload_n 1, 1) := by decide +kernel
theorem dJ9_max_7cf53_2 : decode cJ9_max_7cf53 2 = .ok (.if_icmp .lt 7, 3) := by decide +kernel
theorem dJ9_max_7cf53_5 : decode cJ9_max_7cf53 5 = .ok (.iload_n 0, 1) := by decide +kernel
theorem dJ9_max_7cf53_6 : decode cJ9_max_7cf53 6 = .ok (.goto 4, 3) := by decide +kernel
theorem dJ9_max_7cf53_9 : decode cJ9_max_7cf53 9 = .ok (.iload_n 1, 1) := by decide +kernel
theorem dJ9_max_7cf53_10 : decode cJ9_max_7cf53 10 = .ok (.ireturn, 1) := by decide +kernel
set_option maxRecDepth 20000 in
theorem ggL_law_X6_init : GoodIn wsL_law wsX6_init := goodIn_r _ [8, 9, 10, 11, 12, 13, 14, 15, 16, 17, 18, 19, 20, 21, 22, 23, 24, 25, 26, 27, 28, 29, 30, 31, 32, 33, 34, 35, 36, 37, 38, 39, 40, 41, 42, 43, 44, 45, 46, 47, 48, 49, 50, 51, 52, 53, 54, 55, 56, 57, 58, 59, 60, 61, 62, 63, 64, 65, 66, 67, 68, 69, 70, 71, 72, 73, 74, 75, 76, 77, 78, 79, 80, 81, 82, 83, 84, 85, 86, 87, 88, 89, 90, 91, 92, 93, 94, 784, 785, 786, 787, 788, 789, 790, 791, 761, 762, 763, 764, 765, 766, 767, 768, 769, 792, 793, 794, 795, 796, 797, 798, 799, 800, 801, 802, 803, 804] (by decide +kernel) (by decide +kernel)
set_option maxRecDepth 20000 in
theorem gL_law_X6_init : GoodIn wsL_law (wsX6_init) := ggL_law_X6_init
set_option maxRecDepth 20000 in
theorem ggL_law_X7_init : GoodIn wsL_law wsX7_init := goodIn_r _ [97, 98, 10, 11, 99, 59, 100, 101, 102, 103, 104, 105, 106, 107, 108, 109, 110, 111, 770, 771, 772, 773, 774, 775, 776, 777, 778, 779, 780, 781, 782, 783] (by decide +kernel) (by decide +kernel)
set_option maxRecDepth 20000 in
theorem gL_law_X7_init : GoodIn wsL_law (wsX7_init) := ggL_law_X7_init
set_option maxRecDepth 20000 in
theorem ggL_law_X6_reset : GoodIn wsL_law wsX6_reset := goodIn_r _ [115, 116, 38, 15, 19, 23, 28, 37, 117, 118, 2, 119, 120, 121, 122, 14, 123, 43, 124, 125, 126, 127, 36, 128, 60, 129, 130, 131, 18, 132, 66, 133, 134, 135, 136, 22, 137, 77, 138, 139, 140, 141, 27, 142, 83, 143, 144, 761, 762, 763, 764, 765, 766, 767, 768, 769, 784, 785, 786, 787, 788, 789, 790, 791, 804, 792, 793, 794, 795, 796, 797, 798, 799] (by decide +kernel) (by decide +kernel)
set_option maxRecDepth 20000 in
theorem gL_law_X6_reset : GoodIn wsL_law (wsV RL 13 RX6 yX6_reset wsX6_reset) := goodIn_app (goodIn_of _ (by decide +kernel)) ggL_law_X6_reset
set_option maxRecDepth 20000 in
theorem ggL_law_X7_reset : GoodIn wsL_law wsX7_reset := goodIn_r _ [148, 149, 99, 150, 151, 5, 152, 153, 154, 155, 156, 101, 102, 104, 103, 106, 770, 771, 772, 773, 774, 775, 776, 777, 778, 779, 780, 781, 782, 783] (by decide +kernel) (by decide +kernel)
set_option maxRecDepth 20000 in
theorem gL_law_X7_reset : GoodIn wsL_law (wsV RL 17 RX7 yX7_reset wsX7_reset) := goodIn_app (goodIn_of _ (by decide +kernel)) ggL_law_X7_reset
set_option maxRecDepth 20000 in
theorem ggL_law_X6_join : GoodIn wsL_law wsX6_join := goodIn_r _ [160, 38, 161, 761, 762, 763, 764, 765, 766, 767, 768, 769] (by decide +kernel) (by decide +kernel)
set_option maxRecDepth 20000 in
theorem gL_law_X6_join : GoodIn wsL_law (wsV RL 18 RX6 yX6_join wsX6_join) := goodIn_app (goodIn_of _ (by decide +kernel)) ggL_law_X6_join
set_option maxRecDepth 20000 in
theorem ggL_law_X7_join : GoodIn wsL_law wsX7_join := goodIn_r _ [165, 99, 166, 153, 154, 155, 5, 156, 101, 102, 104, 103, 106, 770, 771, 772, 773, 774, 775, 776, 777, 778, 779, 780, 781, 782, 783] (by decide +kernel) (by decide +kernel)
set_option maxRecDepth 20000 in
theorem gL_law_X7_join : GoodIn wsL_law (wsV RL 22 RX7 yX7_join wsX7_join) := goodIn_app (goodIn_of _ (by decide +kernel)) ggL_law_X7_join
set_option maxRecDepth 20000 in
theorem ggL_law_X6_sites : GoodIn wsL_law wsX6_sites := goodIn_r _ [170, 38, 761, 762, 763, 764, 765, 766, 767, 768, 769] (by decide +kernel) (by decide +kernel)
set_option maxRecDepth 20000 in
theorem gL_law_X6_sites : GoodIn wsL_law (wsV RL 23 RX6 yX6_sites wsX6_sites) := goodIn_app (goodIn_of _ (by decide +kernel)) ggL_law_X6_sites
set_option maxRecDepth 20000 in
theorem ggL_law_X7_sites : GoodIn wsL_law wsX7_sites := goodIn_r _ [174, 99, 770, 771, 772, 773, 774, 775, 776, 777, 778, 779, 780, 781, 782, 783] (by decide +kernel) (by decide +kernel)
set_option maxRecDepth 20000 in
theorem gL_law_X7_sites : GoodIn wsL_law (wsV RL 26 RX7 yX7_sites wsX7_sites) := goodIn_app (goodIn_of _ (by decide +kernel)) ggL_law_X7_sites
set_option maxRecDepth 20000 in
theorem ggL_law_X6_siteInfo : GoodIn wsL_law wsX6_siteInfo := goodIn_r _ [178, 116, 37, 23, 15, 32, 19, 179, 180, 181, 2, 182, 38, 117, 118, 119, 183, 184, 185, 36, 186, 60, 187, 188, 189, 22, 190, 191, 192, 193, 194, 77, 195, 196, 197, 198, 14, 199, 43, 200, 201, 202, 203, 31, 204, 90, 91, 205, 206, 207, 208, 209, 124, 210, 126, 127, 128, 211, 212, 213, 214, 215, 216, 217, 218, 219, 48, 220, 221, 222, 223, 224, 225, 226, 227, 228, 46, 229, 230, 231, 232, 44, 233, 234, 235, 236, 237, 238, 239, 240, 47, 241, 242, 243, 244, 92, 245, 246, 247, 248, 249, 250, 251, 252, 253, 254, 255, 256, 257, 258, 259, 260, 18, 261, 66, 262, 761, 762, 763, 764, 765, 766, 767, 768, 769, 804, 797, 784, 785, 786, 787, 788, 789, 790, 791, 800, 801, 802, 803, 792, 793, 794, 795, 796] (by decide +kernel) (by decide +kernel)
set_option maxRecDepth 20000 in
theorem gL_law_X6_siteInfo : GoodIn wsL_law (wsV RL 27 RX6 yX6_siteInfo wsX6_siteInfo) := goodIn_app (goodIn_of _ (by decide +kernel)) ggL_law_X6_siteInfo
set_option maxRecDepth 20000 in
theorem ggL_law_X7_siteInfo : GoodIn wsL_law wsX7_siteInfo := goodIn_r _ [266, 149, 102, 101, 267, 104, 268, 269, 270, 5, 271, 99, 150, 151, 152, 272, 273, 274, 275, 103, 276, 277, 278, 279, 108, 107, 280, 281, 282, 283, 284, 285, 286, 287, 288, 289, 290, 291, 100, 292, 293, 294, 295, 296, 297, 298, 299, 300, 301, 302, 303, 304, 305, 306, 307, 308, 309, 310, 770, 771, 772, 773, 774, 775, 776, 777, 778, 779, 780, 781, 782, 783] (by decide +kernel) (by decide +kernel)
set_option maxRecDepth 20000 in
theorem gL_law_X7_siteInfo : GoodIn wsL_law (wsV RL 31 RX7 yX7_siteInfo wsX7_siteInfo) := goodIn_app (goodIn_of _ (by decide +kernel)) ggL_law_X7_siteInfo
set_option maxRecDepth 20000 in
theorem ggL_law_X6_penDown : GoodIn wsL_law wsX6_penDown := goodIn_r _ [314, 116, 19, 179, 180, 181, 2, 182, 38, 117, 118, 119, 315, 316, 317, 18, 318, 67, 68, 319, 320, 321, 322, 66, 323, 234, 235, 36, 236, 60, 324, 325, 326, 327, 69, 70, 262, 184, 185, 186, 258, 259, 260, 261, 761, 762, 763, 764, 765, 766, 767, 768, 769, 792, 793, 794, 795, 796, 804] (by decide +kernel) (by decide +kernel)
set_option maxRecDepth 20000 in
theorem gL_law_X6_penDown : GoodIn wsL_law (wsV RL 32 RX6 yX6_penDown wsX6_penDown) := goodIn_app (goodIn_of _ (by decide +kernel)) ggL_law_X6_penDown
set_option maxRecDepth 20000 in
theorem ggL_law_X7_penDown : GoodIn wsL_law wsX7_penDown := goodIn_r _ [331, 149, 104, 268, 269, 270, 5, 271, 99, 150, 151, 152, 770, 771, 772, 773, 774, 775, 776, 777, 778, 779, 780, 781, 782, 783] (by decide +kernel) (by decide +kernel)
set_option maxRecDepth 20000 in
theorem gL_law_X7_penDown : GoodIn wsL_law (wsV RL 36 RX7 yX7_penDown wsX7_penDown) := goodIn_app (goodIn_of _ (by decide +kernel)) ggL_law_X7_penDown
set_option maxRecDepth 20000 in
theorem ggL_law_X6_penMove : GoodIn wsL_law wsX6_penMove := goodIn_r _ [335, 116, 19, 336, 161, 179, 180, 181, 2, 182, 38, 117, 118, 119, 258, 259, 260, 18, 261, 66, 262, 184, 185, 36, 186, 60, 337, 338, 339, 340, 69, 341, 342, 343, 344, 70, 324, 325, 326, 327, 323, 234, 235, 236, 761, 762, 763, 764, 765, 766, 767, 768, 769, 792, 793, 794, 795, 796, 804] (by decide +kernel) (by decide +kernel)
set_option maxRecDepth 20000 in
theorem gL_law_X6_penMove : GoodIn wsL_law (wsV RL 37 RX6 yX6_penMove wsX6_penMove) := goodIn_app (goodIn_of _ (by decide +kernel)) ggL_law_X6_penMove
set_option maxRecDepth 20000 in
theorem ggL_law_X7_penMove : GoodIn wsL_law wsX7_penMove := goodIn_r _ [348, 149, 104, 349, 166, 268, 269, 270, 5, 271, 99, 150, 151, 152, 770, 771, 772, 773, 774, 775, 776, 777, 778, 779, 780, 781, 782, 783] (by decide +kernel) (by decide +kernel)
set_option maxRecDepth 20000 in
theorem gL_law_X7_penMove : GoodIn wsL_law (wsV RL 41 RX7 yX7_penMove wsX7_penMove) := goodIn_app (goodIn_of _ (by decide +kernel)) ggL_law_X7_penMove
set_option maxRecDepth 20000 in
theorem ggL_law_X6_penUp : GoodIn wsL_law wsX6_penUp := goodIn_r _ [353, 116, 19, 336, 161, 15, 179, 180, 181, 2, 182, 38, 117, 118, 119, 258, 259, 260, 18, 261, 66, 262, 184, 185, 36, 186, 60, 354, 355, 356, 357, 196, 197, 198, 14, 199, 43, 200, 358, 359, 360, 361, 37, 183, 362, 234, 235, 236, 363, 364, 365, 366, 50, 47, 367, 368, 369, 370, 45, 44, 371, 372, 373, 374, 375, 376, 377, 124, 48, 378, 379, 380, 381, 382, 383, 384, 385, 386, 387, 388, 389, 390, 391, 392, 393, 394, 395, 396, 67, 397, 398, 399, 400, 68, 401, 316, 317, 318, 319, 320, 321, 322, 323, 402, 338, 339, 340, 69, 403, 342, 343, 344, 70, 404, 325, 326, 327, 405, 406, 407, 408, 409, 410, 23, 28, 411, 412, 413, 22, 414, 77, 415, 416, 417, 418, 27, 419, 83, 84, 420, 421, 422, 423, 424, 761, 762, 763, 764, 765, 766, 767, 768, 769, 792, 793, 794, 795, 796, 804, 784, 785, 786, 787, 788, 789, 790, 791, 797, 798, 799] (by decide +kernel) (by decide +kernel)
set_option maxRecDepth 20000 in
theorem gL_law_X6_penUp : GoodIn wsL_law (wsV RL 42 RX6 yX6_penUp wsX6_penUp) := goodIn_app (goodIn_of _ (by decide +kernel)) ggL_law_X6_penUp
set_option maxRecDepth 20000 in
theorem ggL_law_X7_penUp : GoodIn wsL_law wsX7_penUp := goodIn_r _ [428, 149, 104, 349, 101, 166, 100, 268, 269, 270, 5, 271, 99, 150, 151, 152, 429, 430, 431, 432, 102, 103, 106, 105, 300, 301, 302, 770, 771, 772, 773, 774, 775, 776, 777, 778, 779, 780, 781, 782, 783] (by decide +kernel) (by decide +kernel)
set_option maxRecDepth 20000 in
theorem gL_law_X7_penUp : GoodIn wsL_law (wsV RL 45 RX7 yX7_penUp wsX7_penUp) := goodIn_app (goodIn_of _ (by decide +kernel)) ggL_law_X7_penUp
set_option maxRecDepth 20000 in
theorem ggL_law_X6_undo : GoodIn wsL_law wsX6_undo := goodIn_r _ [436, 116, 179, 180, 181, 2, 182, 38, 117, 118, 119, 437, 438, 439, 440, 32, 15, 23, 201, 202, 203, 31, 204, 90, 91, 205, 206, 207, 208, 14, 209, 124, 210, 126, 127, 36, 128, 60, 211, 212, 213, 214, 215, 184, 185, 186, 216, 217, 218, 219, 48, 200, 220, 192, 193, 22, 194, 77, 195, 221, 222, 223, 224, 225, 226, 227, 228, 46, 229, 230, 231, 232, 44, 233, 234, 235, 236, 237, 238, 239, 240, 47, 241, 242, 243, 244, 92, 245, 246, 247, 248, 249, 250, 251, 252, 253, 196, 197, 198, 199, 43, 441, 371, 372, 442, 443, 444, 445, 446, 447, 336, 161, 354, 355, 356, 357, 358, 359, 360, 361, 37, 183, 362, 448, 449, 450, 451, 367, 368, 369, 370, 45, 373, 374, 375, 376, 377, 378, 379, 380, 381, 382, 383, 384, 385, 386, 387, 407, 408, 409, 410, 28, 411, 412, 413, 414, 415, 416, 417, 418, 27, 419, 83, 84, 420, 421, 422, 423, 424, 761, 762, 763, 764, 765, 766, 767, 768, 769, 800, 801, 802, 803, 784, 785, 786, 787, 788, 789, 790, 791, 804, 797, 798, 799] (by decide +kernel) (by decide +kernel)
set_option maxRecDepth 20000 in
theorem gL_law_X6_undo : GoodIn wsL_law (wsV RL 46 RX6 yX6_undo wsX6_undo) := goodIn_app (goodIn_of _ (by decide +kernel)) ggL_law_X6_undo
set_option maxRecDepth 20000 in
theorem ggL_law_X7_undo : GoodIn wsL_law wsX7_undo := goodIn_r _ [455, 149, 101, 349, 166, 268, 269, 270, 5, 271, 99, 150, 151, 152, 300, 301, 302, 280, 281, 282, 283, 284, 285, 286, 287, 103, 288, 289, 290, 291, 100, 292, 293, 294, 295, 296, 297, 298, 299, 303, 304, 305, 306, 429, 430, 431, 432, 102, 106, 105, 770, 771, 772, 773, 774, 775, 776, 777, 778, 779, 780, 781, 782, 783] (by decide +kernel) (by decide +kernel)
set_option maxRecDepth 20000 in
theorem gL_law_X7_undo : GoodIn wsL_law (wsV RL 49 RX7 yX7_undo wsX7_undo) := goodIn_app (goodIn_of _ (by decide +kernel)) ggL_law_X7_undo
set_option maxRecDepth 20000 in
theorem ggL_law_X6_redo : GoodIn wsL_law wsX6_redo := goodIn_r _ [459, 116, 179, 180, 181, 2, 182, 38, 117, 118, 119, 460, 461, 462, 463, 32, 15, 23, 201, 202, 203, 31, 204, 90, 91, 205, 206, 207, 208, 14, 209, 124, 210, 126, 127, 36, 128, 60, 211, 212, 213, 214, 215, 184, 185, 186, 216, 217, 218, 219, 48, 200, 220, 192, 193, 22, 194, 77, 195, 221, 222, 223, 224, 225, 226, 227, 228, 46, 229, 230, 231, 232, 44, 233, 234, 235, 236, 237, 238, 239, 240, 47, 241, 242, 243, 244, 92, 245, 246, 247, 248, 249, 250, 251, 252, 253, 196, 197, 198, 199, 43, 441, 371, 372, 464, 465, 443, 444, 445, 446, 447, 336, 161, 354, 355, 356, 357, 358, 359, 360, 361, 37, 183, 362, 448, 449, 450, 451, 367, 368, 369, 370, 45, 373, 374, 375, 376, 377, 378, 379, 380, 381, 382, 383, 384, 385, 386, 387, 407, 408, 409, 410, 28, 411, 412, 413, 414, 415, 416, 417, 418, 27, 419, 83, 84, 420, 421, 422, 423, 424, 761, 762, 763, 764, 765, 766, 767, 768, 769, 800, 801, 802, 803, 784, 785, 786, 787, 788, 789, 790, 791, 804, 797, 798, 799] (by decide +kernel) (by decide +kernel)
set_option maxRecDepth 20000 in
theorem gL_law_X6_redo : GoodIn wsL_law (wsV RL 50 RX6 yX6_redo wsX6_redo) := goodIn_app (goodIn_of _ (by decide +kernel)) ggL_law_X6_redo
set_option maxRecDepth 20000 in
theorem ggL_law_X7_redo : GoodIn wsL_law wsX7_redo := goodIn_r _ [469, 149, 101, 349, 166, 268, 269, 270, 5, 271, 99, 150, 151, 152, 300, 301, 302, 288, 289, 290, 291, 100, 296, 297, 298, 299, 280, 281, 282, 283, 284, 285, 286, 287, 103, 292, 293, 294, 295, 303, 304, 305, 306, 429, 430, 431, 432, 102, 106, 105, 770, 771, 772, 773, 774, 775, 776, 777, 778, 779, 780, 781, 782, 783] (by decide +kernel) (by decide +kernel)
set_option maxRecDepth 20000 in
theorem gL_law_X7_redo : GoodIn wsL_law (wsV RL 53 RX7 yX7_redo wsX7_redo) := goodIn_app (goodIn_of _ (by decide +kernel)) ggL_law_X7_redo
set_option maxRecDepth 20000 in
theorem ggL_law_X6_lift : GoodIn wsL_law wsX6_lift := goodIn_r _ [473, 116, 32, 15, 23, 336, 161, 179, 180, 181, 2, 182, 38, 117, 118, 119, 201, 202, 203, 31, 204, 90, 91, 205, 206, 207, 208, 14, 209, 124, 210, 126, 127, 36, 128, 60, 211, 212, 213, 214, 215, 184, 185, 186, 216, 217, 218, 219, 48, 200, 220, 192, 193, 22, 194, 77, 195, 221, 222, 223, 224, 225, 226, 227, 228, 46, 229, 230, 231, 232, 44, 233, 234, 235, 236, 237, 238, 239, 240, 47, 241, 242, 243, 244, 92, 245, 246, 247, 248, 249, 250, 251, 252, 253, 254, 255, 256, 257, 354, 355, 356, 357, 196, 197, 198, 199, 43, 358, 359, 360, 361, 37, 183, 362, 474, 475, 476, 477, 448, 449, 450, 451, 367, 368, 369, 370, 45, 371, 372, 373, 374, 375, 376, 377, 378, 379, 380, 381, 382, 383, 384, 385, 386, 387, 407, 408, 409, 410, 28, 411, 412, 413, 414, 415, 416, 417, 418, 27, 419, 83, 84, 420, 421, 422, 423, 424, 761, 762, 763, 764, 765, 766, 767, 768, 769, 800, 801, 802, 803, 784, 785, 786, 787, 788, 789, 790, 791, 804, 797, 798, 799] (by decide +kernel) (by decide +kernel)
set_option maxRecDepth 20000 in
theorem gL_law_X6_lift : GoodIn wsL_law (wsV RL 54 RX6 yX6_lift wsX6_lift) := goodIn_app (goodIn_of _ (by decide +kernel)) ggL_law_X6_lift

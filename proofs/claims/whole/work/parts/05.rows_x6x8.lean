theorem dX6_movesFrom_0 : decode cX6_movesFrom 0 = .ok (.aload_n 0, 1) := by decide +kernel
theorem dX6_movesFrom_1 : decode cX6_movesFrom 1 = .ok (.getfield 9, 3) := by decide +kernel
theorem dX6_movesFrom_4 : decode cX6_movesFrom 4 = .ok (.iload_n 1, 1) := by decide +kernel
theorem dX6_movesFrom_5 : decode cX6_movesFrom 5 = .ok (.invokestatic 15, 3) := by decide +kernel
theorem dX6_movesFrom_8 : decode cX6_movesFrom 8 = .ok (.iconst 1, 1) := by decide +kernel
theorem dX6_movesFrom_9 : decode cX6_movesFrom 9 = .ok (.if_icmp .ne 5, 3) := by decide +kernel
theorem dX6_movesFrom_12 : decode cX6_movesFrom 12 = .ok (.iconst 0, 1) := by decide +kernel
theorem dX6_movesFrom_13 : decode cX6_movesFrom 13 = .ok (.ireturn, 1) := by decide +kernel
theorem dX6_movesFrom_14 : decode cX6_movesFrom 14 = .ok (.iload 4, 2) := by decide +kernel
theorem dX6_movesFrom_16 : decode cX6_movesFrom 16 = .ok (.ifCond .le 8, 3) := by decide +kernel
theorem dX6_movesFrom_19 : decode cX6_movesFrom 19 = .ok (.iload 5, 2) := by decide +kernel
theorem dX6_movesFrom_21 : decode cX6_movesFrom 21 = .ok (.ifCond .gt 6, 3) := by decide +kernel
theorem dX6_movesFrom_24 : decode cX6_movesFrom 24 = .ok (.bipush (-4), 2) := by decide +kernel
theorem dX6_movesFrom_26 : decode cX6_movesFrom 26 = .ok (.ireturn, 1) := by decide +kernel
theorem dX6_movesFrom_27 : decode cX6_movesFrom 27 = .ok (.iload_n 1, 1) := by decide +kernel
theorem dX6_movesFrom_28 : decode cX6_movesFrom 28 = .ok (.lload_n 2, 1) := by decide +kernel
theorem dX6_movesFrom_29 : decode cX6_movesFrom 29 = .ok (.iconst 0, 1) := by decide +kernel
theorem dX6_movesFrom_30 : decode cX6_movesFrom 30 = .ok (.invokestatic 19, 3) := by decide +kernel
theorem dX6_movesFrom_33 : decode cX6_movesFrom 33 = .ok (.invokestatic 25, 3) := by decide +kernel
theorem dX6_movesFrom_36 : decode cX6_movesFrom 36 = .ok (.istore 6, 2) := by decide +kernel
theorem dX6_movesFrom_38 : decode cX6_movesFrom 38 = .ok (.aload_n 0, 1) := by decide +kernel
theorem dX6_movesFrom_39 : decode cX6_movesFrom 39 = .ok (.iload_n 1, 1) := by decide +kernel
theorem dX6_movesFrom_40 : decode cX6_movesFrom 40 = .ok (.invokevirtual 30, 3) := by decide +kernel
theorem dX6_movesFrom_43 : decode cX6_movesFrom 43 = .ok (.iconst 1, 1) := by decide +kernel
theorem dX6_movesFrom_44 : decode cX6_movesFrom 44 = .ok (.if_icmp .ne 15, 3) := by decide +kernel
theorem dX6_movesFrom_47 : decode cX6_movesFrom 47 = .ok (.aload_n 0, 1) := by decide +kernel
theorem dX6_movesFrom_48 : decode cX6_movesFrom 48 = .ok (.iload 6, 2) := by decide +kernel
theorem dX6_movesFrom_50 : decode cX6_movesFrom 50 = .ok (.lload_n 2, 1) := by decide +kernel
theorem dX6_movesFrom_51 : decode cX6_movesFrom 51 = .ok (.iload 4, 2) := by decide +kernel
theorem dX6_movesFrom_53 : decode cX6_movesFrom 53 = .ok (.iload 5, 2) := by decide +kernel
theorem dX6_movesFrom_55 : decode cX6_movesFrom 55 = .ok (.invokestatic 34, 3) := by decide +kernel
theorem dX6_movesFrom_58 : decode cX6_movesFrom 58 = .ok (.ireturn, 1) := by decide +kernel
theorem dX6_movesFrom_59 : decode cX6_movesFrom 59 = .ok (.aload_n 0, 1) := by decide +kernel
theorem dX6_movesFrom_60 : decode cX6_movesFrom 60 = .ok (.iload 6, 2) := by decide +kernel
theorem dX6_movesFrom_62 : decode cX6_movesFrom 62 = .ok (.lload_n 2, 1) := by decide +kernel
theorem dX6_movesFrom_63 : decode cX6_movesFrom 63 = .ok (.iload 4, 2) := by decide +kernel
theorem dX6_movesFrom_65 : decode cX6_movesFrom 65 = .ok (.iload 5, 2) := by decide +kernel
theorem dX6_movesFrom_67 : decode cX6_movesFrom 67 = .ok (.invokestatic 40, 3) := by decide +kernel
theorem dX6_movesFrom_70 : decode cX6_movesFrom 70 = .ok (.ireturn, 1) := by decide +kernel
set_option maxRecDepth 20000 in
theorem ggX6_movesAfter_X5_next : GoodIn wsX6_movesAfter wsX5_next := goodIn_r _ [4] (by decide +kernel) (by decide +kernel)
set_option maxRecDepth 20000 in
theorem gX6_movesAfter_X5_next : GoodIn wsX6_movesAfter (va_wsS RX6 43 yX5_next wsX5_next) := goodIn_app (goodIn_of _ (by decide +kernel)) ggX6_movesAfter_X5_next
set_option maxRecDepth 20000 in
theorem ggX6_movesAfter_X7_stackAfter : GoodIn wsX6_movesAfter wsX7_stackAfter := goodIn_r _ [8, 9, 10, 3, 11, 12, 13, 7, 14, 15, 16, 17] (by decide +kernel) (by decide +kernel)
set_option maxRecDepth 20000 in
theorem gX6_movesAfter_X7_stackAfter : GoodIn wsX6_movesAfter (va_wsS RX6 48 yX7_stackAfter wsX7_stackAfter) := goodIn_app (goodIn_of _ (by decide +kernel)) ggX6_movesAfter_X7_stackAfter
set_option maxRecDepth 20000 in
theorem ggX6_movesAfter_X7_heightAfter : GoodIn wsX6_movesAfter wsX7_heightAfter := goodIn_r _ [20, 15, 16, 3, 17, 9, 10, 11] (by decide +kernel) (by decide +kernel)
set_option maxRecDepth 20000 in
theorem gX6_movesAfter_X7_heightAfter : GoodIn wsX6_movesAfter (va_wsS RX6 52 yX7_heightAfter wsX7_heightAfter) := goodIn_app (goodIn_of _ (by decide +kernel)) ggX6_movesAfter_X7_heightAfter
set_option maxRecDepth 20000 in
theorem ggX6_movesAfter_X6_movesFrom : GoodIn wsX6_movesAfter wsX6_movesFrom := goodIn_r _ [36, 37, 38, 39, 40, 41, 42, 7, 43, 44, 45, 46, 47, 48, 49, 50, 51, 52, 53, 54, 55, 23, 56, 57, 24, 25, 26, 27, 28, 29, 30, 31, 32, 3, 33, 34, 35, 0, 1, 2, 4, 5, 6, 8, 9, 10, 11, 12, 13, 14, 15, 16, 17, 18, 19, 20, 21, 22, 58, 59, 60, 61, 62, 63, 64, 65, 66, 67] (by decide +kernel) (by decide +kernel)
set_option maxRecDepth 20000 in
theorem gX6_movesAfter_X6_movesFrom : GoodIn wsX6_movesAfter (va_wsS RX6 55 yX6_movesFrom wsX6_movesFrom) := goodIn_app (goodIn_of _ (by decide +kernel)) ggX6_movesAfter_X6_movesFrom
theorem dX6_movesAfter_0 : decode cX6_movesAfter 0 = .ok (.aload_n 0, 1) := by decide +kernel
theorem dX6_movesAfter_1 : decode cX6_movesAfter 1 = .ok (.iload_n 1, 1) := by decide +kernel
theorem dX6_movesAfter_2 : decode cX6_movesAfter 2 = .ok (.invokestatic 43, 3) := by decide +kernel
theorem dX6_movesAfter_5 : decode cX6_movesAfter 5 = .ok (.lload_n 2, 1) := by decide +kernel
theorem dX6_movesAfter_6 : decode cX6_movesAfter 6 = .ok (.iload_n 1, 1) := by decide +kernel
theorem dX6_movesAfter_7 : decode cX6_movesAfter 7 = .ok (.invokestatic 48, 3) := by decide +kernel
theorem dX6_movesAfter_10 : decode cX6_movesAfter 10 = .ok (.iload 4, 2) := by decide +kernel
theorem dX6_movesAfter_12 : decode cX6_movesAfter 12 = .ok (.iload_n 1, 1) := by decide +kernel
theorem dX6_movesAfter_13 : decode cX6_movesAfter 13 = .ok (.invokestatic 52, 3) := by decide +kernel
theorem dX6_movesAfter_16 : decode cX6_movesAfter 16 = .ok (.iload 5, 2) := by decide +kernel
theorem dX6_movesAfter_18 : decode cX6_movesAfter 18 = .ok (.invokestatic 55, 3) := by decide +kernel
theorem dX6_movesAfter_21 : decode cX6_movesAfter 21 = .ok (.ireturn, 1) := by decide +kernel
set_option maxRecDepth 20000 in
theorem ggX6_soonest_X5_fitsPair : GoodIn wsX6_soonest wsX5_fitsPair := goodIn_r _ [6] (by decide +kernel) (by decide +kernel)
set_option maxRecDepth 20000 in
theorem gX6_soonest_X5_fitsPair : GoodIn wsX6_soonest (va_wsS RX6 65 yX5_fitsPair wsX5_fitsPair) := goodIn_app (goodIn_of _ (by decide +kernel)) ggX6_soonest_X5_fitsPair
set_option maxRecDepth 20000 in
theorem ggX6_soonest_X6_movesAfter : GoodIn wsX6_soonest wsX6_movesAfter := goodIn_r _ [15, 16, 17, 5, 18, 19, 20, 21, 22, 23, 24, 25, 26, 27, 28, 29, 30, 31, 32, 33, 34, 35, 36, 9, 10, 1, 2, 11, 12, 13, 14, 3, 4, 6, 7, 8, 37, 38, 39, 40, 41, 42, 43, 44, 45, 46, 47, 48, 49, 50, 51, 52, 53, 54, 55, 56, 57, 58, 0, 59, 60, 61, 62, 63, 64, 65, 66, 67] (by decide +kernel) (by decide +kernel)
set_option maxRecDepth 20000 in
theorem gX6_soonest_X6_movesAfter : GoodIn wsX6_soonest (va_wsS RX6 69 yX6_movesAfter wsX6_movesAfter) := goodIn_app (goodIn_of _ (by decide +kernel)) ggX6_soonest_X6_movesAfter
theorem dX6_soonest_0 : decode cX6_soonest 0 = .ok (.bipush (-4), 2) := by decide +kernel
theorem dX6_soonest_2 : decode cX6_soonest 2 = .ok (.istore 6, 2) := by decide +kernel
theorem dX6_soonest_4 : decode cX6_soonest 4 = .ok (.iload 5, 2) := by decide +kernel
theorem dX6_soonest_6 : decode cX6_soonest 6 = .ok (.iconst 1, 1) := by decide +kernel
theorem dX6_soonest_7 : decode cX6_soonest 7 = .ok (.isub, 1) := by decide +kernel
theorem dX6_soonest_8 : decode cX6_soonest 8 = .ok (.istore 7, 2) := by decide +kernel
theorem dX6_soonest_10 : decode cX6_soonest 10 = .ok (.iconst 0, 1) := by decide +kernel
theorem dX6_soonest_11 : decode cX6_soonest 11 = .ok (.istore 8, 2) := by decide +kernel
theorem dX6_soonest_13 : decode cX6_soonest 13 = .ok (.iload 8, 2) := by decide +kernel
theorem dX6_soonest_15 : decode cX6_soonest 15 = .ok (.aload_n 0, 1) := by decide +kernel
theorem dX6_soonest_16 : decode cX6_soonest 16 = .ok (.getfield 58, 3) := by decide +kernel
theorem dX6_soonest_19 : decode cX6_soonest 19 = .ok (.if_icmp .ge 64, 3) := by decide +kernel
theorem dX6_soonest_22 : decode cX6_soonest 22 = .ok (.iload 7, 2) := by decide +kernel
theorem dX6_soonest_24 : decode cX6_soonest 24 = .ok (.ifCond .lt 59, 3) := by decide +kernel
theorem dX6_soonest_27 : decode cX6_soonest 27 = .ok (.aload_n 0, 1) := by decide +kernel
theorem dX6_soonest_28 : decode cX6_soonest 28 = .ok (.getfield 61, 3) := by decide +kernel
theorem dX6_soonest_31 : decode cX6_soonest 31 = .ok (.iload 8, 2) := by decide +kernel
theorem dX6_soonest_33 : decode cX6_soonest 33 = .ok (.iaload, 1) := by decide +kernel
theorem dX6_soonest_34 : decode cX6_soonest 34 = .ok (.istore 9, 2) := by decide +kernel
theorem dX6_soonest_36 : decode cX6_soonest 36 = .ok (.iload 9, 2) := by decide +kernel
theorem dX6_soonest_38 : decode cX6_soonest 38 = .ok (.iload_n 1, 1) := by decide +kernel
theorem dX6_soonest_39 : decode cX6_soonest 39 = .ok (.invokestatic 65, 3) := by decide +kernel
theorem dX6_soonest_42 : decode cX6_soonest 42 = .ok (.ifCond .eq 35, 3) := by decide +kernel
theorem dX6_soonest_45 : decode cX6_soonest 45 = .ok (.aload_n 0, 1) := by decide +kernel
theorem dX6_soonest_46 : decode cX6_soonest 46 = .ok (.iload 9, 2) := by decide +kernel
theorem dX6_soonest_48 : decode cX6_soonest 48 = .ok (.lload_n 2, 1) := by decide +kernel
theorem dX6_soonest_49 : decode cX6_soonest 49 = .ok (.iload 4, 2) := by decide +kernel
theorem dX6_soonest_51 : decode cX6_soonest 51 = .ok (.iload 7, 2) := by decide +kernel
theorem dX6_soonest_53 : decode cX6_soonest 53 = .ok (.invokestatic 69, 3) := by decide +kernel
theorem dX6_soonest_56 : decode cX6_soonest 56 = .ok (.istore 10, 2) := by decide +kernel
theorem dX6_soonest_58 : decode cX6_soonest 58 = .ok (.iload 10, 2) := by decide +kernel
theorem dX6_soonest_60 : decode cX6_soonest 60 = .ok (.bipush (-4), 2) := by decide +kernel
theorem dX6_soonest_62 : decode cX6_soonest 62 = .ok (.if_icmp .eq 15, 3) := by decide +kernel
theorem dX6_soonest_65 : decode cX6_soonest 65 = .ok (.iload 10, 2) := by decide +kernel
theorem dX6_soonest_67 : decode cX6_soonest 67 = .ok (.iconst 1, 1) := by decide +kernel
theorem dX6_soonest_68 : decode cX6_soonest 68 = .ok (.iadd, 1) := by decide +kernel
theorem dX6_soonest_69 : decode cX6_soonest 69 = .ok (.istore 6, 2) := by decide +kernel
theorem dX6_soonest_71 : decode cX6_soonest 71 = .ok (.iload 10, 2) := by decide +kernel
theorem dX6_soonest_73 : decode cX6_soonest 73 = .ok (.iconst 1, 1) := by decide +kernel
theorem dX6_soonest_74 : decode cX6_soonest 74 = .ok (.isub, 1) := by decide +kernel
theorem dX6_soonest_75 : decode cX6_soonest 75 = .ok (.istore 7, 2) := by decide +kernel
theorem dX6_soonest_77 : decode cX6_soonest 77 = .ok (.iinc 8 1, 3) := by decide +kernel
theorem dX6_soonest_80 : decode cX6_soonest 80 = .ok (.goto (-67), 3) := by decide +kernel
theorem dX6_soonest_83 : decode cX6_soonest 83 = .ok (.iload 6, 2) := by decide +kernel
theorem dX6_soonest_85 : decode cX6_soonest 85 = .ok (.ireturn, 1) := by decide +kernel
set_option maxRecDepth 20000 in
theorem ggX6_latest_X5_fitsPair : GoodIn wsX6_latest wsX5_fitsPair := goodIn_r _ [10] (by decide +kernel) (by decide +kernel)
set_option maxRecDepth 20000 in
theorem gX6_latest_X5_fitsPair : GoodIn wsX6_latest (va_wsS RX6 65 yX5_fitsPair wsX5_fitsPair) := goodIn_app (goodIn_of _ (by decide +kernel)) ggX6_latest_X5_fitsPair
set_option maxRecDepth 20000 in
theorem ggX6_latest_X6_movesAfter : GoodIn wsX6_latest wsX6_movesAfter := goodIn_r _ [14, 15, 16, 9, 17, 18, 19, 20, 21, 22, 23, 24, 25, 26, 27, 28, 29, 30, 31, 32, 33, 34, 35, 13, 0, 1, 2, 3, 4, 5, 6, 7, 8, 10, 11, 12, 36, 37, 38, 39, 40, 41, 42, 43, 44, 45, 46, 47, 48, 49, 50, 51, 52, 53, 54, 55, 56, 57, 58, 59, 60, 61, 62, 63, 64, 65, 66, 67] (by decide +kernel) (by decide +kernel)
set_option maxRecDepth 20000 in
theorem gX6_latest_X6_movesAfter : GoodIn wsX6_latest (va_wsS RX6 69 yX6_movesAfter wsX6_movesAfter) := goodIn_app (goodIn_of _ (by decide +kernel)) ggX6_latest_X6_movesAfter
theorem dX6_latest_0 : decode cX6_latest 0 = .ok (.bipush (-4), 2) := by decide +kernel
theorem dX6_latest_2 : decode cX6_latest 2 = .ok (.istore 6, 2) := by decide +kernel
theorem dX6_latest_4 : decode cX6_latest 4 = .ok (.iconst 0, 1) := by decide +kernel
theorem dX6_latest_5 : decode cX6_latest 5 = .ok (.istore 7, 2) := by decide +kernel
theorem dX6_latest_7 : decode cX6_latest 7 = .ok (.iload 7, 2) := by decide +kernel
theorem dX6_latest_9 : decode cX6_latest 9 = .ok (.aload_n 0, 1) := by decide +kernel
theorem dX6_latest_10 : decode cX6_latest 10 = .ok (.getfield 58, 3) := by decide +kernel
theorem dX6_latest_13 : decode cX6_latest 13 = .ok (.if_icmp .ge 63, 3) := by decide +kernel
theorem dX6_latest_16 : decode cX6_latest 16 = .ok (.aload_n 0, 1) := by decide +kernel
theorem dX6_latest_17 : decode cX6_latest 17 = .ok (.getfield 61, 3) := by decide +kernel
theorem dX6_latest_20 : decode cX6_latest 20 = .ok (.iload 7, 2) := by decide +kernel
theorem dX6_latest_22 : decode cX6_latest 22 = .ok (.iaload, 1) := by decide +kernel
theorem dX6_latest_23 : decode cX6_latest 23 = .ok (.istore 8, 2) := by decide +kernel
theorem dX6_latest_25 : decode cX6_latest 25 = .ok (.iload 8, 2) := by decide +kernel
theorem dX6_latest_27 : decode cX6_latest 27 = .ok (.iload_n 1, 1) := by decide +kernel
theorem dX6_latest_28 : decode cX6_latest 28 = .ok (.invokestatic 65, 3) := by decide +kernel
theorem dX6_latest_31 : decode cX6_latest 31 = .ok (.ifCond .eq 39, 3) := by decide +kernel
theorem dX6_latest_34 : decode cX6_latest 34 = .ok (.aload_n 0, 1) := by decide +kernel
theorem dX6_latest_35 : decode cX6_latest 35 = .ok (.iload 8, 2) := by decide +kernel
theorem dX6_latest_37 : decode cX6_latest 37 = .ok (.lload_n 2, 1) := by decide +kernel
theorem dX6_latest_38 : decode cX6_latest 38 = .ok (.iload 4, 2) := by decide +kernel
theorem dX6_latest_40 : decode cX6_latest 40 = .ok (.iload 5, 2) := by decide +kernel
theorem dX6_latest_42 : decode cX6_latest 42 = .ok (.iconst 1, 1) := by decide +kernel
theorem dX6_latest_43 : decode cX6_latest 43 = .ok (.isub, 1) := by decide +kernel
theorem dX6_latest_44 : decode cX6_latest 44 = .ok (.invokestatic 69, 3) := by decide +kernel
theorem dX6_latest_47 : decode cX6_latest 47 = .ok (.istore 9, 2) := by decide +kernel
theorem dX6_latest_49 : decode cX6_latest 49 = .ok (.iload 9, 2) := by decide +kernel
theorem dX6_latest_51 : decode cX6_latest 51 = .ok (.bipush (-4), 2) := by decide +kernel
theorem dX6_latest_53 : decode cX6_latest 53 = .ok (.if_icmp .ne 6, 3) := by decide +kernel
theorem dX6_latest_56 : decode cX6_latest 56 = .ok (.bipush (-4), 2) := by decide +kernel
theorem dX6_latest_58 : decode cX6_latest 58 = .ok (.ireturn, 1) := by decide +kernel
theorem dX6_latest_59 : decode cX6_latest 59 = .ok (.iload 6, 2) := by decide +kernel
theorem dX6_latest_61 : decode cX6_latest 61 = .ok (.iload 9, 2) := by decide +kernel
theorem dX6_latest_63 : decode cX6_latest 63 = .ok (.iconst 1, 1) := by decide +kernel
theorem dX6_latest_64 : decode cX6_latest 64 = .ok (.iadd, 1) := by decide +kernel
theorem dX6_latest_65 : decode cX6_latest 65 = .ok (.invokestatic 72, 3) := by decide +kernel
theorem dX6_latest_68 : decode cX6_latest 68 = .ok (.istore 6, 2) := by decide +kernel
theorem dX6_latest_70 : decode cX6_latest 70 = .ok (.iinc 7 1, 3) := by decide +kernel
theorem dX6_latest_73 : decode cX6_latest 73 = .ok (.goto (-66), 3) := by decide +kernel
theorem dX6_latest_76 : decode cX6_latest 76 = .ok (.iload 6, 2) := by decide +kernel
theorem dX6_latest_78 : decode cX6_latest 78 = .ok (.ireturn, 1) := by decide +kernel
theorem dX7_symbolAt_0 : decode cX7_symbolAt 0 = .ok (.lload_n 0, 1) := by decide +kernel
theorem dX7_symbolAt_1 : decode cX7_symbolAt 1 = .ok (.iconst 2, 1) := by decide +kernel
theorem dX7_symbolAt_2 : decode cX7_symbolAt 2 = .ok (.iload_n 2, 1) := by decide +kernel
theorem dX7_symbolAt_3 : decode cX7_symbolAt 3 = .ok (.imul, 1) := by decide +kernel
theorem dX7_symbolAt_4 : decode cX7_symbolAt 4 = .ok (.lushr, 1) := by decide +kernel
theorem dX7_symbolAt_5 : decode cX7_symbolAt 5 = .ok (.l2i, 1) := by decide +kernel
theorem dX7_symbolAt_6 : decode cX7_symbolAt 6 = .ok (.iconst 3, 1) := by decide +kernel
theorem dX7_symbolAt_7 : decode cX7_symbolAt 7 = .ok (.iand, 1) := by decide +kernel
theorem dX7_symbolAt_8 : decode cX7_symbolAt 8 = .ok (.ireturn, 1) := by decide +kernel
theorem dX7_pushed_0 : decode cX7_pushed 0 = .ok (.lload_n 0, 1) := by decide +kernel
theorem dX7_pushed_1 : decode cX7_pushed 1 = .ok (.iconst 2, 1) := by decide +kernel
theorem dX7_pushed_2 : decode cX7_pushed 2 = .ok (.lshl, 1) := by decide +kernel
theorem dX7_pushed_3 : decode cX7_pushed 3 = .ok (.iload_n 2, 1) := by decide +kernel
theorem dX7_pushed_4 : decode cX7_pushed 4 = .ok (.i2l, 1) := by decide +kernel
theorem dX7_pushed_5 : decode cX7_pushed 5 = .ok (.lor, 1) := by decide +kernel
theorem dX7_pushed_6 : decode cX7_pushed 6 = .ok (.lreturn, 1) := by decide +kernel
set_option maxRecDepth 20000 in
theorem ggX7_stackAfter_X5_lower : GoodIn wsX7_stackAfter wsX5_lower := goodIn_r _ [4] (by decide +kernel) (by decide +kernel)
set_option maxRecDepth 20000 in
theorem gX7_stackAfter_X5_lower : GoodIn wsX7_stackAfter (va_wsS RX7 9 yX5_lower wsX5_lower) := goodIn_app (goodIn_of _ (by decide +kernel)) ggX7_stackAfter_X5_lower
set_option maxRecDepth 20000 in
theorem ggX7_stackAfter_X7_pushed : GoodIn wsX7_stackAfter wsX7_pushed := goodIn_r _ [8] (by decide +kernel) (by decide +kernel)
set_option maxRecDepth 20000 in
theorem gX7_stackAfter_X7_pushed : GoodIn wsX7_stackAfter (va_wsS RX7 15 yX7_pushed wsX7_pushed) := goodIn_app (goodIn_of _ (by decide +kernel)) ggX7_stackAfter_X7_pushed
set_option maxRecDepth 20000 in
theorem ggX7_stackAfter_X5_upper : GoodIn wsX7_stackAfter wsX5_upper := goodIn_r _ [11] (by decide +kernel) (by decide +kernel)
set_option maxRecDepth 20000 in
theorem gX7_stackAfter_X5_upper : GoodIn wsX7_stackAfter (va_wsS RX7 21 yX5_upper wsX5_upper) := goodIn_app (goodIn_of _ (by decide +kernel)) ggX7_stackAfter_X5_upper
theorem dX7_stackAfter_0 : decode cX7_stackAfter 0 = .ok (.lload_n 0, 1) := by decide +kernel
theorem dX7_stackAfter_1 : decode cX7_stackAfter 1 = .ok (.iconst 2, 1) := by decide +kernel
theorem dX7_stackAfter_2 : decode cX7_stackAfter 2 = .ok (.lushr, 1) := by decide +kernel
theorem dX7_stackAfter_3 : decode cX7_stackAfter 3 = .ok (.lstore_n 3, 1) := by decide +kernel
theorem dX7_stackAfter_4 : decode cX7_stackAfter 4 = .ok (.iload_n 2, 1) := by decide +kernel
theorem dX7_stackAfter_5 : decode cX7_stackAfter 5 = .ok (.invokestatic 9, 3) := by decide +kernel
theorem dX7_stackAfter_8 : decode cX7_stackAfter 8 = .ok (.iconst (-1), 1) := by decide +kernel
theorem dX7_stackAfter_9 : decode cX7_stackAfter 9 = .ok (.if_icmp .eq 12, 3) := by decide +kernel
theorem dX7_stackAfter_12 : decode cX7_stackAfter 12 = .ok (.lload_n 3, 1) := by decide +kernel
theorem dX7_stackAfter_13 : decode cX7_stackAfter 13 = .ok (.iload_n 2, 1) := by decide +kernel
theorem dX7_stackAfter_14 : decode cX7_stackAfter 14 = .ok (.invokestatic 9, 3) := by decide +kernel
theorem dX7_stackAfter_17 : decode cX7_stackAfter 17 = .ok (.invokestatic 15, 3) := by decide +kernel
theorem dX7_stackAfter_20 : decode cX7_stackAfter 20 = .ok (.lstore_n 3, 1) := by decide +kernel
theorem dX7_stackAfter_21 : decode cX7_stackAfter 21 = .ok (.iload_n 2, 1) := by decide +kernel
theorem dX7_stackAfter_22 : decode cX7_stackAfter 22 = .ok (.invokestatic 21, 3) := by decide +kernel
theorem dX7_stackAfter_25 : decode cX7_stackAfter 25 = .ok (.iconst (-1), 1) := by decide +kernel
theorem dX7_stackAfter_26 : decode cX7_stackAfter 26 = .ok (.if_icmp .eq 12, 3) := by decide +kernel
theorem dX7_stackAfter_29 : decode cX7_stackAfter 29 = .ok (.lload_n 3, 1) := by decide +kernel
theorem dX7_stackAfter_30 : decode cX7_stackAfter 30 = .ok (.iload_n 2, 1) := by decide +kernel
theorem dX7_stackAfter_31 : decode cX7_stackAfter 31 = .ok (.invokestatic 21, 3) := by decide +kernel
theorem dX7_stackAfter_34 : decode cX7_stackAfter 34 = .ok (.invokestatic 15, 3) := by decide +kernel
theorem dX7_stackAfter_37 : decode cX7_stackAfter 37 = .ok (.lstore_n 3, 1) := by decide +kernel
theorem dX7_stackAfter_38 : decode cX7_stackAfter 38 = .ok (.lload_n 3, 1) := by decide +kernel
theorem dX7_stackAfter_39 : decode cX7_stackAfter 39 = .ok (.lreturn, 1) := by decide +kernel
set_option maxRecDepth 20000 in
theorem ggX7_heightAfter_X5_upper : GoodIn wsX7_heightAfter wsX5_upper := goodIn_r _ [4] (by decide +kernel) (by decide +kernel)
set_option maxRecDepth 20000 in
theorem gX7_heightAfter_X5_upper : GoodIn wsX7_heightAfter (va_wsS RX7 21 yX5_upper wsX5_upper) := goodIn_app (goodIn_of _ (by decide +kernel)) ggX7_heightAfter_X5_upper
set_option maxRecDepth 20000 in
theorem ggX7_heightAfter_X5_lower : GoodIn wsX7_heightAfter wsX5_lower := goodIn_r _ [7] (by decide +kernel) (by decide +kernel)
set_option maxRecDepth 20000 in
theorem gX7_heightAfter_X5_lower : GoodIn wsX7_heightAfter (va_wsS RX7 9 yX5_lower wsX5_lower) := goodIn_app (goodIn_of _ (by decide +kernel)) ggX7_heightAfter_X5_lower
theorem dX7_heightAfter_0 : decode cX7_heightAfter 0 = .ok (.iload_n 1, 1) := by decide +kernel
theorem dX7_heightAfter_1 : decode cX7_heightAfter 1 = .ok (.invokestatic 21, 3) := by decide +kernel
theorem dX7_heightAfter_4 : decode cX7_heightAfter 4 = .ok (.iconst (-1), 1) := by decide +kernel
theorem dX7_heightAfter_5 : decode cX7_heightAfter 5 = .ok (.if_icmp .ne 7, 3) := by decide +kernel
theorem dX7_heightAfter_8 : decode cX7_heightAfter 8 = .ok (.iconst 0, 1) := by decide +kernel
theorem dX7_heightAfter_9 : decode cX7_heightAfter 9 = .ok (.goto 4, 3) := by decide +kernel
theorem dX7_heightAfter_12 : decode cX7_heightAfter 12 = .ok (.iconst 1, 1) := by decide +kernel
theorem dX7_heightAfter_13 : decode cX7_heightAfter 13 = .ok (.istore_n 2, 1) := by decide +kernel
theorem dX7_heightAfter_14 : decode cX7_heightAfter 14 = .ok (.iload_n 1, 1) := by decide +kernel
theorem dX7_heightAfter_15 : decode cX7_heightAfter 15 = .ok (.invokestatic 9, 3) := by decide +kernel
theorem dX7_heightAfter_18 : decode cX7_heightAfter 18 = .ok (.iconst (-1), 1) := by decide +kernel
theorem dX7_heightAfter_19 : decode cX7_heightAfter 19 = .ok (.if_icmp .ne 7, 3) := by decide +kernel
theorem dX7_heightAfter_22 : decode cX7_heightAfter 22 = .ok (.iconst 0, 1) := by decide +kernel
theorem dX7_heightAfter_23 : decode cX7_heightAfter 23 = .ok (.goto 4, 3) := by decide +kernel
theorem dX7_heightAfter_26 : decode cX7_heightAfter 26 = .ok (.iconst 1, 1) := by decide +kernel
theorem dX7_heightAfter_27 : decode cX7_heightAfter 27 = .ok (.istore_n 3, 1) := by decide +kernel
theorem dX7_heightAfter_28 : decode cX7_heightAfter 28 = .ok (.iload_n 0, 1) := by decide +kernel
theorem dX7_heightAfter_29 : decode cX7_heightAfter 29 = .ok (.iconst 1, 1) := by decide +kernel
theorem dX7_heightAfter_30 : decode cX7_heightAfter 30 = .ok (.isub, 1) := by decide +kernel
theorem dX7_heightAfter_31 : decode cX7_heightAfter 31 = .ok (.iload_n 2, 1) := by decide +kernel
theorem dX7_heightAfter_32 : decode cX7_heightAfter 32 = .ok (.iadd, 1) := by decide +kernel
theorem dX7_heightAfter_33 : decode cX7_heightAfter 33 = .ok (.iload_n 3, 1) := by decide +kernel
theorem dX7_heightAfter_34 : decode cX7_heightAfter 34 = .ok (.iadd, 1) := by decide +kernel
theorem dX7_heightAfter_35 : decode cX7_heightAfter 35 = .ok (.ireturn, 1) := by decide +kernel
theorem dX8_init_0 : decode cX8_init 0 = .ok (.aload_n 0, 1) := by decide +kernel
theorem dX8_init_1 : decode cX8_init 1 = .ok (.invokespecial 3, 3) := by decide +kernel
theorem dX8_init_4 : decode cX8_init 4 = .ok (.aload_n 0, 1) := by decide +kernel
theorem dX8_init_5 : decode cX8_init 5 = .ok (.bipush 16, 2) := by decide +kernel
theorem dX8_init_7 : decode cX8_init 7 = .ok (.newarray .long, 2) := by decide +kernel
theorem dX8_init_9 : decode cX8_init 9 = .ok (.putfield 11, 3) := by decide +kernel
theorem dX8_init_12 : decode cX8_init 12 = .ok (.aload_n 0, 1) := by decide +kernel
theorem dX8_init_13 : decode cX8_init 13 = .ok (.bipush 16, 2) := by decide +kernel
theorem dX8_init_15 : decode cX8_init 15 = .ok (.newarray .long, 2) := by decide +kernel
theorem dX8_init_17 : decode cX8_init 17 = .ok (.putfield 15, 3) := by decide +kernel
theorem dX8_init_20 : decode cX8_init 20 = .ok (.return_, 1) := by decide +kernel
theorem dX8_fits_0 : decode cX8_fits 0 = .ok (.lconst 1, 1) := by decide +kernel
theorem dX8_fits_1 : decode cX8_fits 1 = .ok (.lstore_n 2, 1) := by decide +kernel
theorem dX8_fits_2 : decode cX8_fits 2 = .ok (.iconst 0, 1) := by decide +kernel
theorem dX8_fits_3 : decode cX8_fits 3 = .ok (.istore 4, 2) := by decide +kernel
theorem dX8_fits_5 : decode cX8_fits 5 = .ok (.iload 4, 2) := by decide +kernel
theorem dX8_fits_7 : decode cX8_fits 7 = .ok (.iload_n 1, 1) := by decide +kernel
theorem dX8_fits_8 : decode cX8_fits 8 = .ok (.if_icmp .ge 31, 3) := by decide +kernel
theorem dX8_fits_11 : decode cX8_fits 11 = .ok (.lload_n 2, 1) := by decide +kernel
theorem dX8_fits_12 : decode cX8_fits 12 = .ok (.ldc2_w 20, 3) := by decide +kernel
theorem dX8_fits_15 : decode cX8_fits 15 = .ok (.iconst 1, 1) := by decide +kernel
theorem dX8_fits_16 : decode cX8_fits 16 = .ok (.iload_n 0, 1) := by decide +kernel
theorem dX8_fits_17 : decode cX8_fits 17 = .ok (.invokestatic 22, 3) := by decide +kernel
theorem dX8_fits_20 : decode cX8_fits 20 = .ok (.i2l, 1) := by decide +kernel
theorem dX8_fits_21 : decode cX8_fits 21 = .ok (.ldiv, 1) := by decide +kernel
theorem dX8_fits_22 : decode cX8_fits 22 = .ok (.lcmp, 1) := by decide +kernel
theorem dX8_fits_23 : decode cX8_fits 23 = .ok (.ifCond .le 5, 3) := by decide +kernel
theorem dX8_fits_26 : decode cX8_fits 26 = .ok (.iconst 0, 1) := by decide +kernel
theorem dX8_fits_27 : decode cX8_fits 27 = .ok (.ireturn, 1) := by decide +kernel
theorem dX8_fits_28 : decode cX8_fits 28 = .ok (.lload_n 2, 1) := by decide +kernel
theorem dX8_fits_29 : decode cX8_fits 29 = .ok (.iload_n 0, 1) := by decide +kernel
theorem dX8_fits_30 : decode cX8_fits 30 = .ok (.i2l, 1) := by decide +kernel
theorem dX8_fits_31 : decode cX8_fits 31 = .ok (.lmul, 1) := by decide +kernel
theorem dX8_fits_32 : decode cX8_fits 32 = .ok (.lstore_n 2, 1) := by decide +kernel
theorem dX8_fits_33 : decode cX8_fits 33 = .ok (.iinc 4 1, 3) := by decide +kernel
theorem dX8_fits_36 : decode cX8_fits 36 = .ok (.goto (-31), 3) := by decide +kernel
theorem dX8_fits_39 : decode cX8_fits 39 = .ok (.iconst 1, 1) := by decide +kernel
theorem dX8_fits_40 : decode cX8_fits 40 = .ok (.ireturn, 1) := by decide +kernel
set_option maxRecDepth 20000 in
theorem ggX8_countAccepted_X8_growByOne : GoodIn wsX8_countAccepted wsX8_growByOne := goodIn_r _ [8, 9, 1, 10, 11, 12, 13, 14, 15, 16, 17, 18, 19, 20, 21, 22, 23, 24, 25, 26, 27, 28, 29, 30, 31, 32, 33, 43, 44, 45, 46, 47, 34, 35, 36, 37, 38, 39, 40, 41, 42] (by decide +kernel) (by decide +kernel)
set_option maxRecDepth 20000 in
theorem gX8_countAccepted_X8_growByOne : GoodIn wsX8_countAccepted (wsV RX8 37 RX8 yX8_growByOne wsX8_growByOne) := goodIn_app (goodIn_of _ (by decide +kernel)) ggX8_countAccepted_X8_growByOne
set_option maxRecDepth 20000 in
theorem ggX8_countAccepted_X9_bit : GoodIn wsX8_countAccepted wsX9_bit := goodIn_r _ [29] (by decide +kernel) (by decide +kernel)
set_option maxRecDepth 20000 in
theorem gX8_countAccepted_X9_bit_n41 : GoodIn wsX8_countAccepted (wsX9_bit) := ggX8_countAccepted_X9_bit
theorem dX8_countAccepted_0 : decode cX8_countAccepted 0 = .ok (.iconst 0, 1) := by decide +kernel
theorem dX8_countAccepted_1 : decode cX8_countAccepted 1 = .ok (.istore 5, 2) := by decide +kernel
theorem dX8_countAccepted_3 : decode cX8_countAccepted 3 = .ok (.iload 5, 2) := by decide +kernel
theorem dX8_countAccepted_5 : decode cX8_countAccepted 5 = .ok (.bipush 16, 2) := by decide +kernel
theorem dX8_countAccepted_7 : decode cX8_countAccepted 7 = .ok (.if_icmp .ge 30, 3) := by decide +kernel
theorem dX8_countAccepted_10 : decode cX8_countAccepted 10 = .ok (.aload_n 0, 1) := by decide +kernel
theorem dX8_countAccepted_11 : decode cX8_countAccepted 11 = .ok (.getfield 11, 3) := by decide +kernel
theorem dX8_countAccepted_14 : decode cX8_countAccepted 14 = .ok (.iload 5, 2) := by decide +kernel
theorem dX8_countAccepted_16 : decode cX8_countAccepted 16 = .ok (.iload 5, 2) := by decide +kernel
theorem dX8_countAccepted_18 : decode cX8_countAccepted 18 = .ok (.aload_n 2, 1) := by decide +kernel
theorem dX8_countAccepted_19 : decode cX8_countAccepted 19 = .ok (.getfield 28, 3) := by decide +kernel
theorem dX8_countAccepted_22 : decode cX8_countAccepted 22 = .ok (.if_icmp .ne 7, 3) := by decide +kernel
theorem dX8_countAccepted_25 : decode cX8_countAccepted 25 = .ok (.lconst 1, 1) := by decide +kernel
theorem dX8_countAccepted_26 : decode cX8_countAccepted 26 = .ok (.goto 4, 3) := by decide +kernel
theorem dX8_countAccepted_29 : decode cX8_countAccepted 29 = .ok (.lconst 0, 1) := by decide +kernel
theorem dX8_countAccepted_30 : decode cX8_countAccepted 30 = .ok (.lastore, 1) := by decide +kernel
theorem dX8_countAccepted_31 : decode cX8_countAccepted 31 = .ok (.iinc 5 1, 3) := by decide +kernel
theorem dX8_countAccepted_34 : decode cX8_countAccepted 34 = .ok (.goto (-31), 3) := by decide +kernel
theorem dX8_countAccepted_37 : decode cX8_countAccepted 37 = .ok (.iconst 0, 1) := by decide +kernel
theorem dX8_countAccepted_38 : decode cX8_countAccepted 38 = .ok (.istore 5, 2) := by decide +kernel
theorem dX8_countAccepted_40 : decode cX8_countAccepted 40 = .ok (.iload 5, 2) := by decide +kernel
theorem dX8_countAccepted_42 : decode cX8_countAccepted 42 = .ok (.iload 4, 2) := by decide +kernel
theorem dX8_countAccepted_44 : decode cX8_countAccepted 44 = .ok (.if_icmp .ge 18, 3) := by decide +kernel
theorem dX8_countAccepted_47 : decode cX8_countAccepted 47 = .ok (.aload_n 0, 1) := by decide +kernel
theorem dX8_countAccepted_48 : decode cX8_countAccepted 48 = .ok (.aload_n 1, 1) := by decide +kernel
theorem dX8_countAccepted_49 : decode cX8_countAccepted 49 = .ok (.aload_n 2, 1) := by decide +kernel
theorem dX8_countAccepted_50 : decode cX8_countAccepted 50 = .ok (.getfield 34, 3) := by decide +kernel
theorem dX8_countAccepted_53 : decode cX8_countAccepted 53 = .ok (.invokevirtual 37, 3) := by decide +kernel
theorem dX8_countAccepted_56 : decode cX8_countAccepted 56 = .ok (.iinc 5 1, 3) := by decide +kernel
theorem dX8_countAccepted_59 : decode cX8_countAccepted 59 = .ok (.goto (-19), 3) := by decide +kernel
theorem dX8_countAccepted_62 : decode cX8_countAccepted 62 = .ok (.lconst 0, 1) := by decide +kernel
theorem dX8_countAccepted_63 : decode cX8_countAccepted 63 = .ok (.lstore 5, 2) := by decide +kernel
theorem dX8_countAccepted_65 : decode cX8_countAccepted 65 = .ok (.iconst 0, 1) := by decide +kernel
theorem dX8_countAccepted_66 : decode cX8_countAccepted 66 = .ok (.istore 7, 2) := by decide +kernel
theorem dX8_countAccepted_68 : decode cX8_countAccepted 68 = .ok (.iload 7, 2) := by decide +kernel
theorem dX8_countAccepted_70 : decode cX8_countAccepted 70 = .ok (.bipush 16, 2) := by decide +kernel
theorem dX8_countAccepted_72 : decode cX8_countAccepted 72 = .ok (.if_icmp .ge 35, 3) := by decide +kernel
theorem dX8_countAccepted_75 : decode cX8_countAccepted 75 = .ok (.lload 5, 2) := by decide +kernel
theorem dX8_countAccepted_77 : decode cX8_countAccepted 77 = .ok (.iload 7, 2) := by decide +kernel
theorem dX8_countAccepted_79 : decode cX8_countAccepted 79 = .ok (.iload_n 3, 1) := by decide +kernel
theorem dX8_countAccepted_80 : decode cX8_countAccepted 80 = .ok (.invokestatic 41, 3) := by decide +kernel
theorem dX8_countAccepted_83 : decode cX8_countAccepted 83 = .ok (.iconst 1, 1) := by decide +kernel
theorem dX8_countAccepted_84 : decode cX8_countAccepted 84 = .ok (.if_icmp .ne 13, 3) := by decide +kernel
theorem dX8_countAccepted_87 : decode cX8_countAccepted 87 = .ok (.aload_n 0, 1) := by decide +kernel
theorem dX8_countAccepted_88 : decode cX8_countAccepted 88 = .ok (.getfield 11, 3) := by decide +kernel
theorem dX8_countAccepted_91 : decode cX8_countAccepted 91 = .ok (.iload 7, 2) := by decide +kernel
theorem dX8_countAccepted_93 : decode cX8_countAccepted 93 = .ok (.laload, 1) := by decide +kernel
theorem dX8_countAccepted_94 : decode cX8_countAccepted 94 = .ok (.goto 4, 3) := by decide +kernel
theorem dX8_countAccepted_97 : decode cX8_countAccepted 97 = .ok (.lconst 0, 1) := by decide +kernel
theorem dX8_countAccepted_98 : decode cX8_countAccepted 98 = .ok (.ladd, 1) := by decide +kernel
theorem dX8_countAccepted_99 : decode cX8_countAccepted 99 = .ok (.lstore 5, 2) := by decide +kernel
theorem dX8_countAccepted_101 : decode cX8_countAccepted 101 = .ok (.iinc 7 1, 3) := by decide +kernel
theorem dX8_countAccepted_104 : decode cX8_countAccepted 104 = .ok (.goto (-36), 3) := by decide +kernel
theorem dX8_countAccepted_107 : decode cX8_countAccepted 107 = .ok (.lload 5, 2) := by decide +kernel
theorem dX8_countAccepted_109 : decode cX8_countAccepted 109 = .ok (.lreturn, 1) := by decide +kernel
set_option maxRecDepth 20000 in
theorem ggX8_growByOne_X0_acceptedAbove : GoodIn wsX8_growByOne wsX0_acceptedAbove := goodIn_r _ [11, 12, 13, 14, 15, 16, 17, 18, 19, 20, 21, 22, 23, 24, 27, 28, 29, 30, 31, 32, 33, 34, 35, 36, 37, 38, 39, 40] (by decide +kernel) (by decide +kernel)
set_option maxRecDepth 20000 in
theorem gX8_growByOne_X0_acceptedAbove : GoodIn wsX8_growByOne (wsV RX8 46 RX0 yX0_acceptedAbove wsX0_acceptedAbove) := goodIn_app (goodIn_of _ (by decide +kernel)) ggX8_growByOne_X0_acceptedAbove
theorem dX8_growByOne_0 : decode cX8_growByOne 0 = .ok (.iconst 0, 1) := by decide +kernel
theorem dX8_growByOne_1 : decode cX8_growByOne 1 = .ok (.istore_n 3, 1) := by decide +kernel
theorem dX8_growByOne_2 : decode cX8_growByOne 2 = .ok (.iload_n 3, 1) := by decide +kernel
theorem dX8_growByOne_3 : decode cX8_growByOne 3 = .ok (.bipush 16, 2) := by decide +kernel
theorem dX8_growByOne_5 : decode cX8_growByOne 5 = .ok (.if_icmp .ge 16, 3) := by decide +kernel
theorem dX8_growByOne_8 : decode cX8_growByOne 8 = .ok (.aload_n 0, 1) := by decide +kernel
theorem dX8_growByOne_9 : decode cX8_growByOne 9 = .ok (.getfield 15, 3) := by decide +kernel
theorem dX8_growByOne_12 : decode cX8_growByOne 12 = .ok (.iload_n 3, 1) := by decide +kernel
theorem dX8_growByOne_13 : decode cX8_growByOne 13 = .ok (.lconst 0, 1) := by decide +kernel
theorem dX8_growByOne_14 : decode cX8_growByOne 14 = .ok (.lastore, 1) := by decide +kernel
theorem dX8_growByOne_15 : decode cX8_growByOne 15 = .ok (.iinc 3 1, 3) := by decide +kernel
theorem dX8_growByOne_18 : decode cX8_growByOne 18 = .ok (.goto (-16), 3) := by decide +kernel
theorem dX8_growByOne_21 : decode cX8_growByOne 21 = .ok (.iconst 0, 1) := by decide +kernel
theorem dX8_growByOne_22 : decode cX8_growByOne 22 = .ok (.istore_n 3, 1) := by decide +kernel
theorem dX8_growByOne_23 : decode cX8_growByOne 23 = .ok (.iload_n 3, 1) := by decide +kernel
theorem dX8_growByOne_24 : decode cX8_growByOne 24 = .ok (.bipush 16, 2) := by decide +kernel
theorem dX8_growByOne_26 : decode cX8_growByOne 26 = .ok (.if_icmp .ge 56, 3) := by decide +kernel
theorem dX8_growByOne_29 : decode cX8_growByOne 29 = .ok (.aload_n 0, 1) := by decide +kernel
theorem dX8_growByOne_30 : decode cX8_growByOne 30 = .ok (.getfield 11, 3) := by decide +kernel
theorem dX8_growByOne_33 : decode cX8_growByOne 33 = .ok (.iload_n 3, 1) := by decide +kernel
theorem dX8_growByOne_34 : decode cX8_growByOne 34 = .ok (.laload, 1) := by decide +kernel
theorem dX8_growByOne_35 : decode cX8_growByOne 35 = .ok (.lconst 0, 1) := by decide +kernel
theorem dX8_growByOne_36 : decode cX8_growByOne 36 = .ok (.lcmp, 1) := by decide +kernel
theorem dX8_growByOne_37 : decode cX8_growByOne 37 = .ok (.ifCond .eq 39, 3) := by decide +kernel
theorem dX8_growByOne_40 : decode cX8_growByOne 40 = .ok (.iconst 0, 1) := by decide +kernel
theorem dX8_growByOne_41 : decode cX8_growByOne 41 = .ok (.istore 4, 2) := by decide +kernel
theorem dX8_growByOne_43 : decode cX8_growByOne 43 = .ok (.iload 4, 2) := by decide +kernel
theorem dX8_growByOne_45 : decode cX8_growByOne 45 = .ok (.iload_n 2, 1) := by decide +kernel
theorem dX8_growByOne_46 : decode cX8_growByOne 46 = .ok (.if_icmp .ge 30, 3) := by decide +kernel
theorem dX8_growByOne_49 : decode cX8_growByOne 49 = .ok (.aload_n 0, 1) := by decide +kernel
theorem dX8_growByOne_50 : decode cX8_growByOne 50 = .ok (.getfield 15, 3) := by decide +kernel
theorem dX8_growByOne_53 : decode cX8_growByOne 53 = .ok (.aload_n 1, 1) := by decide +kernel
theorem dX8_growByOne_54 : decode cX8_growByOne 54 = .ok (.iload_n 3, 1) := by decide +kernel
theorem dX8_growByOne_55 : decode cX8_growByOne 55 = .ok (.iload 4, 2) := by decide +kernel
theorem dX8_growByOne_57 : decode cX8_growByOne 57 = .ok (.invokevirtual 46, 3) := by decide +kernel
theorem dX8_growByOne_60 : decode cX8_growByOne 60 = .ok (.dup2, 1) := by decide +kernel
theorem dX8_growByOne_61 : decode cX8_growByOne 61 = .ok (.laload, 1) := by decide +kernel
theorem dX8_growByOne_62 : decode cX8_growByOne 62 = .ok (.aload_n 0, 1) := by decide +kernel
theorem dX8_growByOne_63 : decode cX8_growByOne 63 = .ok (.getfield 11, 3) := by decide +kernel
theorem dX8_growByOne_66 : decode cX8_growByOne 66 = .ok (.iload_n 3, 1) := by decide +kernel
theorem dX8_growByOne_67 : decode cX8_growByOne 67 = .ok (.laload, 1) := by decide +kernel
theorem dX8_growByOne_68 : decode cX8_growByOne 68 = .ok (.ladd, 1) := by decide +kernel
theorem dX8_growByOne_69 : decode cX8_growByOne 69 = .ok (.lastore, 1) := by decide +kernel
theorem dX8_growByOne_70 : decode cX8_growByOne 70 = .ok (.iinc 4 1, 3) := by decide +kernel
theorem dX8_growByOne_73 : decode cX8_growByOne 73 = .ok (.goto (-30), 3) := by decide +kernel
theorem dX8_growByOne_76 : decode cX8_growByOne 76 = .ok (.iinc 3 1, 3) := by decide +kernel
theorem dX8_growByOne_79 : decode cX8_growByOne 79 = .ok (.goto (-56), 3) := by decide +kernel
theorem dX8_growByOne_82 : decode cX8_growByOne 82 = .ok (.aload_n 0, 1) := by decide +kernel
theorem dX8_growByOne_83 : decode cX8_growByOne 83 = .ok (.getfield 15, 3) := by decide +kernel
theorem dX8_growByOne_86 : decode cX8_growByOne 86 = .ok (.iconst 0, 1) := by decide +kernel
theorem dX8_growByOne_87 : decode cX8_growByOne 87 = .ok (.aload_n 0, 1) := by decide +kernel
theorem dX8_growByOne_88 : decode cX8_growByOne 88 = .ok (.getfield 11, 3) := by decide +kernel
theorem dX8_growByOne_91 : decode cX8_growByOne 91 = .ok (.iconst 0, 1) := by decide +kernel
theorem dX8_growByOne_92 : decode cX8_growByOne 92 = .ok (.bipush 16, 2) := by decide +kernel
theorem dX8_growByOne_94 : decode cX8_growByOne 94 = .ok (.invokestatic 49, 3) := by decide +kernel
theorem dX8_growByOne_97 : decode cX8_growByOne 97 = .ok (.return_, 1) := by decide +kernel
set_option maxRecDepth 20000 in
theorem ggX9_init_X2_init : GoodIn wsX9_init wsX2_init := goodIn_r _ [27, 28, 2, 3, 29, 30, 219, 220] (by decide +kernel) (by decide +kernel)
set_option maxRecDepth 20000 in
theorem gX9_init_X2_init_n9 : GoodIn wsX9_init (wsX2_init) := ggX9_init_X2_init
set_option maxRecDepth 20000 in
theorem ggX9_init_X1_init : GoodIn wsX9_init wsX1_init := goodIn_r _ [32, 33, 2, 3, 34, 35, 228, 229, 230, 231, 232, 233, 234, 235, 236] (by decide +kernel) (by decide +kernel)
set_option maxRecDepth 20000 in
theorem gX9_init_X1_init_n18 : GoodIn wsX9_init (wsX1_init) := ggX9_init_X1_init
set_option maxRecDepth 20000 in
theorem ggX9_init_X3_init : GoodIn wsX9_init wsX3_init := goodIn_r _ [38, 39, 2, 3, 40, 41, 9, 10, 31, 32, 33, 34, 35, 237, 238, 239, 228, 229, 230, 231, 232, 233, 234, 235, 236] (by decide +kernel) (by decide +kernel)
set_option maxRecDepth 20000 in
theorem gX9_init_X3_init : GoodIn wsX9_init (wsX3_init) := ggX9_init_X3_init
set_option maxRecDepth 20000 in
theorem ggX9_init_X0_init : GoodIn wsX9_init wsX0_init := goodIn_r _ [44, 45, 2, 3, 34, 46, 47, 48, 49, 240, 241, 242, 243, 244] (by decide +kernel) (by decide +kernel)
set_option maxRecDepth 20000 in
theorem gX9_init_X0_init : GoodIn wsX9_init (wsX0_init) := ggX9_init_X0_init
set_option maxRecDepth 20000 in
theorem ggX9_init_X8_init : GoodIn wsX9_init wsX8_init := goodIn_r _ [51, 52, 2, 3, 53, 54, 55, 245, 246] (by decide +kernel) (by decide +kernel)
set_option maxRecDepth 20000 in
theorem gX9_init_X8_init_n47 : GoodIn wsX9_init (wsX8_init) := ggX9_init_X8_init
set_option maxRecDepth 20000 in
theorem ggX9_init_J0_length_8abf5 : GoodIn wsX9_init wsJ0_length_8abf5 := goodIn_r _ [60, 61, 62, 63, 64, 59, 65, 66, 67] (by decide +kernel) (by decide +kernel)
set_option maxRecDepth 20000 in
theorem gX9_init_J0_length_8abf5 : GoodIn wsX9_init (wsV RX9 54 RJ0 yJ0_length_8abf5 wsJ0_length_8abf5) := goodIn_app (goodIn_of _ (by decide +kernel)) ggX9_init_J0_length_8abf5
set_option maxRecDepth 20000 in
theorem ggX9_init_J0_charAt_5068e : GoodIn wsX9_init wsJ0_charAt_5068e := goodIn_r _ [71, 61, 72, 73, 74, 59, 75, 66, 67, 76, 77, 78, 79, 80, 81, 82, 83, 84, 85, 86, 87, 88, 89, 90, 91, 92, 93, 94, 95, 96, 97, 98, 99, 100, 101, 102, 103, 104] (by decide +kernel) (by decide +kernel)
set_option maxRecDepth 20000 in
theorem gX9_init_J0_charAt_5068e : GoodIn wsX9_init (wsV RX9 60 RJ0 yJ0_charAt_5068e wsJ0_charAt_5068e) := goodIn_app (goodIn_of _ (by decide +kernel)) ggX9_init_J0_charAt_5068e
set_option maxRecDepth 20000 in
theorem ggX9_init_X2_add : GoodIn wsX9_init wsX2_add := goodIn_r _ [108, 109, 30, 219, 220] (by decide +kernel) (by decide +kernel)
set_option maxRecDepth 20000 in
theorem gX9_init_X2_add : GoodIn wsX9_init (wsV RX9 64 RX2 yX2_add wsX2_add) := goodIn_app (goodIn_of _ (by decide +kernel)) ggX9_init_X2_add
set_option maxRecDepth 20000 in
theorem ggX9_init_X2_readInto : GoodIn wsX9_init wsX2_readInto := goodIn_r _ [113, 109, 30, 114, 115, 116, 10, 117, 118, 119, 120, 121, 122, 123, 124, 125, 126, 127, 128, 129, 130, 131, 132, 6, 133, 134, 135, 136, 137, 138, 139, 140, 141, 142, 143, 144, 145, 146, 147, 148, 149, 150, 151, 152, 153, 154, 155, 156, 157, 158, 159, 160, 161, 162, 163, 164, 165, 166, 167, 168, 169, 170, 171, 172, 173, 174, 175, 176, 177, 178, 179, 180, 181, 182, 183, 184, 185, 35, 186, 187, 188, 189, 190, 191, 192, 193, 194, 195, 196, 219, 220, 228, 229, 230, 231, 232, 233, 234, 235, 236] (by decide +kernel) (by decide +kernel)
set_option maxRecDepth 20000 in
theorem gX9_init_X2_readInto : GoodIn wsX9_init (wsV RX9 68 RX2 yX2_readInto wsX2_readInto) := goodIn_app (goodIn_of _ (by decide +kernel)) ggX9_init_X2_readInto
set_option maxRecDepth 20000 in
theorem ggX9_init_X9_adoptDraft : GoodIn wsX9_init wsX9_adoptDraft := goodIn_r _ [200, 11, 12, 16, 20, 201, 202, 203, 204, 10, 205, 118, 119, 120, 121, 122, 35, 206, 207, 208, 209, 127, 128, 129, 123, 124, 125, 126, 210, 211, 212, 15, 213, 214, 221, 222, 223, 224, 225, 226, 227, 240, 241, 242, 243, 244, 228, 229, 230, 231, 232, 233, 234, 235, 236, 237, 238, 239] (by decide +kernel) (by decide +kernel)
set_option maxRecDepth 20000 in
theorem gX9_init_X9_adoptDraft : GoodIn wsX9_init (wsV RX9 72 RX9 yX9_adoptDraft wsX9_adoptDraft) := goodIn_app (goodIn_of _ (by decide +kernel)) ggX9_init_X9_adoptDraft
set_option maxRecDepth 20000 in
theorem ggX9_init_X2_empty : GoodIn wsX9_init wsX2_empty := goodIn_r _ [218, 109, 219, 220] (by decide +kernel) (by decide +kernel)
set_option maxRecDepth 20000 in
theorem gX9_init_X2_empty : GoodIn wsX9_init (wsV RX9 75 RX2 yX2_empty wsX2_empty) := goodIn_app (goodIn_of _ (by decide +kernel)) ggX9_init_X2_empty

theorem dX2_init_0 : decode cX2_init 0 = .ok (.aload_n 0, 1) := by decide +kernel
theorem dX2_init_1 : decode cX2_init 1 = .ok (.invokespecial 3, 3) := by decide +kernel
theorem dX2_init_4 : decode cX2_init 4 = .ok (.aload_n 0, 1) := by decide +kernel
theorem dX2_init_5 : decode cX2_init 5 = .ok (.sipush 200, 3) := by decide +kernel
theorem dX2_init_8 : decode cX2_init 8 = .ok (.newarray .char, 2) := by decide +kernel
theorem dX2_init_10 : decode cX2_init 10 = .ok (.putfield 11, 3) := by decide +kernel
theorem dX2_init_13 : decode cX2_init 13 = .ok (.return_, 1) := by decide +kernel
theorem dX2_add_0 : decode cX2_add 0 = .ok (.aload_n 0, 1) := by decide +kernel
theorem dX2_add_1 : decode cX2_add 1 = .ok (.getfield 15, 3) := by decide +kernel
theorem dX2_add_4 : decode cX2_add 4 = .ok (.sipush 200, 3) := by decide +kernel
theorem dX2_add_7 : decode cX2_add 7 = .ok (.if_icmp .lt 6, 3) := by decide +kernel
theorem dX2_add_10 : decode cX2_add 10 = .ok (.bipush (-3), 2) := by decide +kernel
theorem dX2_add_12 : decode cX2_add 12 = .ok (.ireturn, 1) := by decide +kernel
theorem dX2_add_13 : decode cX2_add 13 = .ok (.aload_n 0, 1) := by decide +kernel
theorem dX2_add_14 : decode cX2_add 14 = .ok (.getfield 11, 3) := by decide +kernel
theorem dX2_add_17 : decode cX2_add 17 = .ok (.aload_n 0, 1) := by decide +kernel
theorem dX2_add_18 : decode cX2_add 18 = .ok (.getfield 15, 3) := by decide +kernel
theorem dX2_add_21 : decode cX2_add 21 = .ok (.iload_n 1, 1) := by decide +kernel
theorem dX2_add_22 : decode cX2_add 22 = .ok (.castore, 1) := by decide +kernel
theorem dX2_add_23 : decode cX2_add 23 = .ok (.aload_n 0, 1) := by decide +kernel
theorem dX2_add_24 : decode cX2_add 24 = .ok (.dup, 1) := by decide +kernel
theorem dX2_add_25 : decode cX2_add 25 = .ok (.getfield 15, 3) := by decide +kernel
theorem dX2_add_28 : decode cX2_add 28 = .ok (.iconst 1, 1) := by decide +kernel
theorem dX2_add_29 : decode cX2_add 29 = .ok (.iadd, 1) := by decide +kernel
theorem dX2_add_30 : decode cX2_add 30 = .ok (.putfield 15, 3) := by decide +kernel
theorem dX2_add_33 : decode cX2_add 33 = .ok (.aload_n 0, 1) := by decide +kernel
theorem dX2_add_34 : decode cX2_add 34 = .ok (.getfield 15, 3) := by decide +kernel
theorem dX2_add_37 : decode cX2_add 37 = .ok (.ireturn, 1) := by decide +kernel
theorem dX2_empty_0 : decode cX2_empty 0 = .ok (.aload_n 0, 1) := by decide +kernel
theorem dX2_empty_1 : decode cX2_empty 1 = .ok (.getfield 15, 3) := by decide +kernel
theorem dX2_empty_4 : decode cX2_empty 4 = .ok (.istore_n 1, 1) := by decide +kernel
theorem dX2_empty_5 : decode cX2_empty 5 = .ok (.aload_n 0, 1) := by decide +kernel
theorem dX2_empty_6 : decode cX2_empty 6 = .ok (.iconst 0, 1) := by decide +kernel
theorem dX2_empty_7 : decode cX2_empty 7 = .ok (.putfield 15, 3) := by decide +kernel
theorem dX2_empty_10 : decode cX2_empty 10 = .ok (.iload_n 1, 1) := by decide +kernel
theorem dX2_empty_11 : decode cX2_empty 11 = .ok (.ireturn, 1) := by decide +kernel
set_option maxRecDepth 20000 in
theorem ggX2_readInto_X1_start : GoodIn wsX2_readInto wsX1_start := goodIn_r _ [7, 8, 9, 10, 11, 12, 13, 14, 15, 6, 16, 17, 18, 19, 91, 92, 93, 94, 95, 96, 97, 98, 99] (by decide +kernel) (by decide +kernel)
set_option maxRecDepth 20000 in
theorem gX2_readInto_X1_start : GoodIn wsX2_readInto (wsV RX2 19 RX1 yX1_start wsX1_start) := goodIn_app (goodIn_of _ (by decide +kernel)) ggX2_readInto_X1_start
set_option maxRecDepth 20000 in
theorem ggX2_readInto_X2_readStatement : GoodIn wsX2_readInto wsX2_readStatement := goodIn_r _ [24, 2, 25, 26, 27, 23, 28, 29, 30, 31, 32, 33, 34, 35, 36, 37, 38, 39, 40, 41, 42, 43, 44, 45, 46, 47, 6, 48, 8, 49, 50, 51, 52, 53, 54, 55, 56, 57, 58, 59, 12, 60, 61, 62, 63, 64, 9, 65, 66, 67, 68, 69, 70, 71, 72, 73, 74, 75, 76, 77, 78, 79, 80, 81, 82, 83, 84, 85, 86, 87, 88, 89, 90, 91, 92, 93, 94, 95, 96, 97, 98, 99] (by decide +kernel) (by decide +kernel)
set_option maxRecDepth 20000 in
theorem gX2_readInto_X2_readStatement : GoodIn wsX2_readInto (wsV RX2 24 RX2 yX2_readStatement wsX2_readStatement) := goodIn_app (goodIn_of _ (by decide +kernel)) ggX2_readInto_X2_readStatement
theorem dX2_readInto_0 : decode cX2_readInto 0 = .ok (.aload_n 1, 1) := by decide +kernel
theorem dX2_readInto_1 : decode cX2_readInto 1 = .ok (.invokevirtual 19, 3) := by decide +kernel
theorem dX2_readInto_4 : decode cX2_readInto 4 = .ok (.iconst 0, 1) := by decide +kernel
theorem dX2_readInto_5 : decode cX2_readInto 5 = .ok (.istore_n 2, 1) := by decide +kernel
theorem dX2_readInto_6 : decode cX2_readInto 6 = .ok (.iconst 0, 1) := by decide +kernel
theorem dX2_readInto_7 : decode cX2_readInto 7 = .ok (.istore_n 3, 1) := by decide +kernel
theorem dX2_readInto_8 : decode cX2_readInto 8 = .ok (.iload_n 3, 1) := by decide +kernel
theorem dX2_readInto_9 : decode cX2_readInto 9 = .ok (.aload_n 0, 1) := by decide +kernel
theorem dX2_readInto_10 : decode cX2_readInto 10 = .ok (.getfield 15, 3) := by decide +kernel
theorem dX2_readInto_13 : decode cX2_readInto 13 = .ok (.if_icmp .ge 36, 3) := by decide +kernel
theorem dX2_readInto_16 : decode cX2_readInto 16 = .ok (.aload_n 0, 1) := by decide +kernel
theorem dX2_readInto_17 : decode cX2_readInto 17 = .ok (.getfield 11, 3) := by decide +kernel
theorem dX2_readInto_20 : decode cX2_readInto 20 = .ok (.iload_n 3, 1) := by decide +kernel
theorem dX2_readInto_21 : decode cX2_readInto 21 = .ok (.caload, 1) := by decide +kernel
theorem dX2_readInto_22 : decode cX2_readInto 22 = .ok (.bipush 59, 2) := by decide +kernel
theorem dX2_readInto_24 : decode cX2_readInto 24 = .ok (.if_icmp .ne 19, 3) := by decide +kernel
theorem dX2_readInto_27 : decode cX2_readInto 27 = .ok (.aload_n 0, 1) := by decide +kernel
theorem dX2_readInto_28 : decode cX2_readInto 28 = .ok (.iload_n 2, 1) := by decide +kernel
theorem dX2_readInto_29 : decode cX2_readInto 29 = .ok (.iload_n 3, 1) := by decide +kernel
theorem dX2_readInto_30 : decode cX2_readInto 30 = .ok (.aload_n 1, 1) := by decide +kernel
theorem dX2_readInto_31 : decode cX2_readInto 31 = .ok (.invokevirtual 24, 3) := by decide +kernel
theorem dX2_readInto_34 : decode cX2_readInto 34 = .ok (.ifCond .ne 5, 3) := by decide +kernel
theorem dX2_readInto_37 : decode cX2_readInto 37 = .ok (.iload_n 2, 1) := by decide +kernel
theorem dX2_readInto_38 : decode cX2_readInto 38 = .ok (.ireturn, 1) := by decide +kernel
theorem dX2_readInto_39 : decode cX2_readInto 39 = .ok (.iload_n 3, 1) := by decide +kernel
theorem dX2_readInto_40 : decode cX2_readInto 40 = .ok (.iconst 1, 1) := by decide +kernel
theorem dX2_readInto_41 : decode cX2_readInto 41 = .ok (.iadd, 1) := by decide +kernel
theorem dX2_readInto_42 : decode cX2_readInto 42 = .ok (.istore_n 2, 1) := by decide +kernel
theorem dX2_readInto_43 : decode cX2_readInto 43 = .ok (.iinc 3 1, 3) := by decide +kernel
theorem dX2_readInto_46 : decode cX2_readInto 46 = .ok (.goto (-38), 3) := by decide +kernel
theorem dX2_readInto_49 : decode cX2_readInto 49 = .ok (.iload_n 2, 1) := by decide +kernel
theorem dX2_readInto_50 : decode cX2_readInto 50 = .ok (.aload_n 0, 1) := by decide +kernel
theorem dX2_readInto_51 : decode cX2_readInto 51 = .ok (.getfield 15, 3) := by decide +kernel
theorem dX2_readInto_54 : decode cX2_readInto 54 = .ok (.if_icmp .ge 7, 3) := by decide +kernel
theorem dX2_readInto_57 : decode cX2_readInto 57 = .ok (.iload_n 2, 1) := by decide +kernel
theorem dX2_readInto_58 : decode cX2_readInto 58 = .ok (.goto 5, 3) := by decide +kernel
theorem dX2_readInto_61 : decode cX2_readInto 61 = .ok (.bipush (-4), 2) := by decide +kernel
theorem dX2_readInto_63 : decode cX2_readInto 63 = .ok (.ireturn, 1) := by decide +kernel
set_option maxRecDepth 20000 in
theorem ggX2_readStatement_X2_isKindWithNumbers : GoodIn wsX2_readStatement wsX2_isKindWithNumbers := goodIn_r _ [6, 1, 71, 72] (by decide +kernel) (by decide +kernel)
set_option maxRecDepth 20000 in
theorem gX2_readStatement_X2_isKindWithNumbers : GoodIn wsX2_readStatement (wsV RX2 28 RX2 yX2_isKindWithNumbers wsX2_isKindWithNumbers) := goodIn_app (goodIn_of _ (by decide +kernel)) ggX2_readStatement_X2_isKindWithNumbers
set_option maxRecDepth 20000 in
theorem ggX2_readStatement_X2_readSizes : GoodIn wsX2_readStatement wsX2_readSizes := goodIn_r _ [10, 11, 12, 13, 14, 15, 5, 16, 1, 73, 74, 75, 76, 77, 78, 79, 80, 81, 71, 72] (by decide +kernel) (by decide +kernel)
set_option maxRecDepth 20000 in
theorem gX2_readStatement_X2_readSizes : GoodIn wsX2_readStatement (wsV RX2 32 RX2 yX2_readSizes wsX2_readSizes) := goodIn_app (goodIn_of _ (by decide +kernel)) ggX2_readStatement_X2_readSizes
set_option maxRecDepth 20000 in
theorem ggX2_readStatement_X2_readMark : GoodIn wsX2_readStatement wsX2_readMark := goodIn_r _ [20, 1, 21, 22, 13, 14, 15, 5, 16, 23, 24, 25, 26, 27, 28, 29, 30, 31, 71, 72, 73, 74, 75, 76, 77, 78, 79, 80, 81] (by decide +kernel) (by decide +kernel)
set_option maxRecDepth 20000 in
theorem gX2_readStatement_X2_readMark : GoodIn wsX2_readStatement (wsV RX2 36 RX2 yX2_readMark wsX2_readMark) := goodIn_app (goodIn_of _ (by decide +kernel)) ggX2_readStatement_X2_readMark
set_option maxRecDepth 20000 in
theorem ggX2_readStatement_X2_readRule : GoodIn wsX2_readStatement wsX2_readRule := goodIn_r _ [35, 13, 14, 15, 5, 16, 1, 36, 37, 38, 26, 39, 40, 41, 24, 25, 27, 28, 42, 43, 44, 45, 46, 47, 48, 49, 50, 51, 52, 53, 54, 55, 56, 57, 58, 59, 60, 61, 62, 63, 64, 65, 66, 67, 68, 69, 70, 71, 72, 73, 74, 75, 76, 77, 78, 79, 80, 81] (by decide +kernel) (by decide +kernel)
set_option maxRecDepth 20000 in
theorem gX2_readStatement_X2_readRule : GoodIn wsX2_readStatement (wsV RX2 39 RX2 yX2_readRule wsX2_readRule) := goodIn_app (goodIn_of _ (by decide +kernel)) ggX2_readStatement_X2_readRule
theorem dX2_readStatement_0 : decode cX2_readStatement 0 = .ok (.aload_n 0, 1) := by decide +kernel
theorem dX2_readStatement_1 : decode cX2_readStatement 1 = .ok (.iload_n 1, 1) := by decide +kernel
theorem dX2_readStatement_2 : decode cX2_readStatement 2 = .ok (.iload_n 2, 1) := by decide +kernel
theorem dX2_readStatement_3 : decode cX2_readStatement 3 = .ok (.invokevirtual 28, 3) := by decide +kernel
theorem dX2_readStatement_6 : decode cX2_readStatement 6 = .ok (.ifCond .ne 5, 3) := by decide +kernel
theorem dX2_readStatement_9 : decode cX2_readStatement 9 = .ok (.iconst 0, 1) := by decide +kernel
theorem dX2_readStatement_10 : decode cX2_readStatement 10 = .ok (.ireturn, 1) := by decide +kernel
theorem dX2_readStatement_11 : decode cX2_readStatement 11 = .ok (.aload_n 0, 1) := by decide +kernel
theorem dX2_readStatement_12 : decode cX2_readStatement 12 = .ok (.getfield 11, 3) := by decide +kernel
theorem dX2_readStatement_15 : decode cX2_readStatement 15 = .ok (.iload_n 1, 1) := by decide +kernel
theorem dX2_readStatement_16 : decode cX2_readStatement 16 = .ok (.caload, 1) := by decide +kernel
theorem dX2_readStatement_17 : decode cX2_readStatement 17 = .ok (.istore 4, 2) := by decide +kernel
theorem dX2_readStatement_19 : decode cX2_readStatement 19 = .ok (.iload 4, 2) := by decide +kernel
theorem dX2_readStatement_21 : decode cX2_readStatement 21 = .ok (.bipush 103, 2) := by decide +kernel
theorem dX2_readStatement_23 : decode cX2_readStatement 23 = .ok (.if_icmp .ne 7, 3) := by decide +kernel
theorem dX2_readStatement_26 : decode cX2_readStatement 26 = .ok (.iconst 1, 1) := by decide +kernel
theorem dX2_readStatement_27 : decode cX2_readStatement 27 = .ok (.goto 4, 3) := by decide +kernel
theorem dX2_readStatement_30 : decode cX2_readStatement 30 = .ok (.iconst 0, 1) := by decide +kernel
theorem dX2_readStatement_31 : decode cX2_readStatement 31 = .ok (.iload_n 1, 1) := by decide +kernel
theorem dX2_readStatement_32 : decode cX2_readStatement 32 = .ok (.ifCond .ne 7, 3) := by decide +kernel
theorem dX2_readStatement_35 : decode cX2_readStatement 35 = .ok (.iconst 1, 1) := by decide +kernel
theorem dX2_readStatement_36 : decode cX2_readStatement 36 = .ok (.goto 4, 3) := by decide +kernel
theorem dX2_readStatement_39 : decode cX2_readStatement 39 = .ok (.iconst 0, 1) := by decide +kernel
theorem dX2_readStatement_40 : decode cX2_readStatement 40 = .ok (.if_icmp .eq 5, 3) := by decide +kernel
theorem dX2_readStatement_43 : decode cX2_readStatement 43 = .ok (.iconst 0, 1) := by decide +kernel
theorem dX2_readStatement_44 : decode cX2_readStatement 44 = .ok (.ireturn, 1) := by decide +kernel
theorem dX2_readStatement_45 : decode cX2_readStatement 45 = .ok (.iload_n 2, 1) := by decide +kernel
theorem dX2_readStatement_46 : decode cX2_readStatement 46 = .ok (.iload_n 1, 1) := by decide +kernel
theorem dX2_readStatement_47 : decode cX2_readStatement 47 = .ok (.isub, 1) := by decide +kernel
theorem dX2_readStatement_48 : decode cX2_readStatement 48 = .ok (.iconst 2, 1) := by decide +kernel
theorem dX2_readStatement_49 : decode cX2_readStatement 49 = .ok (.idiv, 1) := by decide +kernel
theorem dX2_readStatement_50 : decode cX2_readStatement 50 = .ok (.istore 5, 2) := by decide +kernel
theorem dX2_readStatement_52 : decode cX2_readStatement 52 = .ok (.iload 4, 2) := by decide +kernel
theorem dX2_readStatement_54 : decode cX2_readStatement 54 = .ok (.bipush 103, 2) := by decide +kernel
theorem dX2_readStatement_56 : decode cX2_readStatement 56 = .ok (.if_icmp .ne 24, 3) := by decide +kernel
theorem dX2_readStatement_59 : decode cX2_readStatement 59 = .ok (.iload 5, 2) := by decide +kernel
theorem dX2_readStatement_61 : decode cX2_readStatement 61 = .ok (.iconst 2, 1) := by decide +kernel
theorem dX2_readStatement_62 : decode cX2_readStatement 62 = .ok (.if_icmp .ne 16, 3) := by decide +kernel
theorem dX2_readStatement_65 : decode cX2_readStatement 65 = .ok (.aload_n 0, 1) := by decide +kernel
theorem dX2_readStatement_66 : decode cX2_readStatement 66 = .ok (.iload_n 1, 1) := by decide +kernel
theorem dX2_readStatement_67 : decode cX2_readStatement 67 = .ok (.aload_n 3, 1) := by decide +kernel
theorem dX2_readStatement_68 : decode cX2_readStatement 68 = .ok (.invokevirtual 32, 3) := by decide +kernel
theorem dX2_readStatement_71 : decode cX2_readStatement 71 = .ok (.ifCond .eq 7, 3) := by decide +kernel
theorem dX2_readStatement_74 : decode cX2_readStatement 74 = .ok (.iconst 1, 1) := by decide +kernel
theorem dX2_readStatement_75 : decode cX2_readStatement 75 = .ok (.goto 4, 3) := by decide +kernel
theorem dX2_readStatement_78 : decode cX2_readStatement 78 = .ok (.iconst 0, 1) := by decide +kernel
theorem dX2_readStatement_79 : decode cX2_readStatement 79 = .ok (.ireturn, 1) := by decide +kernel
theorem dX2_readStatement_80 : decode cX2_readStatement 80 = .ok (.iload 4, 2) := by decide +kernel
theorem dX2_readStatement_82 : decode cX2_readStatement 82 = .ok (.bipush 111, 2) := by decide +kernel
theorem dX2_readStatement_84 : decode cX2_readStatement 84 = .ok (.if_icmp .eq 10, 3) := by decide +kernel
theorem dX2_readStatement_87 : decode cX2_readStatement 87 = .ok (.iload 4, 2) := by decide +kernel
theorem dX2_readStatement_89 : decode cX2_readStatement 89 = .ok (.bipush 116, 2) := by decide +kernel
theorem dX2_readStatement_91 : decode cX2_readStatement 91 = .ok (.if_icmp .ne 24, 3) := by decide +kernel
theorem dX2_readStatement_94 : decode cX2_readStatement 94 = .ok (.iload 5, 2) := by decide +kernel
theorem dX2_readStatement_96 : decode cX2_readStatement 96 = .ok (.iconst 1, 1) := by decide +kernel
theorem dX2_readStatement_97 : decode cX2_readStatement 97 = .ok (.if_icmp .ne 16, 3) := by decide +kernel
theorem dX2_readStatement_100 : decode cX2_readStatement 100 = .ok (.aload_n 0, 1) := by decide +kernel
theorem dX2_readStatement_101 : decode cX2_readStatement 101 = .ok (.iload_n 1, 1) := by decide +kernel
theorem dX2_readStatement_102 : decode cX2_readStatement 102 = .ok (.aload_n 3, 1) := by decide +kernel
theorem dX2_readStatement_103 : decode cX2_readStatement 103 = .ok (.invokevirtual 36, 3) := by decide +kernel
theorem dX2_readStatement_106 : decode cX2_readStatement 106 = .ok (.ifCond .eq 7, 3) := by decide +kernel
theorem dX2_readStatement_109 : decode cX2_readStatement 109 = .ok (.iconst 1, 1) := by decide +kernel
theorem dX2_readStatement_110 : decode cX2_readStatement 110 = .ok (.goto 4, 3) := by decide +kernel
theorem dX2_readStatement_113 : decode cX2_readStatement 113 = .ok (.iconst 0, 1) := by decide +kernel
theorem dX2_readStatement_114 : decode cX2_readStatement 114 = .ok (.ireturn, 1) := by decide +kernel
theorem dX2_readStatement_115 : decode cX2_readStatement 115 = .ok (.iload 4, 2) := by decide +kernel
theorem dX2_readStatement_117 : decode cX2_readStatement 117 = .ok (.bipush 114, 2) := by decide +kernel
theorem dX2_readStatement_119 : decode cX2_readStatement 119 = .ok (.if_icmp .ne 30, 3) := by decide +kernel
theorem dX2_readStatement_122 : decode cX2_readStatement 122 = .ok (.iload 5, 2) := by decide +kernel
theorem dX2_readStatement_124 : decode cX2_readStatement 124 = .ok (.iconst 3, 1) := by decide +kernel
theorem dX2_readStatement_125 : decode cX2_readStatement 125 = .ok (.if_icmp .lt 24, 3) := by decide +kernel
theorem dX2_readStatement_128 : decode cX2_readStatement 128 = .ok (.iload 5, 2) := by decide +kernel
theorem dX2_readStatement_130 : decode cX2_readStatement 130 = .ok (.iconst 5, 1) := by decide +kernel
theorem dX2_readStatement_131 : decode cX2_readStatement 131 = .ok (.if_icmp .gt 18, 3) := by decide +kernel
theorem dX2_readStatement_134 : decode cX2_readStatement 134 = .ok (.aload_n 0, 1) := by decide +kernel
theorem dX2_readStatement_135 : decode cX2_readStatement 135 = .ok (.iload_n 1, 1) := by decide +kernel
theorem dX2_readStatement_136 : decode cX2_readStatement 136 = .ok (.iload 5, 2) := by decide +kernel
theorem dX2_readStatement_138 : decode cX2_readStatement 138 = .ok (.aload_n 3, 1) := by decide +kernel
theorem dX2_readStatement_139 : decode cX2_readStatement 139 = .ok (.invokevirtual 39, 3) := by decide +kernel
theorem dX2_readStatement_142 : decode cX2_readStatement 142 = .ok (.ifCond .eq 7, 3) := by decide +kernel
theorem dX2_readStatement_145 : decode cX2_readStatement 145 = .ok (.iconst 1, 1) := by decide +kernel
theorem dX2_readStatement_146 : decode cX2_readStatement 146 = .ok (.goto 4, 3) := by decide +kernel
theorem dX2_readStatement_149 : decode cX2_readStatement 149 = .ok (.iconst 0, 1) := by decide +kernel
theorem dX2_readStatement_150 : decode cX2_readStatement 150 = .ok (.ireturn, 1) := by decide +kernel
theorem dX2_isKindWithNumbers_0 : decode cX2_isKindWithNumbers 0 = .ok (.iload_n 2, 1) := by decide +kernel
theorem dX2_isKindWithNumbers_1 : decode cX2_isKindWithNumbers 1 = .ok (.iload_n 1, 1) := by decide +kernel
theorem dX2_isKindWithNumbers_2 : decode cX2_isKindWithNumbers 2 = .ok (.isub, 1) := by decide +kernel
theorem dX2_isKindWithNumbers_3 : decode cX2_isKindWithNumbers 3 = .ok (.istore_n 3, 1) := by decide +kernel
theorem dX2_isKindWithNumbers_4 : decode cX2_isKindWithNumbers 4 = .ok (.iload_n 3, 1) := by decide +kernel
theorem dX2_isKindWithNumbers_5 : decode cX2_isKindWithNumbers 5 = .ok (.iconst 2, 1) := by decide +kernel
theorem dX2_isKindWithNumbers_6 : decode cX2_isKindWithNumbers 6 = .ok (.if_icmp .lt 9, 3) := by decide +kernel
theorem dX2_isKindWithNumbers_9 : decode cX2_isKindWithNumbers 9 = .ok (.iload_n 3, 1) := by decide +kernel
theorem dX2_isKindWithNumbers_10 : decode cX2_isKindWithNumbers 10 = .ok (.iconst 2, 1) := by decide +kernel
theorem dX2_isKindWithNumbers_11 : decode cX2_isKindWithNumbers 11 = .ok (.irem, 1) := by decide +kernel
theorem dX2_isKindWithNumbers_12 : decode cX2_isKindWithNumbers 12 = .ok (.ifCond .eq 5, 3) := by decide +kernel
theorem dX2_isKindWithNumbers_15 : decode cX2_isKindWithNumbers 15 = .ok (.iconst 0, 1) := by decide +kernel
theorem dX2_isKindWithNumbers_16 : decode cX2_isKindWithNumbers 16 = .ok (.ireturn, 1) := by decide +kernel
theorem dX2_isKindWithNumbers_17 : decode cX2_isKindWithNumbers 17 = .ok (.iconst 1, 1) := by decide +kernel
theorem dX2_isKindWithNumbers_18 : decode cX2_isKindWithNumbers 18 = .ok (.istore 4, 2) := by decide +kernel
theorem dX2_isKindWithNumbers_20 : decode cX2_isKindWithNumbers 20 = .ok (.iload 4, 2) := by decide +kernel
theorem dX2_isKindWithNumbers_22 : decode cX2_isKindWithNumbers 22 = .ok (.iload_n 3, 1) := by decide +kernel
theorem dX2_isKindWithNumbers_23 : decode cX2_isKindWithNumbers 23 = .ok (.if_icmp .ge 71, 3) := by decide +kernel
theorem dX2_isKindWithNumbers_26 : decode cX2_isKindWithNumbers 26 = .ok (.aload_n 0, 1) := by decide +kernel
theorem dX2_isKindWithNumbers_27 : decode cX2_isKindWithNumbers 27 = .ok (.getfield 11, 3) := by decide +kernel
theorem dX2_isKindWithNumbers_30 : decode cX2_isKindWithNumbers 30 = .ok (.iload_n 1, 1) := by decide +kernel
theorem dX2_isKindWithNumbers_31 : decode cX2_isKindWithNumbers 31 = .ok (.iload 4, 2) := by decide +kernel
theorem dX2_isKindWithNumbers_33 : decode cX2_isKindWithNumbers 33 = .ok (.iadd, 1) := by decide +kernel
theorem dX2_isKindWithNumbers_34 : decode cX2_isKindWithNumbers 34 = .ok (.caload, 1) := by decide +kernel
theorem dX2_isKindWithNumbers_35 : decode cX2_isKindWithNumbers 35 = .ok (.istore 5, 2) := by decide +kernel
theorem dX2_isKindWithNumbers_37 : decode cX2_isKindWithNumbers 37 = .ok (.iload 4, 2) := by decide +kernel
theorem dX2_isKindWithNumbers_39 : decode cX2_isKindWithNumbers 39 = .ok (.iconst 2, 1) := by decide +kernel
theorem dX2_isKindWithNumbers_40 : decode cX2_isKindWithNumbers 40 = .ok (.irem, 1) := by decide +kernel
theorem dX2_isKindWithNumbers_41 : decode cX2_isKindWithNumbers 41 = .ok (.iconst 1, 1) := by decide +kernel
theorem dX2_isKindWithNumbers_42 : decode cX2_isKindWithNumbers 42 = .ok (.if_icmp .ne 25, 3) := by decide +kernel
theorem dX2_isKindWithNumbers_45 : decode cX2_isKindWithNumbers 45 = .ok (.iload 5, 2) := by decide +kernel
theorem dX2_isKindWithNumbers_47 : decode cX2_isKindWithNumbers 47 = .ok (.bipush 48, 2) := by decide +kernel
theorem dX2_isKindWithNumbers_49 : decode cX2_isKindWithNumbers 49 = .ok (.if_icmp .lt 14, 3) := by decide +kernel
theorem dX2_isKindWithNumbers_52 : decode cX2_isKindWithNumbers 52 = .ok (.iload 5, 2) := by decide +kernel
theorem dX2_isKindWithNumbers_54 : decode cX2_isKindWithNumbers 54 = .ok (.bipush 57, 2) := by decide +kernel
theorem dX2_isKindWithNumbers_56 : decode cX2_isKindWithNumbers 56 = .ok (.if_icmp .gt 7, 3) := by decide +kernel
theorem dX2_isKindWithNumbers_59 : decode cX2_isKindWithNumbers 59 = .ok (.iconst 1, 1) := by decide +kernel
theorem dX2_isKindWithNumbers_60 : decode cX2_isKindWithNumbers 60 = .ok (.goto 19, 3) := by decide +kernel
theorem dX2_isKindWithNumbers_63 : decode cX2_isKindWithNumbers 63 = .ok (.iconst 0, 1) := by decide +kernel
theorem dX2_isKindWithNumbers_64 : decode cX2_isKindWithNumbers 64 = .ok (.goto 15, 3) := by decide +kernel
theorem dX2_isKindWithNumbers_67 : decode cX2_isKindWithNumbers 67 = .ok (.iload 5, 2) := by decide +kernel
theorem dX2_isKindWithNumbers_69 : decode cX2_isKindWithNumbers 69 = .ok (.bipush 44, 2) := by decide +kernel
theorem dX2_isKindWithNumbers_71 : decode cX2_isKindWithNumbers 71 = .ok (.if_icmp .ne 7, 3) := by decide +kernel
theorem dX2_isKindWithNumbers_74 : decode cX2_isKindWithNumbers 74 = .ok (.iconst 1, 1) := by decide +kernel
theorem dX2_isKindWithNumbers_75 : decode cX2_isKindWithNumbers 75 = .ok (.goto 4, 3) := by decide +kernel
theorem dX2_isKindWithNumbers_78 : decode cX2_isKindWithNumbers 78 = .ok (.iconst 0, 1) := by decide +kernel
theorem dX2_isKindWithNumbers_79 : decode cX2_isKindWithNumbers 79 = .ok (.istore 6, 2) := by decide +kernel
theorem dX2_isKindWithNumbers_81 : decode cX2_isKindWithNumbers 81 = .ok (.iload 6, 2) := by decide +kernel
theorem dX2_isKindWithNumbers_83 : decode cX2_isKindWithNumbers 83 = .ok (.ifCond .ne 5, 3) := by decide +kernel
theorem dX2_isKindWithNumbers_86 : decode cX2_isKindWithNumbers 86 = .ok (.iconst 0, 1) := by decide +kernel
theorem dX2_isKindWithNumbers_87 : decode cX2_isKindWithNumbers 87 = .ok (.ireturn, 1) := by decide +kernel
theorem dX2_isKindWithNumbers_88 : decode cX2_isKindWithNumbers 88 = .ok (.iinc 4 1, 3) := by decide +kernel
theorem dX2_isKindWithNumbers_91 : decode cX2_isKindWithNumbers 91 = .ok (.goto (-71), 3) := by decide +kernel
theorem dX2_isKindWithNumbers_94 : decode cX2_isKindWithNumbers 94 = .ok (.iconst 1, 1) := by decide +kernel
theorem dX2_isKindWithNumbers_95 : decode cX2_isKindWithNumbers 95 = .ok (.ireturn, 1) := by decide +kernel
theorem dX2_number_0 : decode cX2_number 0 = .ok (.aload_n 0, 1) := by decide +kernel
theorem dX2_number_1 : decode cX2_number 1 = .ok (.getfield 11, 3) := by decide +kernel
theorem dX2_number_4 : decode cX2_number 4 = .ok (.iload_n 1, 1) := by decide +kernel
theorem dX2_number_5 : decode cX2_number 5 = .ok (.iconst 1, 1) := by decide +kernel
theorem dX2_number_6 : decode cX2_number 6 = .ok (.iadd, 1) := by decide +kernel
theorem dX2_number_7 : decode cX2_number 7 = .ok (.iconst 2, 1) := by decide +kernel
theorem dX2_number_8 : decode cX2_number 8 = .ok (.iload_n 2, 1) := by decide +kernel
theorem dX2_number_9 : decode cX2_number 9 = .ok (.imul, 1) := by decide +kernel
theorem dX2_number_10 : decode cX2_number 10 = .ok (.iadd, 1) := by decide +kernel
theorem dX2_number_11 : decode cX2_number 11 = .ok (.caload, 1) := by decide +kernel
theorem dX2_number_12 : decode cX2_number 12 = .ok (.bipush 48, 2) := by decide +kernel
theorem dX2_number_14 : decode cX2_number 14 = .ok (.isub, 1) := by decide +kernel
theorem dX2_number_15 : decode cX2_number 15 = .ok (.ireturn, 1) := by decide +kernel
set_option maxRecDepth 20000 in
theorem ggX2_readSizes_X2_number : GoodIn wsX2_readSizes wsX2_number := goodIn_r _ [7, 8, 18, 19] (by decide +kernel) (by decide +kernel)
set_option maxRecDepth 20000 in
theorem gX2_readSizes_X2_number : GoodIn wsX2_readSizes (wsV RX2 42 RX2 yX2_number wsX2_number) := goodIn_app (goodIn_of _ (by decide +kernel)) ggX2_readSizes_X2_number
theorem dX2_readSizes_0 : decode cX2_readSizes 0 = .ok (.aload_n 0, 1) := by decide +kernel
theorem dX2_readSizes_1 : decode cX2_readSizes 1 = .ok (.iload_n 1, 1) := by decide +kernel
theorem dX2_readSizes_2 : decode cX2_readSizes 2 = .ok (.iconst 0, 1) := by decide +kernel
theorem dX2_readSizes_3 : decode cX2_readSizes 3 = .ok (.invokevirtual 42, 3) := by decide +kernel
theorem dX2_readSizes_6 : decode cX2_readSizes 6 = .ok (.istore_n 3, 1) := by decide +kernel
theorem dX2_readSizes_7 : decode cX2_readSizes 7 = .ok (.aload_n 0, 1) := by decide +kernel
theorem dX2_readSizes_8 : decode cX2_readSizes 8 = .ok (.iload_n 1, 1) := by decide +kernel
theorem dX2_readSizes_9 : decode cX2_readSizes 9 = .ok (.iconst 1, 1) := by decide +kernel
theorem dX2_readSizes_10 : decode cX2_readSizes 10 = .ok (.invokevirtual 42, 3) := by decide +kernel
theorem dX2_readSizes_13 : decode cX2_readSizes 13 = .ok (.istore 4, 2) := by decide +kernel
theorem dX2_readSizes_15 : decode cX2_readSizes 15 = .ok (.iload_n 3, 1) := by decide +kernel
theorem dX2_readSizes_16 : decode cX2_readSizes 16 = .ok (.iconst 1, 1) := by decide +kernel
theorem dX2_readSizes_17 : decode cX2_readSizes 17 = .ok (.if_icmp .lt 20, 3) := by decide +kernel
theorem dX2_readSizes_20 : decode cX2_readSizes 20 = .ok (.iload_n 3, 1) := by decide +kernel
theorem dX2_readSizes_21 : decode cX2_readSizes 21 = .ok (.iconst 4, 1) := by decide +kernel
theorem dX2_readSizes_22 : decode cX2_readSizes 22 = .ok (.if_icmp .gt 15, 3) := by decide +kernel
theorem dX2_readSizes_25 : decode cX2_readSizes 25 = .ok (.iload 4, 2) := by decide +kernel
theorem dX2_readSizes_27 : decode cX2_readSizes 27 = .ok (.iconst 1, 1) := by decide +kernel
theorem dX2_readSizes_28 : decode cX2_readSizes 28 = .ok (.if_icmp .lt 9, 3) := by decide +kernel
theorem dX2_readSizes_31 : decode cX2_readSizes 31 = .ok (.iload 4, 2) := by decide +kernel
theorem dX2_readSizes_33 : decode cX2_readSizes 33 = .ok (.iconst 3, 1) := by decide +kernel
theorem dX2_readSizes_34 : decode cX2_readSizes 34 = .ok (.if_icmp .le 5, 3) := by decide +kernel
theorem dX2_readSizes_37 : decode cX2_readSizes 37 = .ok (.iconst 0, 1) := by decide +kernel
theorem dX2_readSizes_38 : decode cX2_readSizes 38 = .ok (.ireturn, 1) := by decide +kernel
theorem dX2_readSizes_39 : decode cX2_readSizes 39 = .ok (.aload_n 2, 1) := by decide +kernel
theorem dX2_readSizes_40 : decode cX2_readSizes 40 = .ok (.iload_n 3, 1) := by decide +kernel
theorem dX2_readSizes_41 : decode cX2_readSizes 41 = .ok (.putfield 46, 3) := by decide +kernel
theorem dX2_readSizes_44 : decode cX2_readSizes 44 = .ok (.aload_n 2, 1) := by decide +kernel
theorem dX2_readSizes_45 : decode cX2_readSizes 45 = .ok (.iload 4, 2) := by decide +kernel
theorem dX2_readSizes_47 : decode cX2_readSizes 47 = .ok (.putfield 49, 3) := by decide +kernel
theorem dX2_readSizes_50 : decode cX2_readSizes 50 = .ok (.iconst 1, 1) := by decide +kernel
theorem dX2_readSizes_51 : decode cX2_readSizes 51 = .ok (.ireturn, 1) := by decide +kernel
set_option maxRecDepth 20000 in
theorem ggX2_readMark_X2_number : GoodIn wsX2_readMark wsX2_number := goodIn_r _ [8, 1, 18, 19] (by decide +kernel) (by decide +kernel)
set_option maxRecDepth 20000 in
theorem gX2_readMark_X2_number : GoodIn wsX2_readMark (wsV RX2 42 RX2 yX2_number wsX2_number) := goodIn_app (goodIn_of _ (by decide +kernel)) ggX2_readMark_X2_number
set_option maxRecDepth 20000 in
theorem ggX2_readMark_X1_hasState : GoodIn wsX2_readMark wsX1_hasState := goodIn_r _ [13, 14, 20, 21, 22, 23, 24, 25, 26, 27, 28] (by decide +kernel) (by decide +kernel)
set_option maxRecDepth 20000 in
theorem gX2_readMark_X1_hasState : GoodIn wsX2_readMark (wsV RX2 52 RX1 yX1_hasState wsX1_hasState) := goodIn_app (goodIn_of _ (by decide +kernel)) ggX2_readMark_X1_hasState
set_option maxRecDepth 20000 in
theorem ggX2_readMark_X9_withBit : GoodIn wsX2_readMark wsX9_withBit := goodIn_r _ [17] (by decide +kernel) (by decide +kernel)
set_option maxRecDepth 20000 in
theorem gX2_readMark_X9_withBit_n59 : GoodIn wsX2_readMark (wsX9_withBit) := ggX2_readMark_X9_withBit
theorem dX2_readMark_0 : decode cX2_readMark 0 = .ok (.aload_n 0, 1) := by decide +kernel
theorem dX2_readMark_1 : decode cX2_readMark 1 = .ok (.iload_n 1, 1) := by decide +kernel
theorem dX2_readMark_2 : decode cX2_readMark 2 = .ok (.iconst 0, 1) := by decide +kernel
theorem dX2_readMark_3 : decode cX2_readMark 3 = .ok (.invokevirtual 42, 3) := by decide +kernel
theorem dX2_readMark_6 : decode cX2_readMark 6 = .ok (.istore_n 3, 1) := by decide +kernel
theorem dX2_readMark_7 : decode cX2_readMark 7 = .ok (.aload_n 2, 1) := by decide +kernel
theorem dX2_readMark_8 : decode cX2_readMark 8 = .ok (.iload_n 3, 1) := by decide +kernel
theorem dX2_readMark_9 : decode cX2_readMark 9 = .ok (.invokevirtual 52, 3) := by decide +kernel
theorem dX2_readMark_12 : decode cX2_readMark 12 = .ok (.ifCond .ne 5, 3) := by decide +kernel
theorem dX2_readMark_15 : decode cX2_readMark 15 = .ok (.iconst 0, 1) := by decide +kernel
theorem dX2_readMark_16 : decode cX2_readMark 16 = .ok (.ireturn, 1) := by decide +kernel
theorem dX2_readMark_17 : decode cX2_readMark 17 = .ok (.aload_n 0, 1) := by decide +kernel
theorem dX2_readMark_18 : decode cX2_readMark 18 = .ok (.getfield 11, 3) := by decide +kernel
theorem dX2_readMark_21 : decode cX2_readMark 21 = .ok (.iload_n 1, 1) := by decide +kernel
theorem dX2_readMark_22 : decode cX2_readMark 22 = .ok (.caload, 1) := by decide +kernel
theorem dX2_readMark_23 : decode cX2_readMark 23 = .ok (.bipush 111, 2) := by decide +kernel
theorem dX2_readMark_25 : decode cX2_readMark 25 = .ok (.if_icmp .ne 19, 3) := by decide +kernel
theorem dX2_readMark_28 : decode cX2_readMark 28 = .ok (.aload_n 2, 1) := by decide +kernel
theorem dX2_readMark_29 : decode cX2_readMark 29 = .ok (.aload_n 2, 1) := by decide +kernel
theorem dX2_readMark_30 : decode cX2_readMark 30 = .ok (.getfield 56, 3) := by decide +kernel
theorem dX2_readMark_33 : decode cX2_readMark 33 = .ok (.iload_n 3, 1) := by decide +kernel
theorem dX2_readMark_34 : decode cX2_readMark 34 = .ok (.iconst 1, 1) := by decide +kernel
theorem dX2_readMark_35 : decode cX2_readMark 35 = .ok (.invokestatic 59, 3) := by decide +kernel
theorem dX2_readMark_38 : decode cX2_readMark 38 = .ok (.putfield 56, 3) := by decide +kernel
theorem dX2_readMark_41 : decode cX2_readMark 41 = .ok (.goto 16, 3) := by decide +kernel
theorem dX2_readMark_44 : decode cX2_readMark 44 = .ok (.aload_n 2, 1) := by decide +kernel
theorem dX2_readMark_45 : decode cX2_readMark 45 = .ok (.aload_n 2, 1) := by decide +kernel
theorem dX2_readMark_46 : decode cX2_readMark 46 = .ok (.getfield 63, 3) := by decide +kernel
theorem dX2_readMark_49 : decode cX2_readMark 49 = .ok (.iload_n 3, 1) := by decide +kernel
theorem dX2_readMark_50 : decode cX2_readMark 50 = .ok (.iconst 1, 1) := by decide +kernel
theorem dX2_readMark_51 : decode cX2_readMark 51 = .ok (.invokestatic 59, 3) := by decide +kernel
theorem dX2_readMark_54 : decode cX2_readMark 54 = .ok (.putfield 63, 3) := by decide +kernel
theorem dX2_readMark_57 : decode cX2_readMark 57 = .ok (.iconst 1, 1) := by decide +kernel
theorem dX2_readMark_58 : decode cX2_readMark 58 = .ok (.ireturn, 1) := by decide +kernel
set_option maxRecDepth 20000 in
theorem ggX2_readRule_X2_number : GoodIn wsX2_readRule wsX2_number := goodIn_r _ [5, 6, 47, 48] (by decide +kernel) (by decide +kernel)
set_option maxRecDepth 20000 in
theorem gX2_readRule_X2_number : GoodIn wsX2_readRule (wsV RX2 42 RX2 yX2_number wsX2_number) := goodIn_app (goodIn_of _ (by decide +kernel)) ggX2_readRule_X2_number
set_option maxRecDepth 20000 in
theorem ggX2_readRule_X1_ruleError : GoodIn wsX2_readRule wsX1_ruleError := goodIn_r _ [11, 12, 13, 14, 15, 10, 16, 17, 18, 19, 20, 21, 22, 23, 24, 25, 26, 27, 28, 29, 30, 31, 32, 33, 34, 35, 36, 37, 38, 39, 49, 50, 51, 52, 53, 54, 55, 56, 57] (by decide +kernel) (by decide +kernel)
set_option maxRecDepth 20000 in
theorem gX2_readRule_X1_ruleError : GoodIn wsX2_readRule (wsV RX2 66 RX1 yX1_ruleError wsX1_ruleError) := goodIn_app (goodIn_of _ (by decide +kernel)) ggX2_readRule_X1_ruleError
set_option maxRecDepth 20000 in
theorem ggX2_readRule_X5_of : GoodIn wsX2_readRule wsX5_of := goodIn_r _ [42] (by decide +kernel) (by decide +kernel)
set_option maxRecDepth 20000 in
theorem gX2_readRule_X5_of : GoodIn wsX2_readRule (va_wsS RX2 70 yX5_of wsX5_of) := goodIn_app (goodIn_of _ (by decide +kernel)) ggX2_readRule_X5_of
set_option maxRecDepth 20000 in
theorem ggX2_readRule_X1_takeRule : GoodIn wsX2_readRule wsX1_takeRule := goodIn_r _ [46, 12, 35, 49, 50, 51, 52, 53, 54, 55, 56, 57] (by decide +kernel) (by decide +kernel)
set_option maxRecDepth 20000 in
theorem gX2_readRule_X1_takeRule : GoodIn wsX2_readRule (wsV RX2 75 RX1 yX1_takeRule wsX1_takeRule) := goodIn_app (goodIn_of _ (by decide +kernel)) ggX2_readRule_X1_takeRule
theorem dX2_readRule_0 : decode cX2_readRule 0 = .ok (.aload_n 0, 1) := by decide +kernel
theorem dX2_readRule_1 : decode cX2_readRule 1 = .ok (.iload_n 1, 1) := by decide +kernel
theorem dX2_readRule_2 : decode cX2_readRule 2 = .ok (.iconst 0, 1) := by decide +kernel
theorem dX2_readRule_3 : decode cX2_readRule 3 = .ok (.invokevirtual 42, 3) := by decide +kernel
theorem dX2_readRule_6 : decode cX2_readRule 6 = .ok (.istore 4, 2) := by decide +kernel
theorem dX2_readRule_8 : decode cX2_readRule 8 = .ok (.aload_n 0, 1) := by decide +kernel
theorem dX2_readRule_9 : decode cX2_readRule 9 = .ok (.iload_n 1, 1) := by decide +kernel
theorem dX2_readRule_10 : decode cX2_readRule 10 = .ok (.iconst 1, 1) := by decide +kernel
theorem dX2_readRule_11 : decode cX2_readRule 11 = .ok (.invokevirtual 42, 3) := by decide +kernel
theorem dX2_readRule_14 : decode cX2_readRule 14 = .ok (.istore 5, 2) := by decide +kernel
theorem dX2_readRule_16 : decode cX2_readRule 16 = .ok (.aload_n 0, 1) := by decide +kernel
theorem dX2_readRule_17 : decode cX2_readRule 17 = .ok (.iload_n 1, 1) := by decide +kernel
theorem dX2_readRule_18 : decode cX2_readRule 18 = .ok (.iconst 2, 1) := by decide +kernel
theorem dX2_readRule_19 : decode cX2_readRule 19 = .ok (.invokevirtual 42, 3) := by decide +kernel
theorem dX2_readRule_22 : decode cX2_readRule 22 = .ok (.istore 6, 2) := by decide +kernel
theorem dX2_readRule_24 : decode cX2_readRule 24 = .ok (.iload_n 2, 1) := by decide +kernel
theorem dX2_readRule_25 : decode cX2_readRule 25 = .ok (.iconst 3, 1) := by decide +kernel
theorem dX2_readRule_26 : decode cX2_readRule 26 = .ok (.if_icmp .le 12, 3) := by decide +kernel
theorem dX2_readRule_29 : decode cX2_readRule 29 = .ok (.aload_n 0, 1) := by decide +kernel
theorem dX2_readRule_30 : decode cX2_readRule 30 = .ok (.iload_n 1, 1) := by decide +kernel
theorem dX2_readRule_31 : decode cX2_readRule 31 = .ok (.iconst 3, 1) := by decide +kernel
theorem dX2_readRule_32 : decode cX2_readRule 32 = .ok (.invokevirtual 42, 3) := by decide +kernel
theorem dX2_readRule_35 : decode cX2_readRule 35 = .ok (.goto 4, 3) := by decide +kernel
theorem dX2_readRule_38 : decode cX2_readRule 38 = .ok (.iconst (-1), 1) := by decide +kernel
theorem dX2_readRule_39 : decode cX2_readRule 39 = .ok (.istore 7, 2) := by decide +kernel
theorem dX2_readRule_41 : decode cX2_readRule 41 = .ok (.iload_n 2, 1) := by decide +kernel
theorem dX2_readRule_42 : decode cX2_readRule 42 = .ok (.iconst 4, 1) := by decide +kernel
theorem dX2_readRule_43 : decode cX2_readRule 43 = .ok (.if_icmp .le 12, 3) := by decide +kernel
theorem dX2_readRule_46 : decode cX2_readRule 46 = .ok (.aload_n 0, 1) := by decide +kernel
theorem dX2_readRule_47 : decode cX2_readRule 47 = .ok (.iload_n 1, 1) := by decide +kernel
theorem dX2_readRule_48 : decode cX2_readRule 48 = .ok (.iconst 4, 1) := by decide +kernel
theorem dX2_readRule_49 : decode cX2_readRule 49 = .ok (.invokevirtual 42, 3) := by decide +kernel
theorem dX2_readRule_52 : decode cX2_readRule 52 = .ok (.goto 4, 3) := by decide +kernel
theorem dX2_readRule_55 : decode cX2_readRule 55 = .ok (.iconst (-1), 1) := by decide +kernel
theorem dX2_readRule_56 : decode cX2_readRule 56 = .ok (.istore 8, 2) := by decide +kernel
theorem dX2_readRule_58 : decode cX2_readRule 58 = .ok (.aload_n 3, 1) := by decide +kernel
theorem dX2_readRule_59 : decode cX2_readRule 59 = .ok (.iload 4, 2) := by decide +kernel
theorem dX2_readRule_61 : decode cX2_readRule 61 = .ok (.iload 5, 2) := by decide +kernel
theorem dX2_readRule_63 : decode cX2_readRule 63 = .ok (.iload 6, 2) := by decide +kernel
theorem dX2_readRule_65 : decode cX2_readRule 65 = .ok (.iload 7, 2) := by decide +kernel
theorem dX2_readRule_67 : decode cX2_readRule 67 = .ok (.iload 8, 2) := by decide +kernel
theorem dX2_readRule_69 : decode cX2_readRule 69 = .ok (.invokevirtual 66, 3) := by decide +kernel
theorem dX2_readRule_72 : decode cX2_readRule 72 = .ok (.ifCond .eq 5, 3) := by decide +kernel
theorem dX2_readRule_75 : decode cX2_readRule 75 = .ok (.iconst 0, 1) := by decide +kernel
theorem dX2_readRule_76 : decode cX2_readRule 76 = .ok (.ireturn, 1) := by decide +kernel
theorem dX2_readRule_77 : decode cX2_readRule 77 = .ok (.aload_n 3, 1) := by decide +kernel
theorem dX2_readRule_78 : decode cX2_readRule 78 = .ok (.iload 4, 2) := by decide +kernel
theorem dX2_readRule_80 : decode cX2_readRule 80 = .ok (.iload 5, 2) := by decide +kernel
theorem dX2_readRule_82 : decode cX2_readRule 82 = .ok (.iload 6, 2) := by decide +kernel
theorem dX2_readRule_84 : decode cX2_readRule 84 = .ok (.iload 7, 2) := by decide +kernel
theorem dX2_readRule_86 : decode cX2_readRule 86 = .ok (.iload 8, 2) := by decide +kernel
theorem dX2_readRule_88 : decode cX2_readRule 88 = .ok (.invokestatic 70, 3) := by decide +kernel
theorem dX2_readRule_91 : decode cX2_readRule 91 = .ok (.invokevirtual 75, 3) := by decide +kernel
theorem dX2_readRule_94 : decode cX2_readRule 94 = .ok (.iconst 1, 1) := by decide +kernel
theorem dX2_readRule_95 : decode cX2_readRule 95 = .ok (.ireturn, 1) := by decide +kernel
set_option maxRecDepth 20000 in
theorem ggX3_init_X1_init : GoodIn wsX3_init wsX1_init := goodIn_r _ [9, 10, 2, 3, 11, 12, 16, 17, 18, 19, 20, 21, 22, 23, 24] (by decide +kernel) (by decide +kernel)
set_option maxRecDepth 20000 in
theorem gX3_init_X1_init_n15 : GoodIn wsX3_init (wsX1_init) := ggX3_init_X1_init
theorem dX3_init_0 : decode cX3_init 0 = .ok (.aload_n 0, 1) := by decide +kernel
theorem dX3_init_1 : decode cX3_init 1 = .ok (.invokespecial 1, 3) := by decide +kernel
theorem dX3_init_4 : decode cX3_init 4 = .ok (.aload_n 0, 1) := by decide +kernel
theorem dX3_init_5 : decode cX3_init 5 = .ok (.bipush 6, 2) := by decide +kernel
theorem dX3_init_7 : decode cX3_init 7 = .ok (.anewarray 9, 3) := by decide +kernel
theorem dX3_init_10 : decode cX3_init 10 = .ok (.putfield 11, 3) := by decide +kernel
theorem dX3_init_13 : decode cX3_init 13 = .ok (.iconst 0, 1) := by decide +kernel
theorem dX3_init_14 : decode cX3_init 14 = .ok (.istore_n 1, 1) := by decide +kernel
theorem dX3_init_15 : decode cX3_init 15 = .ok (.iload_n 1, 1) := by decide +kernel
theorem dX3_init_16 : decode cX3_init 16 = .ok (.bipush 6, 2) := by decide +kernel
theorem dX3_init_18 : decode cX3_init 18 = .ok (.if_icmp .ge 22, 3) := by decide +kernel
theorem dX3_init_21 : decode cX3_init 21 = .ok (.aload_n 0, 1) := by decide +kernel
theorem dX3_init_22 : decode cX3_init 22 = .ok (.getfield 11, 3) := by decide +kernel
theorem dX3_init_25 : decode cX3_init 25 = .ok (.iload_n 1, 1) := by decide +kernel
theorem dX3_init_26 : decode cX3_init 26 = .ok (.new 9, 3) := by decide +kernel
theorem dX3_init_29 : decode cX3_init 29 = .ok (.dup, 1) := by decide +kernel
theorem dX3_init_30 : decode cX3_init 30 = .ok (.invokespecial 15, 3) := by decide +kernel
theorem dX3_init_33 : decode cX3_init 33 = .ok (.aastore, 1) := by decide +kernel
theorem dX3_init_34 : decode cX3_init 34 = .ok (.iinc 1 1, 3) := by decide +kernel
theorem dX3_init_37 : decode cX3_init 37 = .ok (.goto (-22), 3) := by decide +kernel
theorem dX3_init_40 : decode cX3_init 40 = .ok (.return_, 1) := by decide +kernel
set_option maxRecDepth 20000 in
theorem ggX3_keep_X1_copyFrom : GoodIn wsX3_keep wsX1_copyFrom := goodIn_r _ [12, 13, 14, 15, 16, 17, 18, 19, 20, 21, 22, 23, 24, 25, 26, 27, 28, 11, 29, 33, 34, 35, 36, 37, 38, 39, 40, 41] (by decide +kernel) (by decide +kernel)
set_option maxRecDepth 20000 in
theorem gX3_keep_X1_copyFrom : GoodIn wsX3_keep (wsV RX3 20 RX1 yX1_copyFrom wsX1_copyFrom) := goodIn_app (goodIn_of _ (by decide +kernel)) ggX3_keep_X1_copyFrom
theorem dX3_keep_0 : decode cX3_keep 0 = .ok (.aload_n 0, 1) := by decide +kernel
theorem dX3_keep_1 : decode cX3_keep 1 = .ok (.aload_n 0, 1) := by decide +kernel
theorem dX3_keep_2 : decode cX3_keep 2 = .ok (.getfield 16, 3) := by decide +kernel
theorem dX3_keep_5 : decode cX3_keep 5 = .ok (.iconst 1, 1) := by decide +kernel
theorem dX3_keep_6 : decode cX3_keep 6 = .ok (.iadd, 1) := by decide +kernel
theorem dX3_keep_7 : decode cX3_keep 7 = .ok (.bipush 6, 2) := by decide +kernel
theorem dX3_keep_9 : decode cX3_keep 9 = .ok (.irem, 1) := by decide +kernel
theorem dX3_keep_10 : decode cX3_keep 10 = .ok (.putfield 16, 3) := by decide +kernel
theorem dX3_keep_13 : decode cX3_keep 13 = .ok (.aload_n 0, 1) := by decide +kernel
theorem dX3_keep_14 : decode cX3_keep 14 = .ok (.getfield 11, 3) := by decide +kernel
theorem dX3_keep_17 : decode cX3_keep 17 = .ok (.aload_n 0, 1) := by decide +kernel
theorem dX3_keep_18 : decode cX3_keep 18 = .ok (.getfield 16, 3) := by decide +kernel
theorem dX3_keep_21 : decode cX3_keep 21 = .ok (.aaload, 1) := by decide +kernel
theorem dX3_keep_22 : decode cX3_keep 22 = .ok (.aload_n 1, 1) := by decide +kernel
theorem dX3_keep_23 : decode cX3_keep 23 = .ok (.invokevirtual 20, 3) := by decide +kernel
theorem dX3_keep_26 : decode cX3_keep 26 = .ok (.aload_n 0, 1) := by decide +kernel
theorem dX3_keep_27 : decode cX3_keep 27 = .ok (.aload_n 0, 1) := by decide +kernel
theorem dX3_keep_28 : decode cX3_keep 28 = .ok (.getfield 24, 3) := by decide +kernel
theorem dX3_keep_31 : decode cX3_keep 31 = .ok (.iconst 1, 1) := by decide +kernel
theorem dX3_keep_32 : decode cX3_keep 32 = .ok (.iadd, 1) := by decide +kernel
theorem dX3_keep_33 : decode cX3_keep 33 = .ok (.bipush 6, 2) := by decide +kernel
theorem dX3_keep_35 : decode cX3_keep 35 = .ok (.invokestatic 27, 3) := by decide +kernel
theorem dX3_keep_38 : decode cX3_keep 38 = .ok (.putfield 24, 3) := by decide +kernel
theorem dX3_keep_41 : decode cX3_keep 41 = .ok (.return_, 1) := by decide +kernel
set_option maxRecDepth 20000 in
theorem ggX3_restore_X1_copyFrom : GoodIn wsX3_restore wsX1_copyFrom := goodIn_r _ [8, 9, 10, 11, 12, 13, 14, 15, 16, 17, 18, 19, 20, 21, 22, 23, 24, 7, 25, 29, 30, 31, 32, 33, 34, 35, 36, 37] (by decide +kernel) (by decide +kernel)
set_option maxRecDepth 20000 in
theorem gX3_restore_X1_copyFrom : GoodIn wsX3_restore (wsV RX3 20 RX1 yX1_copyFrom wsX1_copyFrom) := goodIn_app (goodIn_of _ (by decide +kernel)) ggX3_restore_X1_copyFrom
theorem dX3_restore_0 : decode cX3_restore 0 = .ok (.aload_n 1, 1) := by decide +kernel
theorem dX3_restore_1 : decode cX3_restore 1 = .ok (.aload_n 0, 1) := by decide +kernel
theorem dX3_restore_2 : decode cX3_restore 2 = .ok (.getfield 11, 3) := by decide +kernel
theorem dX3_restore_5 : decode cX3_restore 5 = .ok (.aload_n 0, 1) := by decide +kernel
theorem dX3_restore_6 : decode cX3_restore 6 = .ok (.getfield 16, 3) := by decide +kernel
theorem dX3_restore_9 : decode cX3_restore 9 = .ok (.aaload, 1) := by decide +kernel
theorem dX3_restore_10 : decode cX3_restore 10 = .ok (.invokevirtual 20, 3) := by decide +kernel
theorem dX3_restore_13 : decode cX3_restore 13 = .ok (.aload_n 0, 1) := by decide +kernel
theorem dX3_restore_14 : decode cX3_restore 14 = .ok (.aload_n 0, 1) := by decide +kernel
theorem dX3_restore_15 : decode cX3_restore 15 = .ok (.getfield 16, 3) := by decide +kernel
theorem dX3_restore_18 : decode cX3_restore 18 = .ok (.bipush 6, 2) := by decide +kernel
theorem dX3_restore_20 : decode cX3_restore 20 = .ok (.iadd, 1) := by decide +kernel
theorem dX3_restore_21 : decode cX3_restore 21 = .ok (.iconst 1, 1) := by decide +kernel
theorem dX3_restore_22 : decode cX3_restore 22 = .ok (.isub, 1) := by decide +kernel
theorem dX3_restore_23 : decode cX3_restore 23 = .ok (.bipush 6, 2) := by decide +kernel
theorem dX3_restore_25 : decode cX3_restore 25 = .ok (.irem, 1) := by decide +kernel
theorem dX3_restore_26 : decode cX3_restore 26 = .ok (.putfield 16, 3) := by decide +kernel
theorem dX3_restore_29 : decode cX3_restore 29 = .ok (.aload_n 0, 1) := by decide +kernel
theorem dX3_restore_30 : decode cX3_restore 30 = .ok (.dup, 1) := by decide +kernel
theorem dX3_restore_31 : decode cX3_restore 31 = .ok (.getfield 24, 3) := by decide +kernel
theorem dX3_restore_34 : decode cX3_restore 34 = .ok (.iconst 1, 1) := by decide +kernel
theorem dX3_restore_35 : decode cX3_restore 35 = .ok (.isub, 1) := by decide +kernel
theorem dX3_restore_36 : decode cX3_restore 36 = .ok (.putfield 24, 3) := by decide +kernel
theorem dX3_restore_39 : decode cX3_restore 39 = .ok (.return_, 1) := by decide +kernel
theorem dX3_forget_0 : decode cX3_forget 0 = .ok (.aload_n 0, 1) := by decide +kernel
theorem dX3_forget_1 : decode cX3_forget 1 = .ok (.iconst 0, 1) := by decide +kernel
theorem dX3_forget_2 : decode cX3_forget 2 = .ok (.putfield 24, 3) := by decide +kernel
theorem dX3_forget_5 : decode cX3_forget 5 = .ok (.return_, 1) := by decide +kernel
theorem dX4_of_0 : decode cX4_of 0 = .ok (.iload_n 0, 1) := by decide +kernel
theorem dX4_of_1 : decode cX4_of 1 = .ok (.iconst 3, 1) := by decide +kernel
theorem dX4_of_2 : decode cX4_of 2 = .ok (.iand, 1) := by decide +kernel
theorem dX4_of_3 : decode cX4_of 3 = .ok (.iload_n 1, 1) := by decide +kernel
theorem dX4_of_4 : decode cX4_of 4 = .ok (.iconst 3, 1) := by decide +kernel
theorem dX4_of_5 : decode cX4_of 5 = .ok (.iand, 1) := by decide +kernel
theorem dX4_of_6 : decode cX4_of 6 = .ok (.iconst 2, 1) := by decide +kernel
theorem dX4_of_7 : decode cX4_of 7 = .ok (.ishl, 1) := by decide +kernel
theorem dX4_of_8 : decode cX4_of 8 = .ok (.ior, 1) := by decide +kernel
theorem dX4_of_9 : decode cX4_of 9 = .ok (.ireturn, 1) := by decide +kernel
theorem dX5_of_0 : decode cX5_of 0 = .ok (.iload_n 0, 1) := by decide +kernel
theorem dX5_of_1 : decode cX5_of 1 = .ok (.iload_n 1, 1) := by decide +kernel
theorem dX5_of_2 : decode cX5_of 2 = .ok (.iconst 2, 1) := by decide +kernel
theorem dX5_of_3 : decode cX5_of 3 = .ok (.ishl, 1) := by decide +kernel
theorem dX5_of_4 : decode cX5_of 4 = .ok (.ior, 1) := by decide +kernel
theorem dX5_of_5 : decode cX5_of 5 = .ok (.iload_n 2, 1) := by decide +kernel
theorem dX5_of_6 : decode cX5_of 6 = .ok (.iconst 4, 1) := by decide +kernel
theorem dX5_of_7 : decode cX5_of 7 = .ok (.ishl, 1) := by decide +kernel
theorem dX5_of_8 : decode cX5_of 8 = .ok (.ior, 1) := by decide +kernel
theorem dX5_of_9 : decode cX5_of 9 = .ok (.iload_n 3, 1) := by decide +kernel
theorem dX5_of_10 : decode cX5_of 10 = .ok (.iconst 1, 1) := by decide +kernel
theorem dX5_of_11 : decode cX5_of 11 = .ok (.iadd, 1) := by decide +kernel
theorem dX5_of_12 : decode cX5_of 12 = .ok (.bipush 6, 2) := by decide +kernel
theorem dX5_of_14 : decode cX5_of 14 = .ok (.ishl, 1) := by decide +kernel
theorem dX5_of_15 : decode cX5_of 15 = .ok (.ior, 1) := by decide +kernel
theorem dX5_of_16 : decode cX5_of 16 = .ok (.iload 4, 2) := by decide +kernel
theorem dX5_of_18 : decode cX5_of 18 = .ok (.iconst 1, 1) := by decide +kernel
theorem dX5_of_19 : decode cX5_of 19 = .ok (.iadd, 1) := by decide +kernel
theorem dX5_of_20 : decode cX5_of 20 = .ok (.bipush 8, 2) := by decide +kernel
theorem dX5_of_22 : decode cX5_of 22 = .ok (.ishl, 1) := by decide +kernel
theorem dX5_of_23 : decode cX5_of 23 = .ok (.ior, 1) := by decide +kernel
theorem dX5_of_24 : decode cX5_of 24 = .ok (.ireturn, 1) := by decide +kernel
theorem dX5_state_0 : decode cX5_state 0 = .ok (.iload_n 0, 1) := by decide +kernel
theorem dX5_state_1 : decode cX5_state 1 = .ok (.iconst 3, 1) := by decide +kernel
theorem dX5_state_2 : decode cX5_state 2 = .ok (.iand, 1) := by decide +kernel
theorem dX5_state_3 : decode cX5_state 3 = .ok (.ireturn, 1) := by decide +kernel
theorem dX5_top_0 : decode cX5_top 0 = .ok (.iload_n 0, 1) := by decide +kernel
theorem dX5_top_1 : decode cX5_top 1 = .ok (.iconst 2, 1) := by decide +kernel
theorem dX5_top_2 : decode cX5_top 2 = .ok (.ishr, 1) := by decide +kernel
theorem dX5_top_3 : decode cX5_top 3 = .ok (.iconst 3, 1) := by decide +kernel
theorem dX5_top_4 : decode cX5_top 4 = .ok (.iand, 1) := by decide +kernel
theorem dX5_top_5 : decode cX5_top 5 = .ok (.ireturn, 1) := by decide +kernel
theorem dX5_next_0 : decode cX5_next 0 = .ok (.iload_n 0, 1) := by decide +kernel
theorem dX5_next_1 : decode cX5_next 1 = .ok (.iconst 4, 1) := by decide +kernel
theorem dX5_next_2 : decode cX5_next 2 = .ok (.ishr, 1) := by decide +kernel
theorem dX5_next_3 : decode cX5_next 3 = .ok (.iconst 3, 1) := by decide +kernel
theorem dX5_next_4 : decode cX5_next 4 = .ok (.iand, 1) := by decide +kernel
theorem dX5_next_5 : decode cX5_next 5 = .ok (.ireturn, 1) := by decide +kernel
theorem dX5_upper_0 : decode cX5_upper 0 = .ok (.iload_n 0, 1) := by decide +kernel
theorem dX5_upper_1 : decode cX5_upper 1 = .ok (.bipush 6, 2) := by decide +kernel
theorem dX5_upper_3 : decode cX5_upper 3 = .ok (.ishr, 1) := by decide +kernel
theorem dX5_upper_4 : decode cX5_upper 4 = .ok (.iconst 3, 1) := by decide +kernel
theorem dX5_upper_5 : decode cX5_upper 5 = .ok (.iand, 1) := by decide +kernel
theorem dX5_upper_6 : decode cX5_upper 6 = .ok (.iconst 1, 1) := by decide +kernel
theorem dX5_upper_7 : decode cX5_upper 7 = .ok (.isub, 1) := by decide +kernel
theorem dX5_upper_8 : decode cX5_upper 8 = .ok (.ireturn, 1) := by decide +kernel
theorem dX5_lower_0 : decode cX5_lower 0 = .ok (.iload_n 0, 1) := by decide +kernel
theorem dX5_lower_1 : decode cX5_lower 1 = .ok (.bipush 8, 2) := by decide +kernel
theorem dX5_lower_3 : decode cX5_lower 3 = .ok (.ishr, 1) := by decide +kernel
theorem dX5_lower_4 : decode cX5_lower 4 = .ok (.iconst 3, 1) := by decide +kernel
theorem dX5_lower_5 : decode cX5_lower 5 = .ok (.iand, 1) := by decide +kernel
theorem dX5_lower_6 : decode cX5_lower 6 = .ok (.iconst 1, 1) := by decide +kernel
theorem dX5_lower_7 : decode cX5_lower 7 = .ok (.isub, 1) := by decide +kernel
theorem dX5_lower_8 : decode cX5_lower 8 = .ok (.ireturn, 1) := by decide +kernel
theorem dX5_fitsPair_0 : decode cX5_fitsPair 0 = .ok (.iload_n 0, 1) := by decide +kernel
theorem dX5_fitsPair_1 : decode cX5_fitsPair 1 = .ok (.bipush 15, 2) := by decide +kernel
theorem dX5_fitsPair_3 : decode cX5_fitsPair 3 = .ok (.iand, 1) := by decide +kernel
theorem dX5_fitsPair_4 : decode cX5_fitsPair 4 = .ok (.iload_n 1, 1) := by decide +kernel
theorem dX5_fitsPair_5 : decode cX5_fitsPair 5 = .ok (.if_icmp .ne 7, 3) := by decide +kernel
theorem dX5_fitsPair_8 : decode cX5_fitsPair 8 = .ok (.iconst 1, 1) := by decide +kernel
theorem dX5_fitsPair_9 : decode cX5_fitsPair 9 = .ok (.goto 4, 3) := by decide +kernel
theorem dX5_fitsPair_12 : decode cX5_fitsPair 12 = .ok (.iconst 0, 1) := by decide +kernel
theorem dX5_fitsPair_13 : decode cX5_fitsPair 13 = .ok (.ireturn, 1) := by decide +kernel
set_option maxRecDepth 20000 in
theorem ggX6_movesFrom_X9_bit : GoodIn wsX6_movesFrom wsX9_bit := goodIn_r _ [4] (by decide +kernel) (by decide +kernel)
set_option maxRecDepth 20000 in
theorem gX6_movesFrom_X9_bit_n15 : GoodIn wsX6_movesFrom (wsX9_bit) := ggX6_movesFrom_X9_bit
set_option maxRecDepth 20000 in
theorem ggX6_movesFrom_X7_symbolAt : GoodIn wsX6_movesFrom wsX7_symbolAt := goodIn_r _ [8] (by decide +kernel) (by decide +kernel)
set_option maxRecDepth 20000 in
theorem gX6_movesFrom_X7_symbolAt : GoodIn wsX6_movesFrom (va_wsS RX6 19 yX7_symbolAt wsX7_symbolAt) := goodIn_app (goodIn_of _ (by decide +kernel)) ggX6_movesFrom_X7_symbolAt
set_option maxRecDepth 20000 in
theorem ggX6_movesFrom_X4_of : GoodIn wsX6_movesFrom wsX4_of := goodIn_r _ [12] (by decide +kernel) (by decide +kernel)
set_option maxRecDepth 20000 in
theorem gX6_movesFrom_X4_of : GoodIn wsX6_movesFrom (va_wsS RX6 25 yX4_of wsX4_of) := goodIn_app (goodIn_of _ (by decide +kernel)) ggX6_movesFrom_X4_of
set_option maxRecDepth 20000 in
theorem ggX6_movesFrom_X1_owner : GoodIn wsX6_movesFrom wsX1_owner := goodIn_r _ [17, 18, 2, 3, 4, 59, 60, 61, 62, 63, 64, 65, 66, 67] (by decide +kernel) (by decide +kernel)
set_option maxRecDepth 20000 in
theorem gX6_movesFrom_X1_owner : GoodIn wsX6_movesFrom (wsV RX6 30 RX1 yX1_owner wsX1_owner) := goodIn_app (goodIn_of _ (by decide +kernel)) ggX6_movesFrom_X1_owner
set_option maxRecDepth 20000 in
theorem ggX6_movesFrom_X6_latest : GoodIn wsX6_movesFrom wsX6_latest := goodIn_r _ [24, 25, 26, 27, 28, 29, 30, 31, 32, 33, 34, 35, 36, 21, 37, 38, 39, 40, 41, 42, 7, 43, 44, 45, 46, 47, 48, 49, 50, 51, 52, 53, 54, 55, 56, 57, 0, 1, 2, 3, 4, 5, 6, 8, 9, 10, 11, 12, 13, 14, 15, 16, 17, 18, 19, 20, 22, 23, 58, 59, 60, 61, 62, 63, 64, 65, 66, 67] (by decide +kernel) (by decide +kernel)
set_option maxRecDepth 20000 in
theorem gX6_movesFrom_X6_latest : GoodIn wsX6_movesFrom (va_wsS RX6 34 yX6_latest wsX6_latest) := goodIn_app (goodIn_of _ (by decide +kernel)) ggX6_movesFrom_X6_latest
set_option maxRecDepth 20000 in
theorem ggX6_movesFrom_X6_soonest : GoodIn wsX6_movesFrom wsX6_soonest := goodIn_r _ [58, 25, 26, 31, 32, 33, 34, 35, 36, 21, 24, 27, 28, 29, 30, 37, 38, 39, 40, 41, 42, 7, 43, 44, 45, 46, 47, 48, 49, 50, 51, 52, 53, 54, 55, 56, 57, 0, 1, 2, 3, 4, 5, 6, 8, 9, 10, 11, 12, 13, 14, 15, 16, 17, 18, 19, 20, 22, 23, 59, 60, 61, 62, 63, 64, 65, 66, 67] (by decide +kernel) (by decide +kernel)
set_option maxRecDepth 20000 in
theorem gX6_movesFrom_X6_soonest : GoodIn wsX6_movesFrom (va_wsS RX6 40 yX6_soonest wsX6_soonest) := goodIn_app (goodIn_of _ (by decide +kernel)) ggX6_movesFrom_X6_soonest

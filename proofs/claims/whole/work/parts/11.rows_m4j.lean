theorem dX10_isPlayableAt_0 : decode cX10_isPlayableAt 0 = .ok (.aload_n 0, 1) := by decide +kernel
theorem dX10_isPlayableAt_1 : decode cX10_isPlayableAt 1 = .ok (.getfield 38, 3) := by decide +kernel
theorem dX10_isPlayableAt_4 : decode cX10_isPlayableAt 4 = .ok (.iload_n 1, 1) := by decide +kernel
theorem dX10_isPlayableAt_5 : decode cX10_isPlayableAt 5 = .ok (.iaload, 1) := by decide +kernel
theorem dX10_isPlayableAt_6 : decode cX10_isPlayableAt 6 = .ok (.ifCond .le 49, 3) := by decide +kernel
theorem dX10_isPlayableAt_9 : decode cX10_isPlayableAt 9 = .ok (.aload_n 0, 1) := by decide +kernel
theorem dX10_isPlayableAt_10 : decode cX10_isPlayableAt 10 = .ok (.iload_n 2, 1) := by decide +kernel
theorem dX10_isPlayableAt_11 : decode cX10_isPlayableAt 11 = .ok (.iconst 0, 1) := by decide +kernel
theorem dX10_isPlayableAt_12 : decode cX10_isPlayableAt 12 = .ok (.invokevirtual 112, 3) := by decide +kernel
theorem dX10_isPlayableAt_15 : decode cX10_isPlayableAt 15 = .ok (.aload_n 0, 1) := by decide +kernel
theorem dX10_isPlayableAt_16 : decode cX10_isPlayableAt 16 = .ok (.getfield 35, 3) := by decide +kernel
theorem dX10_isPlayableAt_19 : decode cX10_isPlayableAt 19 = .ok (.iload_n 1, 1) := by decide +kernel
theorem dX10_isPlayableAt_20 : decode cX10_isPlayableAt 20 = .ok (.iaload, 1) := by decide +kernel
theorem dX10_isPlayableAt_21 : decode cX10_isPlayableAt 21 = .ok (.if_icmp .ne 34, 3) := by decide +kernel
theorem dX10_isPlayableAt_24 : decode cX10_isPlayableAt 24 = .ok (.aload_n 0, 1) := by decide +kernel
theorem dX10_isPlayableAt_25 : decode cX10_isPlayableAt 25 = .ok (.iload_n 2, 1) := by decide +kernel
theorem dX10_isPlayableAt_26 : decode cX10_isPlayableAt 26 = .ok (.iconst 1, 1) := by decide +kernel
theorem dX10_isPlayableAt_27 : decode cX10_isPlayableAt 27 = .ok (.invokevirtual 112, 3) := by decide +kernel
theorem dX10_isPlayableAt_30 : decode cX10_isPlayableAt 30 = .ok (.aload_n 0, 1) := by decide +kernel
theorem dX10_isPlayableAt_31 : decode cX10_isPlayableAt 31 = .ok (.getfield 41, 3) := by decide +kernel
theorem dX10_isPlayableAt_34 : decode cX10_isPlayableAt 34 = .ok (.bipush 22, 2) := by decide +kernel
theorem dX10_isPlayableAt_36 : decode cX10_isPlayableAt 36 = .ok (.iload_n 1, 1) := by decide +kernel
theorem dX10_isPlayableAt_37 : decode cX10_isPlayableAt 37 = .ok (.imul, 1) := by decide +kernel
theorem dX10_isPlayableAt_38 : decode cX10_isPlayableAt 38 = .ok (.aload_n 0, 1) := by decide +kernel
theorem dX10_isPlayableAt_39 : decode cX10_isPlayableAt 39 = .ok (.getfield 38, 3) := by decide +kernel
theorem dX10_isPlayableAt_42 : decode cX10_isPlayableAt 42 = .ok (.iload_n 1, 1) := by decide +kernel
theorem dX10_isPlayableAt_43 : decode cX10_isPlayableAt 43 = .ok (.iaload, 1) := by decide +kernel
theorem dX10_isPlayableAt_44 : decode cX10_isPlayableAt 44 = .ok (.iadd, 1) := by decide +kernel
theorem dX10_isPlayableAt_45 : decode cX10_isPlayableAt 45 = .ok (.iconst 1, 1) := by decide +kernel
theorem dX10_isPlayableAt_46 : decode cX10_isPlayableAt 46 = .ok (.isub, 1) := by decide +kernel
theorem dX10_isPlayableAt_47 : decode cX10_isPlayableAt 47 = .ok (.iaload, 1) := by decide +kernel
theorem dX10_isPlayableAt_48 : decode cX10_isPlayableAt 48 = .ok (.if_icmp .ne 7, 3) := by decide +kernel
theorem dX10_isPlayableAt_51 : decode cX10_isPlayableAt 51 = .ok (.iconst 1, 1) := by decide +kernel
theorem dX10_isPlayableAt_52 : decode cX10_isPlayableAt 52 = .ok (.goto 4, 3) := by decide +kernel
theorem dX10_isPlayableAt_55 : decode cX10_isPlayableAt 55 = .ok (.iconst 0, 1) := by decide +kernel
theorem dX10_isPlayableAt_56 : decode cX10_isPlayableAt 56 = .ok (.ireturn, 1) := by decide +kernel
set_option maxRecDepth 20000 in
theorem ggX10_goes_X10_ofRule : GoodIn wsX10_goes wsX10_ofRule := goodIn_r _ [8, 9, 16, 17, 18, 19, 20, 21, 22, 23, 24, 25, 26, 27, 28, 29, 30, 31, 32] (by decide +kernel) (by decide +kernel)
set_option maxRecDepth 20000 in
theorem gX10_goes_X10_ofRule : GoodIn wsX10_goes (wsV RX10 112 RX10 yX10_ofRule wsX10_ofRule) := goodIn_app (goodIn_of _ (by decide +kernel)) ggX10_goes_X10_ofRule
set_option maxRecDepth 20000 in
theorem ggX10_goes_X10_begins : GoodIn wsX10_goes wsX10_begins := goodIn_r _ [13, 14, 15, 16, 17, 18, 19, 20, 21, 22, 23, 24, 25, 26, 27, 28, 29, 30, 31, 32] (by decide +kernel) (by decide +kernel)
set_option maxRecDepth 20000 in
theorem gX10_goes_X10_begins : GoodIn wsX10_goes (wsV RX10 164 RX10 yX10_begins wsX10_begins) := goodIn_app (goodIn_of _ (by decide +kernel)) ggX10_goes_X10_begins
theorem dX10_goes_0 : decode cX10_goes 0 = .ok (.aload_n 0, 1) := by decide +kernel
theorem dX10_goes_1 : decode cX10_goes 1 = .ok (.getfield 38, 3) := by decide +kernel
theorem dX10_goes_4 : decode cX10_goes 4 = .ok (.iload_n 1, 1) := by decide +kernel
theorem dX10_goes_5 : decode cX10_goes 5 = .ok (.iaload, 1) := by decide +kernel
theorem dX10_goes_6 : decode cX10_goes 6 = .ok (.iconst 1, 1) := by decide +kernel
theorem dX10_goes_7 : decode cX10_goes 7 = .ok (.isub, 1) := by decide +kernel
theorem dX10_goes_8 : decode cX10_goes 8 = .ok (.istore_n 3, 1) := by decide +kernel
theorem dX10_goes_9 : decode cX10_goes 9 = .ok (.iconst 0, 1) := by decide +kernel
theorem dX10_goes_10 : decode cX10_goes 10 = .ok (.istore 4, 2) := by decide +kernel
theorem dX10_goes_12 : decode cX10_goes 12 = .ok (.iload 4, 2) := by decide +kernel
theorem dX10_goes_14 : decode cX10_goes 14 = .ok (.iload_n 3, 1) := by decide +kernel
theorem dX10_goes_15 : decode cX10_goes 15 = .ok (.if_icmp .ge 35, 3) := by decide +kernel
theorem dX10_goes_18 : decode cX10_goes 18 = .ok (.aload_n 0, 1) := by decide +kernel
theorem dX10_goes_19 : decode cX10_goes 19 = .ok (.getfield 41, 3) := by decide +kernel
theorem dX10_goes_22 : decode cX10_goes 22 = .ok (.bipush 22, 2) := by decide +kernel
theorem dX10_goes_24 : decode cX10_goes 24 = .ok (.iload_n 1, 1) := by decide +kernel
theorem dX10_goes_25 : decode cX10_goes 25 = .ok (.iconst 1, 1) := by decide +kernel
theorem dX10_goes_26 : decode cX10_goes 26 = .ok (.iadd, 1) := by decide +kernel
theorem dX10_goes_27 : decode cX10_goes 27 = .ok (.imul, 1) := by decide +kernel
theorem dX10_goes_28 : decode cX10_goes 28 = .ok (.iload 4, 2) := by decide +kernel
theorem dX10_goes_30 : decode cX10_goes 30 = .ok (.iadd, 1) := by decide +kernel
theorem dX10_goes_31 : decode cX10_goes 31 = .ok (.aload_n 0, 1) := by decide +kernel
theorem dX10_goes_32 : decode cX10_goes 32 = .ok (.getfield 41, 3) := by decide +kernel
theorem dX10_goes_35 : decode cX10_goes 35 = .ok (.bipush 22, 2) := by decide +kernel
theorem dX10_goes_37 : decode cX10_goes 37 = .ok (.iload_n 1, 1) := by decide +kernel
theorem dX10_goes_38 : decode cX10_goes 38 = .ok (.imul, 1) := by decide +kernel
theorem dX10_goes_39 : decode cX10_goes 39 = .ok (.iload 4, 2) := by decide +kernel
theorem dX10_goes_41 : decode cX10_goes 41 = .ok (.iadd, 1) := by decide +kernel
theorem dX10_goes_42 : decode cX10_goes 42 = .ok (.iaload, 1) := by decide +kernel
theorem dX10_goes_43 : decode cX10_goes 43 = .ok (.iastore, 1) := by decide +kernel
theorem dX10_goes_44 : decode cX10_goes 44 = .ok (.iinc 4 1, 3) := by decide +kernel
theorem dX10_goes_47 : decode cX10_goes 47 = .ok (.goto (-35), 3) := by decide +kernel
theorem dX10_goes_50 : decode cX10_goes 50 = .ok (.iconst 4, 1) := by decide +kernel
theorem dX10_goes_51 : decode cX10_goes 51 = .ok (.istore 4, 2) := by decide +kernel
theorem dX10_goes_53 : decode cX10_goes 53 = .ok (.iload 4, 2) := by decide +kernel
theorem dX10_goes_55 : decode cX10_goes 55 = .ok (.iconst 2, 1) := by decide +kernel
theorem dX10_goes_56 : decode cX10_goes 56 = .ok (.if_icmp .le 43, 3) := by decide +kernel
theorem dX10_goes_59 : decode cX10_goes 59 = .ok (.aload_n 0, 1) := by decide +kernel
theorem dX10_goes_60 : decode cX10_goes 60 = .ok (.iload_n 2, 1) := by decide +kernel
theorem dX10_goes_61 : decode cX10_goes 61 = .ok (.iload 4, 2) := by decide +kernel
theorem dX10_goes_63 : decode cX10_goes 63 = .ok (.invokevirtual 112, 3) := by decide +kernel
theorem dX10_goes_66 : decode cX10_goes 66 = .ok (.iconst (-1), 1) := by decide +kernel
theorem dX10_goes_67 : decode cX10_goes 67 = .ok (.if_icmp .eq 26, 3) := by decide +kernel
theorem dX10_goes_70 : decode cX10_goes 70 = .ok (.aload_n 0, 1) := by decide +kernel
theorem dX10_goes_71 : decode cX10_goes 71 = .ok (.getfield 41, 3) := by decide +kernel
theorem dX10_goes_74 : decode cX10_goes 74 = .ok (.bipush 22, 2) := by decide +kernel
theorem dX10_goes_76 : decode cX10_goes 76 = .ok (.iload_n 1, 1) := by decide +kernel
theorem dX10_goes_77 : decode cX10_goes 77 = .ok (.iconst 1, 1) := by decide +kernel
theorem dX10_goes_78 : decode cX10_goes 78 = .ok (.iadd, 1) := by decide +kernel
theorem dX10_goes_79 : decode cX10_goes 79 = .ok (.imul, 1) := by decide +kernel
theorem dX10_goes_80 : decode cX10_goes 80 = .ok (.iload_n 3, 1) := by decide +kernel
theorem dX10_goes_81 : decode cX10_goes 81 = .ok (.iadd, 1) := by decide +kernel
theorem dX10_goes_82 : decode cX10_goes 82 = .ok (.aload_n 0, 1) := by decide +kernel
theorem dX10_goes_83 : decode cX10_goes 83 = .ok (.iload_n 2, 1) := by decide +kernel
theorem dX10_goes_84 : decode cX10_goes 84 = .ok (.iload 4, 2) := by decide +kernel
theorem dX10_goes_86 : decode cX10_goes 86 = .ok (.invokevirtual 112, 3) := by decide +kernel
theorem dX10_goes_89 : decode cX10_goes 89 = .ok (.iastore, 1) := by decide +kernel
theorem dX10_goes_90 : decode cX10_goes 90 = .ok (.iinc 3 1, 3) := by decide +kernel
theorem dX10_goes_93 : decode cX10_goes 93 = .ok (.iinc 4 (-1), 3) := by decide +kernel
theorem dX10_goes_96 : decode cX10_goes 96 = .ok (.goto (-43), 3) := by decide +kernel
theorem dX10_goes_99 : decode cX10_goes 99 = .ok (.aload_n 0, 1) := by decide +kernel
theorem dX10_goes_100 : decode cX10_goes 100 = .ok (.getfield 38, 3) := by decide +kernel
theorem dX10_goes_103 : decode cX10_goes 103 = .ok (.iload_n 1, 1) := by decide +kernel
theorem dX10_goes_104 : decode cX10_goes 104 = .ok (.iconst 1, 1) := by decide +kernel
theorem dX10_goes_105 : decode cX10_goes 105 = .ok (.iadd, 1) := by decide +kernel
theorem dX10_goes_106 : decode cX10_goes 106 = .ok (.iload_n 3, 1) := by decide +kernel
theorem dX10_goes_107 : decode cX10_goes 107 = .ok (.iastore, 1) := by decide +kernel
theorem dX10_goes_108 : decode cX10_goes 108 = .ok (.aload_n 0, 1) := by decide +kernel
theorem dX10_goes_109 : decode cX10_goes 109 = .ok (.getfield 35, 3) := by decide +kernel
theorem dX10_goes_112 : decode cX10_goes 112 = .ok (.iload_n 1, 1) := by decide +kernel
theorem dX10_goes_113 : decode cX10_goes 113 = .ok (.iconst 1, 1) := by decide +kernel
theorem dX10_goes_114 : decode cX10_goes 114 = .ok (.iadd, 1) := by decide +kernel
theorem dX10_goes_115 : decode cX10_goes 115 = .ok (.aload_n 0, 1) := by decide +kernel
theorem dX10_goes_116 : decode cX10_goes 116 = .ok (.iload_n 2, 1) := by decide +kernel
theorem dX10_goes_117 : decode cX10_goes 117 = .ok (.iconst 2, 1) := by decide +kernel
theorem dX10_goes_118 : decode cX10_goes 118 = .ok (.invokevirtual 112, 3) := by decide +kernel
theorem dX10_goes_121 : decode cX10_goes 121 = .ok (.iastore, 1) := by decide +kernel
theorem dX10_goes_122 : decode cX10_goes 122 = .ok (.aload_n 0, 1) := by decide +kernel
theorem dX10_goes_123 : decode cX10_goes 123 = .ok (.iload_n 1, 1) := by decide +kernel
theorem dX10_goes_124 : decode cX10_goes 124 = .ok (.iconst 1, 1) := by decide +kernel
theorem dX10_goes_125 : decode cX10_goes 125 = .ok (.iadd, 1) := by decide +kernel
theorem dX10_goes_126 : decode cX10_goes 126 = .ok (.invokevirtual 164, 3) := by decide +kernel
theorem dX10_goes_129 : decode cX10_goes 129 = .ok (.return_, 1) := by decide +kernel
theorem dX10_begins_0 : decode cX10_begins 0 = .ok (.aload_n 0, 1) := by decide +kernel
theorem dX10_begins_1 : decode cX10_begins 1 = .ok (.getfield 44, 3) := by decide +kernel
theorem dX10_begins_4 : decode cX10_begins 4 = .ok (.iload_n 1, 1) := by decide +kernel
theorem dX10_begins_5 : decode cX10_begins 5 = .ok (.iconst 0, 1) := by decide +kernel
theorem dX10_begins_6 : decode cX10_begins 6 = .ok (.iastore, 1) := by decide +kernel
theorem dX10_begins_7 : decode cX10_begins 7 = .ok (.aload_n 0, 1) := by decide +kernel
theorem dX10_begins_8 : decode cX10_begins 8 = .ok (.getfield 47, 3) := by decide +kernel
theorem dX10_begins_11 : decode cX10_begins 11 = .ok (.iload_n 1, 1) := by decide +kernel
theorem dX10_begins_12 : decode cX10_begins 12 = .ok (.iconst (-1), 1) := by decide +kernel
theorem dX10_begins_13 : decode cX10_begins 13 = .ok (.iastore, 1) := by decide +kernel
theorem dX10_begins_14 : decode cX10_begins 14 = .ok (.return_, 1) := by decide +kernel
set_option maxRecDepth 20000 in
theorem ggX10_distanceFrom_X10_has : GoodIn wsX10_distanceFrom wsX10_has := goodIn_r _ [8] (by decide +kernel) (by decide +kernel)
set_option maxRecDepth 20000 in
theorem gX10_distanceFrom_X10_has : GoodIn wsX10_distanceFrom (va_wsS RX10 122 yX10_has wsX10_has) := goodIn_app (goodIn_of _ (by decide +kernel)) ggX10_distanceFrom_X10_has
set_option maxRecDepth 20000 in
theorem ggX10_distanceFrom_X10_isPlayableAt : GoodIn wsX10_distanceFrom wsX10_isPlayableAt := goodIn_r _ [12, 13, 3, 14, 15, 16, 17, 7, 18, 2, 27, 28, 29, 30, 31, 32, 33, 34, 35, 36, 37, 38, 39, 40, 41, 42, 43] (by decide +kernel) (by decide +kernel)
set_option maxRecDepth 20000 in
theorem gX10_distanceFrom_X10_isPlayableAt : GoodIn wsX10_distanceFrom (wsV RX10 168 RX10 yX10_isPlayableAt wsX10_isPlayableAt) := goodIn_app (goodIn_of _ (by decide +kernel)) ggX10_distanceFrom_X10_isPlayableAt
set_option maxRecDepth 20000 in
theorem ggX10_distanceFrom_X10_goes : GoodIn wsX10_distanceFrom wsX10_goes := goodIn_r _ [22, 13, 14, 3, 15, 16, 17, 7, 18, 2, 23, 24, 25, 26, 4, 1, 27, 28, 29, 30, 31, 32, 33, 34, 35, 36, 37, 38, 39, 40, 41, 42, 43] (by decide +kernel) (by decide +kernel)
set_option maxRecDepth 20000 in
theorem gX10_distanceFrom_X10_goes : GoodIn wsX10_distanceFrom (wsV RX10 171 RX10 yX10_goes wsX10_goes) := goodIn_app (goodIn_of _ (by decide +kernel)) ggX10_distanceFrom_X10_goes
theorem dX10_distanceFrom_0 : decode cX10_distanceFrom 0 = .ok (.iload_n 1, 1) := by decide +kernel
theorem dX10_distanceFrom_1 : decode cX10_distanceFrom 1 = .ok (.istore_n 3, 1) := by decide +kernel
theorem dX10_distanceFrom_2 : decode cX10_distanceFrom 2 = .ok (.iconst (-1), 1) := by decide +kernel
theorem dX10_distanceFrom_3 : decode cX10_distanceFrom 3 = .ok (.istore 4, 2) := by decide +kernel
theorem dX10_distanceFrom_5 : decode cX10_distanceFrom 5 = .ok (.iload_n 3, 1) := by decide +kernel
theorem dX10_distanceFrom_6 : decode cX10_distanceFrom 6 = .ok (.iload_n 1, 1) := by decide +kernel
theorem dX10_distanceFrom_7 : decode cX10_distanceFrom 7 = .ok (.if_icmp .gt 8, 3) := by decide +kernel
theorem dX10_distanceFrom_10 : decode cX10_distanceFrom 10 = .ok (.iload 4, 2) := by decide +kernel
theorem dX10_distanceFrom_12 : decode cX10_distanceFrom 12 = .ok (.ifCond .ge 245, 3) := by decide +kernel
theorem dX10_distanceFrom_15 : decode cX10_distanceFrom 15 = .ok (.iload 4, 2) := by decide +kernel
theorem dX10_distanceFrom_17 : decode cX10_distanceFrom 17 = .ok (.ifCond .lt 97, 3) := by decide +kernel
theorem dX10_distanceFrom_20 : decode cX10_distanceFrom 20 = .ok (.iinc 3 (-1), 3) := by decide +kernel
theorem dX10_distanceFrom_23 : decode cX10_distanceFrom 23 = .ok (.iload 4, 2) := by decide +kernel
theorem dX10_distanceFrom_25 : decode cX10_distanceFrom 25 = .ok (.sipush 1000, 3) := by decide +kernel
theorem dX10_distanceFrom_28 : decode cX10_distanceFrom 28 = .ok (.if_icmp .ge 10, 3) := by decide +kernel
theorem dX10_distanceFrom_31 : decode cX10_distanceFrom 31 = .ok (.iload 4, 2) := by decide +kernel
theorem dX10_distanceFrom_33 : decode cX10_distanceFrom 33 = .ok (.iconst 1, 1) := by decide +kernel
theorem dX10_distanceFrom_34 : decode cX10_distanceFrom 34 = .ok (.iadd, 1) := by decide +kernel
theorem dX10_distanceFrom_35 : decode cX10_distanceFrom 35 = .ok (.goto 6, 3) := by decide +kernel
theorem dX10_distanceFrom_38 : decode cX10_distanceFrom 38 = .ok (.sipush 1000, 3) := by decide +kernel
theorem dX10_distanceFrom_41 : decode cX10_distanceFrom 41 = .ok (.istore 5, 2) := by decide +kernel
theorem dX10_distanceFrom_43 : decode cX10_distanceFrom 43 = .ok (.aload_n 0, 1) := by decide +kernel
theorem dX10_distanceFrom_44 : decode cX10_distanceFrom 44 = .ok (.getfield 47, 3) := by decide +kernel
theorem dX10_distanceFrom_47 : decode cX10_distanceFrom 47 = .ok (.iload_n 3, 1) := by decide +kernel
theorem dX10_distanceFrom_48 : decode cX10_distanceFrom 48 = .ok (.iaload, 1) := by decide +kernel
theorem dX10_distanceFrom_49 : decode cX10_distanceFrom 49 = .ok (.istore 6, 2) := by decide +kernel
theorem dX10_distanceFrom_51 : decode cX10_distanceFrom 51 = .ok (.aload_n 0, 1) := by decide +kernel
theorem dX10_distanceFrom_52 : decode cX10_distanceFrom 52 = .ok (.getfield 7, 3) := by decide +kernel
theorem dX10_distanceFrom_55 : decode cX10_distanceFrom 55 = .ok (.iconst 2, 1) := by decide +kernel
theorem dX10_distanceFrom_56 : decode cX10_distanceFrom 56 = .ok (.iaload, 1) := by decide +kernel
theorem dX10_distanceFrom_57 : decode cX10_distanceFrom 57 = .ok (.aload_n 0, 1) := by decide +kernel
theorem dX10_distanceFrom_58 : decode cX10_distanceFrom 58 = .ok (.getfield 35, 3) := by decide +kernel
theorem dX10_distanceFrom_61 : decode cX10_distanceFrom 61 = .ok (.iload_n 3, 1) := by decide +kernel
theorem dX10_distanceFrom_62 : decode cX10_distanceFrom 62 = .ok (.iaload, 1) := by decide +kernel
theorem dX10_distanceFrom_63 : decode cX10_distanceFrom 63 = .ok (.invokestatic 122, 3) := by decide +kernel
theorem dX10_distanceFrom_66 : decode cX10_distanceFrom 66 = .ok (.istore 7, 2) := by decide +kernel
theorem dX10_distanceFrom_68 : decode cX10_distanceFrom 68 = .ok (.aload_n 0, 1) := by decide +kernel
theorem dX10_distanceFrom_69 : decode cX10_distanceFrom 69 = .ok (.getfield 47, 3) := by decide +kernel
theorem dX10_distanceFrom_72 : decode cX10_distanceFrom 72 = .ok (.iload_n 3, 1) := by decide +kernel
theorem dX10_distanceFrom_73 : decode cX10_distanceFrom 73 = .ok (.iload 6, 2) := by decide +kernel
theorem dX10_distanceFrom_75 : decode cX10_distanceFrom 75 = .ok (.ifCond .lt 25, 3) := by decide +kernel
theorem dX10_distanceFrom_78 : decode cX10_distanceFrom 78 = .ok (.iload 7, 2) := by decide +kernel
theorem dX10_distanceFrom_80 : decode cX10_distanceFrom 80 = .ok (.ifCond .eq 13, 3) := by decide +kernel
theorem dX10_distanceFrom_83 : decode cX10_distanceFrom 83 = .ok (.iload 5, 2) := by decide +kernel
theorem dX10_distanceFrom_85 : decode cX10_distanceFrom 85 = .ok (.iload 6, 2) := by decide +kernel
theorem dX10_distanceFrom_87 : decode cX10_distanceFrom 87 = .ok (.if_icmp .le 18, 3) := by decide +kernel
theorem dX10_distanceFrom_90 : decode cX10_distanceFrom 90 = .ok (.goto 10, 3) := by decide +kernel
theorem dX10_distanceFrom_93 : decode cX10_distanceFrom 93 = .ok (.iload 5, 2) := by decide +kernel
theorem dX10_distanceFrom_95 : decode cX10_distanceFrom 95 = .ok (.iload 6, 2) := by decide +kernel
theorem dX10_distanceFrom_97 : decode cX10_distanceFrom 97 = .ok (.if_icmp .ge 8, 3) := by decide +kernel
theorem dX10_distanceFrom_100 : decode cX10_distanceFrom 100 = .ok (.iload 5, 2) := by decide +kernel
theorem dX10_distanceFrom_102 : decode cX10_distanceFrom 102 = .ok (.goto 5, 3) := by decide +kernel
theorem dX10_distanceFrom_105 : decode cX10_distanceFrom 105 = .ok (.iload 6, 2) := by decide +kernel
theorem dX10_distanceFrom_107 : decode cX10_distanceFrom 107 = .ok (.iastore, 1) := by decide +kernel
theorem dX10_distanceFrom_108 : decode cX10_distanceFrom 108 = .ok (.iconst (-1), 1) := by decide +kernel
theorem dX10_distanceFrom_109 : decode cX10_distanceFrom 109 = .ok (.istore 4, 2) := by decide +kernel
theorem dX10_distanceFrom_111 : decode cX10_distanceFrom 111 = .ok (.goto (-106), 3) := by decide +kernel
theorem dX10_distanceFrom_114 : decode cX10_distanceFrom 114 = .ok (.aload_n 0, 1) := by decide +kernel
theorem dX10_distanceFrom_115 : decode cX10_distanceFrom 115 = .ok (.getfield 7, 3) := by decide +kernel
theorem dX10_distanceFrom_118 : decode cX10_distanceFrom 118 = .ok (.iconst 3, 1) := by decide +kernel
theorem dX10_distanceFrom_119 : decode cX10_distanceFrom 119 = .ok (.iaload, 1) := by decide +kernel
theorem dX10_distanceFrom_120 : decode cX10_distanceFrom 120 = .ok (.aload_n 0, 1) := by decide +kernel
theorem dX10_distanceFrom_121 : decode cX10_distanceFrom 121 = .ok (.getfield 35, 3) := by decide +kernel
theorem dX10_distanceFrom_124 : decode cX10_distanceFrom 124 = .ok (.iload_n 3, 1) := by decide +kernel
theorem dX10_distanceFrom_125 : decode cX10_distanceFrom 125 = .ok (.iaload, 1) := by decide +kernel
theorem dX10_distanceFrom_126 : decode cX10_distanceFrom 126 = .ok (.invokestatic 122, 3) := by decide +kernel
theorem dX10_distanceFrom_129 : decode cX10_distanceFrom 129 = .ok (.ifCond .eq 9, 3) := by decide +kernel
theorem dX10_distanceFrom_132 : decode cX10_distanceFrom 132 = .ok (.iconst 0, 1) := by decide +kernel
theorem dX10_distanceFrom_133 : decode cX10_distanceFrom 133 = .ok (.istore 4, 2) := by decide +kernel
theorem dX10_distanceFrom_135 : decode cX10_distanceFrom 135 = .ok (.goto (-130), 3) := by decide +kernel
theorem dX10_distanceFrom_138 : decode cX10_distanceFrom 138 = .ok (.aload_n 0, 1) := by decide +kernel
theorem dX10_distanceFrom_139 : decode cX10_distanceFrom 139 = .ok (.getfield 44, 3) := by decide +kernel
theorem dX10_distanceFrom_142 : decode cX10_distanceFrom 142 = .ok (.iload_n 3, 1) := by decide +kernel
theorem dX10_distanceFrom_143 : decode cX10_distanceFrom 143 = .ok (.iaload, 1) := by decide +kernel
theorem dX10_distanceFrom_144 : decode cX10_distanceFrom 144 = .ok (.aload_n 0, 1) := by decide +kernel
theorem dX10_distanceFrom_145 : decode cX10_distanceFrom 145 = .ok (.getfield 7, 3) := by decide +kernel
theorem dX10_distanceFrom_148 : decode cX10_distanceFrom 148 = .ok (.iconst 4, 1) := by decide +kernel
theorem dX10_distanceFrom_149 : decode cX10_distanceFrom 149 = .ok (.iaload, 1) := by decide +kernel
theorem dX10_distanceFrom_150 : decode cX10_distanceFrom 150 = .ok (.if_icmp .ge 30, 3) := by decide +kernel
theorem dX10_distanceFrom_153 : decode cX10_distanceFrom 153 = .ok (.aload_n 0, 1) := by decide +kernel
theorem dX10_distanceFrom_154 : decode cX10_distanceFrom 154 = .ok (.iload_n 3, 1) := by decide +kernel
theorem dX10_distanceFrom_155 : decode cX10_distanceFrom 155 = .ok (.aload_n 0, 1) := by decide +kernel
theorem dX10_distanceFrom_156 : decode cX10_distanceFrom 156 = .ok (.getfield 44, 3) := by decide +kernel
theorem dX10_distanceFrom_159 : decode cX10_distanceFrom 159 = .ok (.iload_n 3, 1) := by decide +kernel
theorem dX10_distanceFrom_160 : decode cX10_distanceFrom 160 = .ok (.iaload, 1) := by decide +kernel
theorem dX10_distanceFrom_161 : decode cX10_distanceFrom 161 = .ok (.invokevirtual 168, 3) := by decide +kernel
theorem dX10_distanceFrom_164 : decode cX10_distanceFrom 164 = .ok (.ifCond .ne 16, 3) := by decide +kernel
theorem dX10_distanceFrom_167 : decode cX10_distanceFrom 167 = .ok (.aload_n 0, 1) := by decide +kernel
theorem dX10_distanceFrom_168 : decode cX10_distanceFrom 168 = .ok (.getfield 44, 3) := by decide +kernel
theorem dX10_distanceFrom_171 : decode cX10_distanceFrom 171 = .ok (.iload_n 3, 1) := by decide +kernel
theorem dX10_distanceFrom_172 : decode cX10_distanceFrom 172 = .ok (.dup2, 1) := by decide +kernel
theorem dX10_distanceFrom_173 : decode cX10_distanceFrom 173 = .ok (.iaload, 1) := by decide +kernel
theorem dX10_distanceFrom_174 : decode cX10_distanceFrom 174 = .ok (.iconst 1, 1) := by decide +kernel
theorem dX10_distanceFrom_175 : decode cX10_distanceFrom 175 = .ok (.iadd, 1) := by decide +kernel
theorem dX10_distanceFrom_176 : decode cX10_distanceFrom 176 = .ok (.iastore, 1) := by decide +kernel
theorem dX10_distanceFrom_177 : decode cX10_distanceFrom 177 = .ok (.goto (-39), 3) := by decide +kernel
theorem dX10_distanceFrom_180 : decode cX10_distanceFrom 180 = .ok (.iload_n 3, 1) := by decide +kernel
theorem dX10_distanceFrom_181 : decode cX10_distanceFrom 181 = .ok (.iload_n 1, 1) := by decide +kernel
theorem dX10_distanceFrom_182 : decode cX10_distanceFrom 182 = .ok (.iload_n 2, 1) := by decide +kernel
theorem dX10_distanceFrom_183 : decode cX10_distanceFrom 183 = .ok (.iadd, 1) := by decide +kernel
theorem dX10_distanceFrom_184 : decode cX10_distanceFrom 184 = .ok (.if_icmp .eq 18, 3) := by decide +kernel
theorem dX10_distanceFrom_187 : decode cX10_distanceFrom 187 = .ok (.aload_n 0, 1) := by decide +kernel
theorem dX10_distanceFrom_188 : decode cX10_distanceFrom 188 = .ok (.getfield 44, 3) := by decide +kernel
theorem dX10_distanceFrom_191 : decode cX10_distanceFrom 191 = .ok (.iload_n 3, 1) := by decide +kernel
theorem dX10_distanceFrom_192 : decode cX10_distanceFrom 192 = .ok (.iaload, 1) := by decide +kernel
theorem dX10_distanceFrom_193 : decode cX10_distanceFrom 193 = .ok (.aload_n 0, 1) := by decide +kernel
theorem dX10_distanceFrom_194 : decode cX10_distanceFrom 194 = .ok (.getfield 7, 3) := by decide +kernel
theorem dX10_distanceFrom_197 : decode cX10_distanceFrom 197 = .ok (.iconst 4, 1) := by decide +kernel
theorem dX10_distanceFrom_198 : decode cX10_distanceFrom 198 = .ok (.iaload, 1) := by decide +kernel
theorem dX10_distanceFrom_199 : decode cX10_distanceFrom 199 = .ok (.if_icmp .ne 29, 3) := by decide +kernel
theorem dX10_distanceFrom_202 : decode cX10_distanceFrom 202 = .ok (.aload_n 0, 1) := by decide +kernel
theorem dX10_distanceFrom_203 : decode cX10_distanceFrom 203 = .ok (.getfield 47, 3) := by decide +kernel
theorem dX10_distanceFrom_206 : decode cX10_distanceFrom 206 = .ok (.iload_n 3, 1) := by decide +kernel
theorem dX10_distanceFrom_207 : decode cX10_distanceFrom 207 = .ok (.iaload, 1) := by decide +kernel
theorem dX10_distanceFrom_208 : decode cX10_distanceFrom 208 = .ok (.ifCond .ge 9, 3) := by decide +kernel
theorem dX10_distanceFrom_211 : decode cX10_distanceFrom 211 = .ok (.sipush 1000, 3) := by decide +kernel
theorem dX10_distanceFrom_214 : decode cX10_distanceFrom 214 = .ok (.goto 9, 3) := by decide +kernel
theorem dX10_distanceFrom_217 : decode cX10_distanceFrom 217 = .ok (.aload_n 0, 1) := by decide +kernel
theorem dX10_distanceFrom_218 : decode cX10_distanceFrom 218 = .ok (.getfield 47, 3) := by decide +kernel
theorem dX10_distanceFrom_221 : decode cX10_distanceFrom 221 = .ok (.iload_n 3, 1) := by decide +kernel
theorem dX10_distanceFrom_222 : decode cX10_distanceFrom 222 = .ok (.iaload, 1) := by decide +kernel
theorem dX10_distanceFrom_223 : decode cX10_distanceFrom 223 = .ok (.istore 4, 2) := by decide +kernel
theorem dX10_distanceFrom_225 : decode cX10_distanceFrom 225 = .ok (.goto (-220), 3) := by decide +kernel
theorem dX10_distanceFrom_228 : decode cX10_distanceFrom 228 = .ok (.aload_n 0, 1) := by decide +kernel
theorem dX10_distanceFrom_229 : decode cX10_distanceFrom 229 = .ok (.getfield 44, 3) := by decide +kernel
theorem dX10_distanceFrom_232 : decode cX10_distanceFrom 232 = .ok (.iload_n 3, 1) := by decide +kernel
theorem dX10_distanceFrom_233 : decode cX10_distanceFrom 233 = .ok (.dup2, 1) := by decide +kernel
theorem dX10_distanceFrom_234 : decode cX10_distanceFrom 234 = .ok (.iaload, 1) := by decide +kernel
theorem dX10_distanceFrom_235 : decode cX10_distanceFrom 235 = .ok (.iconst 1, 1) := by decide +kernel
theorem dX10_distanceFrom_236 : decode cX10_distanceFrom 236 = .ok (.iadd, 1) := by decide +kernel
theorem dX10_distanceFrom_237 : decode cX10_distanceFrom 237 = .ok (.iastore, 1) := by decide +kernel
theorem dX10_distanceFrom_238 : decode cX10_distanceFrom 238 = .ok (.aload_n 0, 1) := by decide +kernel
theorem dX10_distanceFrom_239 : decode cX10_distanceFrom 239 = .ok (.iload_n 3, 1) := by decide +kernel
theorem dX10_distanceFrom_240 : decode cX10_distanceFrom 240 = .ok (.aload_n 0, 1) := by decide +kernel
theorem dX10_distanceFrom_241 : decode cX10_distanceFrom 241 = .ok (.getfield 44, 3) := by decide +kernel
theorem dX10_distanceFrom_244 : decode cX10_distanceFrom 244 = .ok (.iload_n 3, 1) := by decide +kernel
theorem dX10_distanceFrom_245 : decode cX10_distanceFrom 245 = .ok (.iaload, 1) := by decide +kernel
theorem dX10_distanceFrom_246 : decode cX10_distanceFrom 246 = .ok (.iconst 1, 1) := by decide +kernel
theorem dX10_distanceFrom_247 : decode cX10_distanceFrom 247 = .ok (.isub, 1) := by decide +kernel
theorem dX10_distanceFrom_248 : decode cX10_distanceFrom 248 = .ok (.invokevirtual 171, 3) := by decide +kernel
theorem dX10_distanceFrom_251 : decode cX10_distanceFrom 251 = .ok (.iinc 3 1, 3) := by decide +kernel
theorem dX10_distanceFrom_254 : decode cX10_distanceFrom 254 = .ok (.goto (-249), 3) := by decide +kernel
theorem dX10_distanceFrom_257 : decode cX10_distanceFrom 257 = .ok (.iload 4, 2) := by decide +kernel
theorem dX10_distanceFrom_259 : decode cX10_distanceFrom 259 = .ok (.ireturn, 1) := by decide +kernel
set_option maxRecDepth 20000 in
theorem ggX10_layPresent_X10_begins : GoodIn wsX10_layPresent wsX10_begins := goodIn_r _ [9, 10, 11, 12, 13, 14, 15, 16, 17, 18, 19, 20, 21, 22, 23, 24, 25, 26, 27, 28] (by decide +kernel) (by decide +kernel)
set_option maxRecDepth 20000 in
theorem gX10_layPresent_X10_begins : GoodIn wsX10_layPresent (wsV RX10 164 RX10 yX10_begins wsX10_begins) := goodIn_app (goodIn_of _ (by decide +kernel)) ggX10_layPresent_X10_begins
theorem dX10_layPresent_0 : decode cX10_layPresent 0 = .ok (.aload_n 0, 1) := by decide +kernel
theorem dX10_layPresent_1 : decode cX10_layPresent 1 = .ok (.getfield 35, 3) := by decide +kernel
theorem dX10_layPresent_4 : decode cX10_layPresent 4 = .ok (.iconst 0, 1) := by decide +kernel
theorem dX10_layPresent_5 : decode cX10_layPresent 5 = .ok (.aload_n 0, 1) := by decide +kernel
theorem dX10_layPresent_6 : decode cX10_layPresent 6 = .ok (.getfield 7, 3) := by decide +kernel
theorem dX10_layPresent_9 : decode cX10_layPresent 9 = .ok (.bipush 85, 2) := by decide +kernel
theorem dX10_layPresent_11 : decode cX10_layPresent 11 = .ok (.iaload, 1) := by decide +kernel
theorem dX10_layPresent_12 : decode cX10_layPresent 12 = .ok (.iastore, 1) := by decide +kernel
theorem dX10_layPresent_13 : decode cX10_layPresent 13 = .ok (.aload_n 0, 1) := by decide +kernel
theorem dX10_layPresent_14 : decode cX10_layPresent 14 = .ok (.getfield 38, 3) := by decide +kernel
theorem dX10_layPresent_17 : decode cX10_layPresent 17 = .ok (.iconst 0, 1) := by decide +kernel
theorem dX10_layPresent_18 : decode cX10_layPresent 18 = .ok (.aload_n 0, 1) := by decide +kernel
theorem dX10_layPresent_19 : decode cX10_layPresent 19 = .ok (.getfield 7, 3) := by decide +kernel
theorem dX10_layPresent_22 : decode cX10_layPresent 22 = .ok (.bipush 86, 2) := by decide +kernel
theorem dX10_layPresent_24 : decode cX10_layPresent 24 = .ok (.iaload, 1) := by decide +kernel
theorem dX10_layPresent_25 : decode cX10_layPresent 25 = .ok (.iastore, 1) := by decide +kernel
theorem dX10_layPresent_26 : decode cX10_layPresent 26 = .ok (.iconst 0, 1) := by decide +kernel
theorem dX10_layPresent_27 : decode cX10_layPresent 27 = .ok (.istore_n 1, 1) := by decide +kernel
theorem dX10_layPresent_28 : decode cX10_layPresent 28 = .ok (.iload_n 1, 1) := by decide +kernel
theorem dX10_layPresent_29 : decode cX10_layPresent 29 = .ok (.aload_n 0, 1) := by decide +kernel
theorem dX10_layPresent_30 : decode cX10_layPresent 30 = .ok (.getfield 7, 3) := by decide +kernel
theorem dX10_layPresent_33 : decode cX10_layPresent 33 = .ok (.bipush 86, 2) := by decide +kernel
theorem dX10_layPresent_35 : decode cX10_layPresent 35 = .ok (.iaload, 1) := by decide +kernel
theorem dX10_layPresent_36 : decode cX10_layPresent 36 = .ok (.if_icmp .ge 24, 3) := by decide +kernel
theorem dX10_layPresent_39 : decode cX10_layPresent 39 = .ok (.aload_n 0, 1) := by decide +kernel
theorem dX10_layPresent_40 : decode cX10_layPresent 40 = .ok (.getfield 41, 3) := by decide +kernel
theorem dX10_layPresent_43 : decode cX10_layPresent 43 = .ok (.iload_n 1, 1) := by decide +kernel
theorem dX10_layPresent_44 : decode cX10_layPresent 44 = .ok (.aload_n 0, 1) := by decide +kernel
theorem dX10_layPresent_45 : decode cX10_layPresent 45 = .ok (.getfield 7, 3) := by decide +kernel
theorem dX10_layPresent_48 : decode cX10_layPresent 48 = .ok (.bipush 87, 2) := by decide +kernel
theorem dX10_layPresent_50 : decode cX10_layPresent 50 = .ok (.iload_n 1, 1) := by decide +kernel
theorem dX10_layPresent_51 : decode cX10_layPresent 51 = .ok (.iadd, 1) := by decide +kernel
theorem dX10_layPresent_52 : decode cX10_layPresent 52 = .ok (.iaload, 1) := by decide +kernel
theorem dX10_layPresent_53 : decode cX10_layPresent 53 = .ok (.iastore, 1) := by decide +kernel
theorem dX10_layPresent_54 : decode cX10_layPresent 54 = .ok (.iinc 1 1, 3) := by decide +kernel
theorem dX10_layPresent_57 : decode cX10_layPresent 57 = .ok (.goto (-29), 3) := by decide +kernel
theorem dX10_layPresent_60 : decode cX10_layPresent 60 = .ok (.aload_n 0, 1) := by decide +kernel
theorem dX10_layPresent_61 : decode cX10_layPresent 61 = .ok (.iconst 0, 1) := by decide +kernel
theorem dX10_layPresent_62 : decode cX10_layPresent 62 = .ok (.invokevirtual 164, 3) := by decide +kernel
theorem dX10_layPresent_65 : decode cX10_layPresent 65 = .ok (.return_, 1) := by decide +kernel
set_option maxRecDepth 20000 in
theorem ggX10_distance_X10_layPresent : GoodIn wsX10_distance wsX10_layPresent := goodIn_r _ [5, 6, 7, 8, 9, 10, 11, 12, 4, 13, 14, 15, 35, 36, 37, 38, 39, 40, 41, 42, 43, 44, 45, 46, 47, 48, 49, 50, 51] (by decide +kernel) (by decide +kernel)
set_option maxRecDepth 20000 in
theorem gX10_distance_X10_layPresent : GoodIn wsX10_distance (wsV RX10 175 RX10 yX10_layPresent wsX10_layPresent) := goodIn_app (goodIn_of _ (by decide +kernel)) ggX10_distance_X10_layPresent
set_option maxRecDepth 20000 in
theorem ggX10_distance_X10_distanceFrom : GoodIn wsX10_distance wsX10_distanceFrom := goodIn_r _ [19, 15, 7, 6, 14, 20, 21, 4, 22, 23, 24, 25, 26, 8, 9, 27, 28, 29, 30, 31, 32, 33, 34, 10, 11, 12, 13, 35, 36, 37, 38, 39, 40, 41, 42, 43, 44, 45, 46, 47, 48, 49, 50, 51] (by decide +kernel) (by decide +kernel)
set_option maxRecDepth 20000 in
theorem gX10_distance_X10_distanceFrom : GoodIn wsX10_distance (wsV RX10 178 RX10 yX10_distanceFrom wsX10_distanceFrom) := goodIn_app (goodIn_of _ (by decide +kernel)) ggX10_distance_X10_distanceFrom
theorem dX10_distance_0 : decode cX10_distance 0 = .ok (.aload_n 0, 1) := by decide +kernel
theorem dX10_distance_1 : decode cX10_distance 1 = .ok (.invokevirtual 175, 3) := by decide +kernel
theorem dX10_distance_4 : decode cX10_distance 4 = .ok (.aload_n 0, 1) := by decide +kernel
theorem dX10_distance_5 : decode cX10_distance 5 = .ok (.iconst 0, 1) := by decide +kernel
theorem dX10_distance_6 : decode cX10_distance 6 = .ok (.bipush 7, 2) := by decide +kernel
theorem dX10_distance_8 : decode cX10_distance 8 = .ok (.invokevirtual 178, 3) := by decide +kernel
theorem dX10_distance_11 : decode cX10_distance 11 = .ok (.istore_n 1, 1) := by decide +kernel
theorem dX10_distance_12 : decode cX10_distance 12 = .ok (.iload_n 1, 1) := by decide +kernel
theorem dX10_distance_13 : decode cX10_distance 13 = .ok (.sipush 1000, 3) := by decide +kernel
theorem dX10_distance_16 : decode cX10_distance 16 = .ok (.if_icmp .lt 8, 3) := by decide +kernel
theorem dX10_distance_19 : decode cX10_distance 19 = .ok (.bipush (-4), 2) := by decide +kernel
theorem dX10_distance_21 : decode cX10_distance 21 = .ok (.goto 4, 3) := by decide +kernel
theorem dX10_distance_24 : decode cX10_distance 24 = .ok (.iload_n 1, 1) := by decide +kernel
theorem dX10_distance_25 : decode cX10_distance 25 = .ok (.ireturn, 1) := by decide +kernel
set_option maxRecDepth 20000 in
theorem ggX10_bestRule_X10_has : GoodIn wsX10_bestRule wsX10_has := goodIn_r _ [5] (by decide +kernel) (by decide +kernel)
set_option maxRecDepth 20000 in
theorem gX10_bestRule_X10_has : GoodIn wsX10_bestRule (va_wsS RX10 122 yX10_has wsX10_has) := goodIn_app (goodIn_of _ (by decide +kernel)) ggX10_bestRule_X10_has
set_option maxRecDepth 20000 in
theorem ggX10_bestRule_X10_isPlayable : GoodIn wsX10_bestRule wsX10_isPlayable := goodIn_r _ [9, 1, 10, 11, 12, 4, 13, 39, 40, 41, 42, 43, 44, 45, 46, 47, 48, 49, 50, 51, 52, 53, 54, 55] (by decide +kernel) (by decide +kernel)
set_option maxRecDepth 20000 in
theorem gX10_bestRule_X10_isPlayable : GoodIn wsX10_bestRule (wsV RX10 116 RX10 yX10_isPlayable wsX10_isPlayable) := goodIn_app (goodIn_of _ (by decide +kernel)) ggX10_bestRule_X10_isPlayable
set_option maxRecDepth 20000 in
theorem ggX10_bestRule_X10_layPresent : GoodIn wsX10_bestRule wsX10_layPresent := goodIn_r _ [17, 18, 1, 19, 20, 21, 22, 23, 4, 24, 25, 26, 39, 40, 41, 42, 43, 44, 45, 46, 47, 48, 49, 50, 51, 52, 53, 54, 55] (by decide +kernel) (by decide +kernel)
set_option maxRecDepth 20000 in
theorem gX10_bestRule_X10_layPresent : GoodIn wsX10_bestRule (wsV RX10 175 RX10 yX10_layPresent wsX10_layPresent) := goodIn_app (goodIn_of _ (by decide +kernel)) ggX10_bestRule_X10_layPresent
set_option maxRecDepth 20000 in
theorem ggX10_bestRule_X10_goes : GoodIn wsX10_bestRule wsX10_goes := goodIn_r _ [30, 19, 20, 18, 10, 11, 12, 4, 13, 1, 21, 22, 23, 24, 25, 26, 39, 40, 41, 42, 43, 44, 45, 46, 47, 48, 49, 50, 51, 52, 53, 54, 55] (by decide +kernel) (by decide +kernel)
set_option maxRecDepth 20000 in
theorem gX10_bestRule_X10_goes : GoodIn wsX10_bestRule (wsV RX10 171 RX10 yX10_goes wsX10_goes) := goodIn_app (goodIn_of _ (by decide +kernel)) ggX10_bestRule_X10_goes
set_option maxRecDepth 20000 in
theorem ggX10_bestRule_X10_distanceFrom : GoodIn wsX10_bestRule wsX10_distanceFrom := goodIn_r _ [34, 26, 1, 18, 25, 2, 3, 4, 5, 35, 36, 37, 38, 19, 20, 10, 11, 12, 13, 27, 28, 29, 30, 21, 22, 23, 24, 39, 40, 41, 42, 43, 44, 45, 46, 47, 48, 49, 50, 51, 52, 53, 54, 55] (by decide +kernel) (by decide +kernel)
set_option maxRecDepth 20000 in
theorem gX10_bestRule_X10_distanceFrom : GoodIn wsX10_bestRule (wsV RX10 178 RX10 yX10_distanceFrom wsX10_distanceFrom) := goodIn_app (goodIn_of _ (by decide +kernel)) ggX10_bestRule_X10_distanceFrom
theorem dX10_bestRule_0 : decode cX10_bestRule 0 = .ok (.aload_n 0, 1) := by decide +kernel
theorem dX10_bestRule_1 : decode cX10_bestRule 1 = .ok (.getfield 7, 3) := by decide +kernel
theorem dX10_bestRule_4 : decode cX10_bestRule 4 = .ok (.iconst 2, 1) := by decide +kernel
theorem dX10_bestRule_5 : decode cX10_bestRule 5 = .ok (.iaload, 1) := by decide +kernel
theorem dX10_bestRule_6 : decode cX10_bestRule 6 = .ok (.aload_n 0, 1) := by decide +kernel
theorem dX10_bestRule_7 : decode cX10_bestRule 7 = .ok (.getfield 7, 3) := by decide +kernel
theorem dX10_bestRule_10 : decode cX10_bestRule 10 = .ok (.bipush 85, 2) := by decide +kernel
theorem dX10_bestRule_12 : decode cX10_bestRule 12 = .ok (.iaload, 1) := by decide +kernel
theorem dX10_bestRule_13 : decode cX10_bestRule 13 = .ok (.invokestatic 122, 3) := by decide +kernel
theorem dX10_bestRule_16 : decode cX10_bestRule 16 = .ok (.ifCond .eq 6, 3) := by decide +kernel
theorem dX10_bestRule_19 : decode cX10_bestRule 19 = .ok (.bipush (-2), 2) := by decide +kernel
theorem dX10_bestRule_21 : decode cX10_bestRule 21 = .ok (.ireturn, 1) := by decide +kernel
theorem dX10_bestRule_22 : decode cX10_bestRule 22 = .ok (.bipush (-4), 2) := by decide +kernel
theorem dX10_bestRule_24 : decode cX10_bestRule 24 = .ok (.istore_n 1, 1) := by decide +kernel
theorem dX10_bestRule_25 : decode cX10_bestRule 25 = .ok (.sipush 1000, 3) := by decide +kernel
theorem dX10_bestRule_28 : decode cX10_bestRule 28 = .ok (.istore_n 2, 1) := by decide +kernel
theorem dX10_bestRule_29 : decode cX10_bestRule 29 = .ok (.iconst 0, 1) := by decide +kernel
theorem dX10_bestRule_30 : decode cX10_bestRule 30 = .ok (.istore_n 3, 1) := by decide +kernel
theorem dX10_bestRule_31 : decode cX10_bestRule 31 = .ok (.iload_n 3, 1) := by decide +kernel
theorem dX10_bestRule_32 : decode cX10_bestRule 32 = .ok (.aload_n 0, 1) := by decide +kernel
theorem dX10_bestRule_33 : decode cX10_bestRule 33 = .ok (.getfield 7, 3) := by decide +kernel
theorem dX10_bestRule_36 : decode cX10_bestRule 36 = .ok (.iconst 4, 1) := by decide +kernel
theorem dX10_bestRule_37 : decode cX10_bestRule 37 = .ok (.iaload, 1) := by decide +kernel
theorem dX10_bestRule_38 : decode cX10_bestRule 38 = .ok (.if_icmp .ge 61, 3) := by decide +kernel
theorem dX10_bestRule_41 : decode cX10_bestRule 41 = .ok (.aload_n 0, 1) := by decide +kernel
theorem dX10_bestRule_42 : decode cX10_bestRule 42 = .ok (.iload_n 3, 1) := by decide +kernel
theorem dX10_bestRule_43 : decode cX10_bestRule 43 = .ok (.invokevirtual 116, 3) := by decide +kernel
theorem dX10_bestRule_46 : decode cX10_bestRule 46 = .ok (.ifCond .eq 47, 3) := by decide +kernel
theorem dX10_bestRule_49 : decode cX10_bestRule 49 = .ok (.aload_n 0, 1) := by decide +kernel
theorem dX10_bestRule_50 : decode cX10_bestRule 50 = .ok (.invokevirtual 175, 3) := by decide +kernel
theorem dX10_bestRule_53 : decode cX10_bestRule 53 = .ok (.aload_n 0, 1) := by decide +kernel
theorem dX10_bestRule_54 : decode cX10_bestRule 54 = .ok (.iconst 0, 1) := by decide +kernel
theorem dX10_bestRule_55 : decode cX10_bestRule 55 = .ok (.iload_n 3, 1) := by decide +kernel
theorem dX10_bestRule_56 : decode cX10_bestRule 56 = .ok (.invokevirtual 171, 3) := by decide +kernel
theorem dX10_bestRule_59 : decode cX10_bestRule 59 = .ok (.aload_n 0, 1) := by decide +kernel
theorem dX10_bestRule_60 : decode cX10_bestRule 60 = .ok (.iconst 1, 1) := by decide +kernel
theorem dX10_bestRule_61 : decode cX10_bestRule 61 = .ok (.bipush 7, 2) := by decide +kernel
theorem dX10_bestRule_63 : decode cX10_bestRule 63 = .ok (.invokevirtual 178, 3) := by decide +kernel
theorem dX10_bestRule_66 : decode cX10_bestRule 66 = .ok (.istore 4, 2) := by decide +kernel
theorem dX10_bestRule_68 : decode cX10_bestRule 68 = .ok (.iload 4, 2) := by decide +kernel
theorem dX10_bestRule_70 : decode cX10_bestRule 70 = .ok (.iload_n 2, 1) := by decide +kernel
theorem dX10_bestRule_71 : decode cX10_bestRule 71 = .ok (.if_icmp .ge 7, 3) := by decide +kernel
theorem dX10_bestRule_74 : decode cX10_bestRule 74 = .ok (.iload_n 3, 1) := by decide +kernel
theorem dX10_bestRule_75 : decode cX10_bestRule 75 = .ok (.goto 4, 3) := by decide +kernel
theorem dX10_bestRule_78 : decode cX10_bestRule 78 = .ok (.iload_n 1, 1) := by decide +kernel
theorem dX10_bestRule_79 : decode cX10_bestRule 79 = .ok (.istore_n 1, 1) := by decide +kernel
theorem dX10_bestRule_80 : decode cX10_bestRule 80 = .ok (.iload 4, 2) := by decide +kernel
theorem dX10_bestRule_82 : decode cX10_bestRule 82 = .ok (.iload_n 2, 1) := by decide +kernel
theorem dX10_bestRule_83 : decode cX10_bestRule 83 = .ok (.if_icmp .ge 8, 3) := by decide +kernel
theorem dX10_bestRule_86 : decode cX10_bestRule 86 = .ok (.iload 4, 2) := by decide +kernel
theorem dX10_bestRule_88 : decode cX10_bestRule 88 = .ok (.goto 4, 3) := by decide +kernel
theorem dX10_bestRule_91 : decode cX10_bestRule 91 = .ok (.iload_n 2, 1) := by decide +kernel
theorem dX10_bestRule_92 : decode cX10_bestRule 92 = .ok (.istore_n 2, 1) := by decide +kernel
theorem dX10_bestRule_93 : decode cX10_bestRule 93 = .ok (.iinc 3 1, 3) := by decide +kernel
theorem dX10_bestRule_96 : decode cX10_bestRule 96 = .ok (.goto (-65), 3) := by decide +kernel
theorem dX10_bestRule_99 : decode cX10_bestRule 99 = .ok (.iload_n 1, 1) := by decide +kernel
theorem dX10_bestRule_100 : decode cX10_bestRule 100 = .ok (.ireturn, 1) := by decide +kernel
theorem dJ9_max_7cf53_0 : decode cJ9_max_7cf53 0 = .ok (.iload_n 0, 1) := by decide +kernel
theorem dJ9_max_7cf53_1 : decode cJ9_max_7cf53 1 = .ok (.iload_n 1, 1) := by decide +kernel
theorem dJ9_max_7cf53_2 : decode cJ9_max_7cf53 2 = .ok (.if_icmp .lt 7, 3) := by decide +kernel
theorem dJ9_max_7cf53_5 : decode cJ9_max_7cf53 5 = .ok (.iload_n 0, 1) := by decide +kernel
theorem dJ9_max_7cf53_6 : decode cJ9_max_7cf53 6 = .ok (.goto 4, 3) := by decide +kernel
theorem dJ9_max_7cf53_9 : decode cJ9_max_7cf53 9 = .ok (.iload_n 1, 1) := by decide +kernel
theorem dJ9_max_7cf53_10 : decode cJ9_max_7cf53 10 = .ok (.ireturn, 1) := by decide +kernel
theorem dJ9_min_7cf53_0 : decode cJ9_min_7cf53 0 = .ok (.iload_n 0, 1) := by decide +kernel
theorem dJ9_min_7cf53_1 : decode cJ9_min_7cf53 1 = .ok (.iload_n 1, 1) := by decide +kernel
theorem dJ9_min_7cf53_2 : decode cJ9_min_7cf53 2 = .ok (.if_icmp .gt 7, 3) := by decide +kernel
theorem dJ9_min_7cf53_5 : decode cJ9_min_7cf53 5 = .ok (.iload_n 0, 1) := by decide +kernel
theorem dJ9_min_7cf53_6 : decode cJ9_min_7cf53 6 = .ok (.goto 4, 3) := by decide +kernel
theorem dJ9_min_7cf53_9 : decode cJ9_min_7cf53 9 = .ok (.iload_n 1, 1) := by decide +kernel
theorem dJ9_min_7cf53_10 : decode cJ9_min_7cf53 10 = .ok (.ireturn, 1) := by decide +kernel
set_option maxRecDepth 20000 in
theorem ggJ0_length_8abf5_J0_coder_7d493 : GoodIn wsJ0_length_8abf5 wsJ0_coder_7d493 := goodIn_r _ [6, 7, 8] (by decide +kernel) (by decide +kernel)
set_option maxRecDepth 20000 in
theorem gJ0_length_8abf5_J0_coder_7d493 : GoodIn wsJ0_length_8abf5 (wsV RJ0 335 RJ0 yJ0_coder_7d493 wsJ0_coder_7d493) := goodIn_app (goodIn_of _ (by decide +kernel)) ggJ0_length_8abf5_J0_coder_7d493
theorem dJ0_length_8abf5_0 : decode cJ0_length_8abf5 0 = .ok (.aload_n 0, 1) := by decide +kernel
theorem dJ0_length_8abf5_1 : decode cJ0_length_8abf5 1 = .ok (.getfield 9, 3) := by decide +kernel
theorem dJ0_length_8abf5_4 : decode cJ0_length_8abf5 4 = .ok (.arraylength, 1) := by decide +kernel
theorem dJ0_length_8abf5_5 : decode cJ0_length_8abf5 5 = .ok (.aload_n 0, 1) := by decide +kernel
theorem dJ0_length_8abf5_6 : decode cJ0_length_8abf5 6 = .ok (.invokevirtual 335, 3) := by decide +kernel
theorem dJ0_length_8abf5_9 : decode cJ0_length_8abf5 9 = .ok (.ishr, 1) := by decide +kernel
theorem dJ0_length_8abf5_10 : decode cJ0_length_8abf5 10 = .ok (.ireturn, 1) := by decide +kernel
set_option maxRecDepth 20000 in
theorem ggJ0_charAt_5068e_J0_isLatin1_aae02 : GoodIn wsJ0_charAt_5068e wsJ0_isLatin1_aae02 := goodIn_r _ [6, 7, 8] (by decide +kernel) (by decide +kernel)
set_option maxRecDepth 20000 in
theorem gJ0_charAt_5068e_J0_isLatin1_aae02 : GoodIn wsJ0_charAt_5068e (wsV RJ0 492 RJ0 yJ0_isLatin1_aae02 wsJ0_isLatin1_aae02) := goodIn_app (goodIn_of _ (by decide +kernel)) ggJ0_charAt_5068e_J0_isLatin1_aae02
set_option maxRecDepth 20000 in
theorem ggJ0_charAt_5068e_J1_charAt_3b067 : GoodIn wsJ0_charAt_5068e wsJ1_charAt_3b067 := goodIn_r _ [12, 13, 14, 5, 15, 16, 17, 18, 19, 20] (by decide +kernel) (by decide +kernel)
set_option maxRecDepth 20000 in
theorem gJ0_charAt_5068e_J1_charAt_3b067 : GoodIn wsJ0_charAt_5068e (va_wsS RJ0 495 yJ1_charAt_3b067 wsJ1_charAt_3b067) := goodIn_app (goodIn_of _ (by decide +kernel)) ggJ0_charAt_5068e_J1_charAt_3b067
set_option maxRecDepth 20000 in
theorem ggJ0_charAt_5068e_J2_charAt_3b067 : GoodIn wsJ0_charAt_5068e wsJ2_charAt_3b067 := goodIn_r _ [24, 25, 26, 23, 27, 28, 29, 30, 31, 14, 5, 15, 16, 17, 18, 19, 20, 32, 33, 34, 35, 36, 37] (by decide +kernel) (by decide +kernel)
set_option maxRecDepth 20000 in
theorem gJ0_charAt_5068e_J2_charAt_3b067 : GoodIn wsJ0_charAt_5068e (va_wsS RJ0 498 yJ2_charAt_3b067 wsJ2_charAt_3b067) := goodIn_app (goodIn_of _ (by decide +kernel)) ggJ0_charAt_5068e_J2_charAt_3b067
theorem dJ0_charAt_5068e_0 : decode cJ0_charAt_5068e 0 = .ok (.aload_n 0, 1) := by decide +kernel
theorem dJ0_charAt_5068e_1 : decode cJ0_charAt_5068e 1 = .ok (.invokevirtual 492, 3) := by decide +kernel
theorem dJ0_charAt_5068e_4 : decode cJ0_charAt_5068e 4 = .ok (.ifCond .eq 12, 3) := by decide +kernel
theorem dJ0_charAt_5068e_7 : decode cJ0_charAt_5068e 7 = .ok (.aload_n 0, 1) := by decide +kernel
theorem dJ0_charAt_5068e_8 : decode cJ0_charAt_5068e 8 = .ok (.getfield 9, 3) := by decide +kernel
theorem dJ0_charAt_5068e_11 : decode cJ0_charAt_5068e 11 = .ok (.iload_n 1, 1) := by decide +kernel
theorem dJ0_charAt_5068e_12 : decode cJ0_charAt_5068e 12 = .ok (.invokestatic 495, 3) := by decide +kernel
theorem dJ0_charAt_5068e_15 : decode cJ0_charAt_5068e 15 = .ok (.ireturn, 1) := by decide +kernel
theorem dJ0_charAt_5068e_16 : decode cJ0_charAt_5068e 16 = .ok (.aload_n 0, 1) := by decide +kernel
theorem dJ0_charAt_5068e_17 : decode cJ0_charAt_5068e 17 = .ok (.getfield 9, 3) := by decide +kernel
theorem dJ0_charAt_5068e_20 : decode cJ0_charAt_5068e 20 = .ok (.iload_n 1, 1) := by decide +kernel
theorem dJ0_charAt_5068e_21 : decode cJ0_charAt_5068e 21 = .ok (.invokestatic 498, 3) := by decide +kernel
theorem dJ0_charAt_5068e_24 : decode cJ0_charAt_5068e 24 = .ok (.ireturn, 1) := by decide +kernel
theorem dJ0_coder_7d493_0 : decode cJ0_coder_7d493 0 = .ok (.getstatic 38, 3) := by decide +kernel
theorem dJ0_coder_7d493_3 : decode cJ0_coder_7d493 3 = .ok (.ifCond .eq 10, 3) := by decide +kernel
theorem dJ0_coder_7d493_6 : decode cJ0_coder_7d493 6 = .ok (.aload_n 0, 1) := by decide +kernel
theorem dJ0_coder_7d493_7 : decode cJ0_coder_7d493 7 = .ok (.getfield 15, 3) := by decide +kernel
theorem dJ0_coder_7d493_10 : decode cJ0_coder_7d493 10 = .ok (.goto 4, 3) := by decide +kernel
theorem dJ0_coder_7d493_13 : decode cJ0_coder_7d493 13 = .ok (.iconst 1, 1) := by decide +kernel
theorem dJ0_coder_7d493_14 : decode cJ0_coder_7d493 14 = .ok (.ireturn, 1) := by decide +kernel
theorem dJ0_isLatin1_aae02_0 : decode cJ0_isLatin1_aae02 0 = .ok (.getstatic 38, 3) := by decide +kernel
theorem dJ0_isLatin1_aae02_3 : decode cJ0_isLatin1_aae02 3 = .ok (.ifCond .eq 14, 3) := by decide +kernel
theorem dJ0_isLatin1_aae02_6 : decode cJ0_isLatin1_aae02 6 = .ok (.aload_n 0, 1) := by decide +kernel
theorem dJ0_isLatin1_aae02_7 : decode cJ0_isLatin1_aae02 7 = .ok (.getfield 15, 3) := by decide +kernel
theorem dJ0_isLatin1_aae02_10 : decode cJ0_isLatin1_aae02 10 = .ok (.ifCond .ne 7, 3) := by decide +kernel
theorem dJ0_isLatin1_aae02_13 : decode cJ0_isLatin1_aae02 13 = .ok (.iconst 1, 1) := by decide +kernel
theorem dJ0_isLatin1_aae02_14 : decode cJ0_isLatin1_aae02 14 = .ok (.goto 4, 3) := by decide +kernel
theorem dJ0_isLatin1_aae02_17 : decode cJ0_isLatin1_aae02 17 = .ok (.iconst 0, 1) := by decide +kernel
theorem dJ0_isLatin1_aae02_18 : decode cJ0_isLatin1_aae02 18 = .ok (.ireturn, 1) := by decide +kernel
set_option maxRecDepth 20000 in
theorem ggJ0_checkIndex_df160_J3_checkIndex_8e157 : GoodIn wsJ0_checkIndex_df160 wsJ3_checkIndex_8e157 := goodIn_r _ [5] (by decide +kernel) (by decide +kernel)
set_option maxRecDepth 20000 in
theorem gJ0_checkIndex_df160_J3_checkIndex_8e157 : GoodIn wsJ0_checkIndex_df160 (va_wsS RJ0 1059 yJ3_checkIndex_8e157 wsJ3_checkIndex_8e157) := goodIn_app (goodIn_of _ (by decide +kernel)) ggJ0_checkIndex_df160_J3_checkIndex_8e157
theorem dJ0_checkIndex_df160_0 : decode cJ0_checkIndex_df160 0 = .ok (.iload_n 0, 1) := by decide +kernel
theorem dJ0_checkIndex_df160_1 : decode cJ0_checkIndex_df160 1 = .ok (.iload_n 1, 1) := by decide +kernel
theorem dJ0_checkIndex_df160_2 : decode cJ0_checkIndex_df160 2 = .ok (.getstatic 1053, 3) := by decide +kernel
theorem dJ0_checkIndex_df160_5 : decode cJ0_checkIndex_df160 5 = .ok (.invokestatic 1059, 3) := by decide +kernel
theorem dJ0_checkIndex_df160_8 : decode cJ0_checkIndex_df160 8 = .ok (.pop, 1) := by decide +kernel
theorem dJ0_checkIndex_df160_9 : decode cJ0_checkIndex_df160 9 = .ok (.return_, 1) := by decide +kernel
set_option maxRecDepth 20000 in
theorem ggJ1_charAt_3b067_J0_checkIndex_df160 : GoodIn wsJ1_charAt_3b067 wsJ0_checkIndex_df160 := goodIn_r _ [4, 5, 6, 7, 8, 9] (by decide +kernel) (by decide +kernel)
set_option maxRecDepth 20000 in
theorem gJ1_charAt_3b067_J0_checkIndex_df160 : GoodIn wsJ1_charAt_3b067 (va_wsS RJ1 9 yJ0_checkIndex_df160 wsJ0_checkIndex_df160) := goodIn_app (goodIn_of _ (by decide +kernel)) ggJ1_charAt_3b067_J0_checkIndex_df160
theorem dJ1_charAt_3b067_0 : decode cJ1_charAt_3b067 0 = .ok (.iload_n 1, 1) := by decide +kernel
theorem dJ1_charAt_3b067_1 : decode cJ1_charAt_3b067 1 = .ok (.aload_n 0, 1) := by decide +kernel
theorem dJ1_charAt_3b067_2 : decode cJ1_charAt_3b067 2 = .ok (.arraylength, 1) := by decide +kernel
theorem dJ1_charAt_3b067_3 : decode cJ1_charAt_3b067 3 = .ok (.invokestatic 9, 3) := by decide +kernel
theorem dJ1_charAt_3b067_6 : decode cJ1_charAt_3b067 6 = .ok (.aload_n 0, 1) := by decide +kernel
theorem dJ1_charAt_3b067_7 : decode cJ1_charAt_3b067 7 = .ok (.iload_n 1, 1) := by decide +kernel
theorem dJ1_charAt_3b067_8 : decode cJ1_charAt_3b067 8 = .ok (.baload, 1) := by decide +kernel
theorem dJ1_charAt_3b067_9 : decode cJ1_charAt_3b067 9 = .ok (.sipush 255, 3) := by decide +kernel
theorem dJ1_charAt_3b067_12 : decode cJ1_charAt_3b067 12 = .ok (.iand, 1) := by decide +kernel
theorem dJ1_charAt_3b067_13 : decode cJ1_charAt_3b067 13 = .ok (.i2c, 1) := by decide +kernel
theorem dJ1_charAt_3b067_14 : decode cJ1_charAt_3b067 14 = .ok (.ireturn, 1) := by decide +kernel
set_option maxRecDepth 20000 in
theorem ggJ2_getChar_3b067_J2_length_9d52b : GoodIn wsJ2_getChar_3b067 wsJ2_length_9d52b := goodIn_r _ [7] (by decide +kernel) (by decide +kernel)
set_option maxRecDepth 20000 in
theorem gJ2_getChar_3b067_J2_length_9d52b : GoodIn wsJ2_getChar_3b067 (va_wsS RJ2 48 yJ2_length_9d52b wsJ2_length_9d52b) := goodIn_app (goodIn_of _ (by decide +kernel)) ggJ2_getChar_3b067_J2_length_9d52b
theorem dJ2_getChar_3b067_0 : decode cJ2_getChar_3b067 0 = .ok (.getstatic 44, 3) := by decide +kernel
theorem dJ2_getChar_3b067_3 : decode cJ2_getChar_3b067 3 = .ok (.ifCond .ne 25, 3) := by decide +kernel
theorem dJ2_getChar_3b067_6 : decode cJ2_getChar_3b067 6 = .ok (.iload_n 1, 1) := by decide +kernel
theorem dJ2_getChar_3b067_7 : decode cJ2_getChar_3b067 7 = .ok (.ifCond .lt 11, 3) := by decide +kernel
theorem dJ2_getChar_3b067_10 : decode cJ2_getChar_3b067 10 = .ok (.iload_n 1, 1) := by decide +kernel
theorem dJ2_getChar_3b067_11 : decode cJ2_getChar_3b067 11 = .ok (.aload_n 0, 1) := by decide +kernel
theorem dJ2_getChar_3b067_12 : decode cJ2_getChar_3b067 12 = .ok (.invokestatic 48, 3) := by decide +kernel
theorem dJ2_getChar_3b067_15 : decode cJ2_getChar_3b067 15 = .ok (.if_icmp .lt 13, 3) := by decide +kernel
theorem dJ2_getChar_3b067_18 : decode cJ2_getChar_3b067 18 = .ok (.new 52, 3) := by decide +kernel
theorem dJ2_getChar_3b067_21 : decode cJ2_getChar_3b067 21 = .ok (.dup, 1) := by decide +kernel
theorem dJ2_getChar_3b067_22 : decode cJ2_getChar_3b067 22 = .ok (.ldc 54, 2) := by decide +kernel
theorem dJ2_getChar_3b067_24 : decode cJ2_getChar_3b067 24 = .ok (.invokespecial 56, 3) := by decide +kernel
theorem dJ2_getChar_3b067_27 : decode cJ2_getChar_3b067 27 = .ok (.athrow, 1) := by decide +kernel
theorem dJ2_getChar_3b067_28 : decode cJ2_getChar_3b067 28 = .ok (.iload_n 1, 1) := by decide +kernel
theorem dJ2_getChar_3b067_29 : decode cJ2_getChar_3b067 29 = .ok (.iconst 1, 1) := by decide +kernel
theorem dJ2_getChar_3b067_30 : decode cJ2_getChar_3b067 30 = .ok (.ishl, 1) := by decide +kernel
theorem dJ2_getChar_3b067_31 : decode cJ2_getChar_3b067 31 = .ok (.istore_n 1, 1) := by decide +kernel
theorem dJ2_getChar_3b067_32 : decode cJ2_getChar_3b067 32 = .ok (.aload_n 0, 1) := by decide +kernel
theorem dJ2_getChar_3b067_33 : decode cJ2_getChar_3b067 33 = .ok (.iload_n 1, 1) := by decide +kernel
theorem dJ2_getChar_3b067_34 : decode cJ2_getChar_3b067 34 = .ok (.iinc 1 1, 3) := by decide +kernel
theorem dJ2_getChar_3b067_37 : decode cJ2_getChar_3b067 37 = .ok (.baload, 1) := by decide +kernel
theorem dJ2_getChar_3b067_38 : decode cJ2_getChar_3b067 38 = .ok (.sipush 255, 3) := by decide +kernel
theorem dJ2_getChar_3b067_41 : decode cJ2_getChar_3b067 41 = .ok (.iand, 1) := by decide +kernel
theorem dJ2_getChar_3b067_42 : decode cJ2_getChar_3b067 42 = .ok (.getstatic 59, 3) := by decide +kernel
theorem dJ2_getChar_3b067_45 : decode cJ2_getChar_3b067 45 = .ok (.ishl, 1) := by decide +kernel
theorem dJ2_getChar_3b067_46 : decode cJ2_getChar_3b067 46 = .ok (.aload_n 0, 1) := by decide +kernel
theorem dJ2_getChar_3b067_47 : decode cJ2_getChar_3b067 47 = .ok (.iload_n 1, 1) := by decide +kernel
theorem dJ2_getChar_3b067_48 : decode cJ2_getChar_3b067 48 = .ok (.baload, 1) := by decide +kernel
theorem dJ2_getChar_3b067_49 : decode cJ2_getChar_3b067 49 = .ok (.sipush 255, 3) := by decide +kernel
theorem dJ2_getChar_3b067_52 : decode cJ2_getChar_3b067 52 = .ok (.iand, 1) := by decide +kernel
theorem dJ2_getChar_3b067_53 : decode cJ2_getChar_3b067 53 = .ok (.getstatic 63, 3) := by decide +kernel
theorem dJ2_getChar_3b067_56 : decode cJ2_getChar_3b067 56 = .ok (.ishl, 1) := by decide +kernel
theorem dJ2_getChar_3b067_57 : decode cJ2_getChar_3b067 57 = .ok (.ior, 1) := by decide +kernel
theorem dJ2_getChar_3b067_58 : decode cJ2_getChar_3b067 58 = .ok (.i2c, 1) := by decide +kernel
theorem dJ2_getChar_3b067_59 : decode cJ2_getChar_3b067 59 = .ok (.ireturn, 1) := by decide +kernel
theorem dJ2_length_9d52b_0 : decode cJ2_length_9d52b 0 = .ok (.aload_n 0, 1) := by decide +kernel
theorem dJ2_length_9d52b_1 : decode cJ2_length_9d52b 1 = .ok (.arraylength, 1) := by decide +kernel
theorem dJ2_length_9d52b_2 : decode cJ2_length_9d52b 2 = .ok (.iconst 1, 1) := by decide +kernel
theorem dJ2_length_9d52b_3 : decode cJ2_length_9d52b 3 = .ok (.ishr, 1) := by decide +kernel
theorem dJ2_length_9d52b_4 : decode cJ2_length_9d52b 4 = .ok (.ireturn, 1) := by decide +kernel
set_option maxRecDepth 20000 in
theorem ggJ2_charAt_3b067_J2_checkIndex_2214a : GoodIn wsJ2_charAt_3b067 wsJ2_checkIndex_2214a := goodIn_r _ [4, 5, 6, 3, 7, 8, 9, 10, 11, 12, 13, 14, 15, 16] (by decide +kernel) (by decide +kernel)
set_option maxRecDepth 20000 in
theorem gJ2_charAt_3b067_J2_checkIndex_2214a : GoodIn wsJ2_charAt_3b067 (va_wsS RJ2 67 yJ2_checkIndex_2214a wsJ2_checkIndex_2214a) := goodIn_app (goodIn_of _ (by decide +kernel)) ggJ2_charAt_3b067_J2_checkIndex_2214a
set_option maxRecDepth 20000 in
theorem ggJ2_charAt_3b067_J2_getChar_3b067 : GoodIn wsJ2_charAt_3b067 wsJ2_getChar_3b067 := goodIn_r _ [19, 20, 21, 22, 5, 6, 3, 7] (by decide +kernel) (by decide +kernel)
set_option maxRecDepth 20000 in
theorem gJ2_charAt_3b067_J2_getChar_3b067 : GoodIn wsJ2_charAt_3b067 (va_wsS RJ2 71 yJ2_getChar_3b067 wsJ2_getChar_3b067) := goodIn_app (goodIn_of _ (by decide +kernel)) ggJ2_charAt_3b067_J2_getChar_3b067
theorem dJ2_charAt_3b067_0 : decode cJ2_charAt_3b067 0 = .ok (.iload_n 1, 1) := by decide +kernel
theorem dJ2_charAt_3b067_1 : decode cJ2_charAt_3b067 1 = .ok (.aload_n 0, 1) := by decide +kernel
theorem dJ2_charAt_3b067_2 : decode cJ2_charAt_3b067 2 = .ok (.invokestatic 67, 3) := by decide +kernel
theorem dJ2_charAt_3b067_5 : decode cJ2_charAt_3b067 5 = .ok (.aload_n 0, 1) := by decide +kernel
theorem dJ2_charAt_3b067_6 : decode cJ2_charAt_3b067 6 = .ok (.iload_n 1, 1) := by decide +kernel
theorem dJ2_charAt_3b067_7 : decode cJ2_charAt_3b067 7 = .ok (.invokestatic 71, 3) := by decide +kernel
theorem dJ2_charAt_3b067_10 : decode cJ2_charAt_3b067 10 = .ok (.ireturn, 1) := by decide +kernel
set_option maxRecDepth 20000 in
theorem ggJ2_checkIndex_2214a_J2_length_9d52b : GoodIn wsJ2_checkIndex_2214a wsJ2_length_9d52b := goodIn_r _ [4] (by decide +kernel) (by decide +kernel)
set_option maxRecDepth 20000 in
theorem gJ2_checkIndex_2214a_J2_length_9d52b : GoodIn wsJ2_checkIndex_2214a (va_wsS RJ2 48 yJ2_length_9d52b wsJ2_length_9d52b) := goodIn_app (goodIn_of _ (by decide +kernel)) ggJ2_checkIndex_2214a_J2_length_9d52b
set_option maxRecDepth 20000 in
theorem ggJ2_checkIndex_2214a_J0_checkIndex_df160 : GoodIn wsJ2_checkIndex_2214a wsJ0_checkIndex_df160 := goodIn_r _ [8, 9, 10, 11, 12, 13] (by decide +kernel) (by decide +kernel)
set_option maxRecDepth 20000 in
theorem gJ2_checkIndex_2214a_J0_checkIndex_df160 : GoodIn wsJ2_checkIndex_2214a (va_wsS RJ2 414 yJ0_checkIndex_df160 wsJ0_checkIndex_df160) := goodIn_app (goodIn_of _ (by decide +kernel)) ggJ2_checkIndex_2214a_J0_checkIndex_df160
theorem dJ2_checkIndex_2214a_0 : decode cJ2_checkIndex_2214a 0 = .ok (.iload_n 0, 1) := by decide +kernel
theorem dJ2_checkIndex_2214a_1 : decode cJ2_checkIndex_2214a 1 = .ok (.aload_n 1, 1) := by decide +kernel
theorem dJ2_checkIndex_2214a_2 : decode cJ2_checkIndex_2214a 2 = .ok (.invokestatic 48, 3) := by decide +kernel
theorem dJ2_checkIndex_2214a_5 : decode cJ2_checkIndex_2214a 5 = .ok (.invokestatic 414, 3) := by decide +kernel
theorem dJ2_checkIndex_2214a_8 : decode cJ2_checkIndex_2214a 8 = .ok (.return_, 1) := by decide +kernel
theorem dJ3_checkIndex_8e157_0 : decode cJ3_checkIndex_8e157 0 = .ok (.iload_n 0, 1) := by decide +kernel
theorem dJ3_checkIndex_8e157_1 : decode cJ3_checkIndex_8e157 1 = .ok (.ifCond .lt 8, 3) := by decide +kernel
theorem dJ3_checkIndex_8e157_4 : decode cJ3_checkIndex_8e157 4 = .ok (.iload_n 0, 1) := by decide +kernel
theorem dJ3_checkIndex_8e157_5 : decode cJ3_checkIndex_8e157 5 = .ok (.iload_n 1, 1) := by decide +kernel
theorem dJ3_checkIndex_8e157_6 : decode cJ3_checkIndex_8e157 6 = .ok (.if_icmp .lt 10, 3) := by decide +kernel
theorem dJ3_checkIndex_8e157_9 : decode cJ3_checkIndex_8e157 9 = .ok (.aload_n 2, 1) := by decide +kernel
theorem dJ3_checkIndex_8e157_10 : decode cJ3_checkIndex_8e157 10 = .ok (.iload_n 0, 1) := by decide +kernel
theorem dJ3_checkIndex_8e157_11 : decode cJ3_checkIndex_8e157 11 = .ok (.iload_n 1, 1) := by decide +kernel
theorem dJ3_checkIndex_8e157_12 : decode cJ3_checkIndex_8e157 12 = .ok (.invokestatic 95, 3) := by decide +kernel
theorem dJ3_checkIndex_8e157_15 : decode cJ3_checkIndex_8e157 15 = .ok (.athrow, 1) := by decide +kernel
theorem dJ3_checkIndex_8e157_16 : decode cJ3_checkIndex_8e157 16 = .ok (.iload_n 0, 1) := by decide +kernel
theorem dJ3_checkIndex_8e157_17 : decode cJ3_checkIndex_8e157 17 = .ok (.ireturn, 1) := by decide +kernel

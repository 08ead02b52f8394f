theorem dX10_minimal_0 : decode cX10_minimal 0 = .ok (.iload_n 0, 1) := by decide +kernel
theorem dX10_minimal_1 : decode cX10_minimal 1 = .ok (.istore_n 1, 1) := by decide +kernel
theorem dX10_minimal_2 : decode cX10_minimal 2 = .ok (.iconst 0, 1) := by decide +kernel
theorem dX10_minimal_3 : decode cX10_minimal 3 = .ok (.istore_n 2, 1) := by decide +kernel
theorem dX10_minimal_4 : decode cX10_minimal 4 = .ok (.iload_n 2, 1) := by decide +kernel
theorem dX10_minimal_5 : decode cX10_minimal 5 = .ok (.bipush 16, 2) := by decide +kernel
theorem dX10_minimal_7 : decode cX10_minimal 7 = .ok (.if_icmp .ge 60, 3) := by decide +kernel
theorem dX10_minimal_10 : decode cX10_minimal 10 = .ok (.iconst 0, 1) := by decide +kernel
theorem dX10_minimal_11 : decode cX10_minimal 11 = .ok (.istore_n 3, 1) := by decide +kernel
theorem dX10_minimal_12 : decode cX10_minimal 12 = .ok (.iload_n 3, 1) := by decide +kernel
theorem dX10_minimal_13 : decode cX10_minimal 13 = .ok (.bipush 16, 2) := by decide +kernel
theorem dX10_minimal_15 : decode cX10_minimal 15 = .ok (.if_icmp .ge 46, 3) := by decide +kernel
theorem dX10_minimal_18 : decode cX10_minimal 18 = .ok (.iload_n 3, 1) := by decide +kernel
theorem dX10_minimal_19 : decode cX10_minimal 19 = .ok (.iload_n 2, 1) := by decide +kernel
theorem dX10_minimal_20 : decode cX10_minimal 20 = .ok (.if_icmp .eq 35, 3) := by decide +kernel
theorem dX10_minimal_23 : decode cX10_minimal 23 = .ok (.iload_n 0, 1) := by decide +kernel
theorem dX10_minimal_24 : decode cX10_minimal 24 = .ok (.iload_n 2, 1) := by decide +kernel
theorem dX10_minimal_25 : decode cX10_minimal 25 = .ok (.invokestatic 122, 3) := by decide +kernel
theorem dX10_minimal_28 : decode cX10_minimal 28 = .ok (.ifCond .eq 27, 3) := by decide +kernel
theorem dX10_minimal_31 : decode cX10_minimal 31 = .ok (.iload_n 0, 1) := by decide +kernel
theorem dX10_minimal_32 : decode cX10_minimal 32 = .ok (.iload_n 3, 1) := by decide +kernel
theorem dX10_minimal_33 : decode cX10_minimal 33 = .ok (.invokestatic 122, 3) := by decide +kernel
theorem dX10_minimal_36 : decode cX10_minimal 36 = .ok (.ifCond .eq 19, 3) := by decide +kernel
theorem dX10_minimal_39 : decode cX10_minimal 39 = .ok (.iload_n 3, 1) := by decide +kernel
theorem dX10_minimal_40 : decode cX10_minimal 40 = .ok (.iload_n 2, 1) := by decide +kernel
theorem dX10_minimal_41 : decode cX10_minimal 41 = .ok (.iconst (-1), 1) := by decide +kernel
theorem dX10_minimal_42 : decode cX10_minimal 42 = .ok (.ixor, 1) := by decide +kernel
theorem dX10_minimal_43 : decode cX10_minimal 43 = .ok (.iand, 1) := by decide +kernel
theorem dX10_minimal_44 : decode cX10_minimal 44 = .ok (.ifCond .ne 11, 3) := by decide +kernel
theorem dX10_minimal_47 : decode cX10_minimal 47 = .ok (.iload_n 1, 1) := by decide +kernel
theorem dX10_minimal_48 : decode cX10_minimal 48 = .ok (.iconst 1, 1) := by decide +kernel
theorem dX10_minimal_49 : decode cX10_minimal 49 = .ok (.iload_n 2, 1) := by decide +kernel
theorem dX10_minimal_50 : decode cX10_minimal 50 = .ok (.ishl, 1) := by decide +kernel
theorem dX10_minimal_51 : decode cX10_minimal 51 = .ok (.iconst (-1), 1) := by decide +kernel
theorem dX10_minimal_52 : decode cX10_minimal 52 = .ok (.ixor, 1) := by decide +kernel
theorem dX10_minimal_53 : decode cX10_minimal 53 = .ok (.iand, 1) := by decide +kernel
theorem dX10_minimal_54 : decode cX10_minimal 54 = .ok (.istore_n 1, 1) := by decide +kernel
theorem dX10_minimal_55 : decode cX10_minimal 55 = .ok (.iinc 3 1, 3) := by decide +kernel
theorem dX10_minimal_58 : decode cX10_minimal 58 = .ok (.goto (-46), 3) := by decide +kernel
theorem dX10_minimal_61 : decode cX10_minimal 61 = .ok (.iinc 2 1, 3) := by decide +kernel
theorem dX10_minimal_64 : decode cX10_minimal 64 = .ok (.goto (-60), 3) := by decide +kernel
theorem dX10_minimal_67 : decode cX10_minimal 67 = .ok (.iload_n 1, 1) := by decide +kernel
theorem dX10_minimal_68 : decode cX10_minimal 68 = .ok (.ireturn, 1) := by decide +kernel
set_option maxRecDepth 20000 in
theorem ggX10_unions_X10_has : GoodIn wsX10_unions wsX10_has := goodIn_r _ [4] (by decide +kernel) (by decide +kernel)
set_option maxRecDepth 20000 in
theorem gX10_unions_X10_has : GoodIn wsX10_unions (va_wsS RX10 122 yX10_has wsX10_has) := goodIn_app (goodIn_of _ (by decide +kernel)) ggX10_unions_X10_has
theorem dX10_unions_0 : decode cX10_unions 0 = .ok (.iconst 0, 1) := by decide +kernel
theorem dX10_unions_1 : decode cX10_unions 1 = .ok (.istore_n 2, 1) := by decide +kernel
theorem dX10_unions_2 : decode cX10_unions 2 = .ok (.iconst 0, 1) := by decide +kernel
theorem dX10_unions_3 : decode cX10_unions 3 = .ok (.istore_n 3, 1) := by decide +kernel
theorem dX10_unions_4 : decode cX10_unions 4 = .ok (.iload_n 3, 1) := by decide +kernel
theorem dX10_unions_5 : decode cX10_unions 5 = .ok (.bipush 16, 2) := by decide +kernel
theorem dX10_unions_7 : decode cX10_unions 7 = .ok (.if_icmp .ge 55, 3) := by decide +kernel
theorem dX10_unions_10 : decode cX10_unions 10 = .ok (.iconst 0, 1) := by decide +kernel
theorem dX10_unions_11 : decode cX10_unions 11 = .ok (.istore 4, 2) := by decide +kernel
theorem dX10_unions_13 : decode cX10_unions 13 = .ok (.iload 4, 2) := by decide +kernel
theorem dX10_unions_15 : decode cX10_unions 15 = .ok (.bipush 16, 2) := by decide +kernel
theorem dX10_unions_17 : decode cX10_unions 17 = .ok (.if_icmp .ge 39, 3) := by decide +kernel
theorem dX10_unions_20 : decode cX10_unions 20 = .ok (.iload_n 2, 1) := by decide +kernel
theorem dX10_unions_21 : decode cX10_unions 21 = .ok (.iload_n 0, 1) := by decide +kernel
theorem dX10_unions_22 : decode cX10_unions 22 = .ok (.iload_n 3, 1) := by decide +kernel
theorem dX10_unions_23 : decode cX10_unions 23 = .ok (.invokestatic 122, 3) := by decide +kernel
theorem dX10_unions_26 : decode cX10_unions 26 = .ok (.ifCond .eq 21, 3) := by decide +kernel
theorem dX10_unions_29 : decode cX10_unions 29 = .ok (.iload_n 1, 1) := by decide +kernel
theorem dX10_unions_30 : decode cX10_unions 30 = .ok (.iload 4, 2) := by decide +kernel
theorem dX10_unions_32 : decode cX10_unions 32 = .ok (.invokestatic 122, 3) := by decide +kernel
theorem dX10_unions_35 : decode cX10_unions 35 = .ok (.ifCond .eq 12, 3) := by decide +kernel
theorem dX10_unions_38 : decode cX10_unions 38 = .ok (.iconst 1, 1) := by decide +kernel
theorem dX10_unions_39 : decode cX10_unions 39 = .ok (.iload_n 3, 1) := by decide +kernel
theorem dX10_unions_40 : decode cX10_unions 40 = .ok (.iload 4, 2) := by decide +kernel
theorem dX10_unions_42 : decode cX10_unions 42 = .ok (.ior, 1) := by decide +kernel
theorem dX10_unions_43 : decode cX10_unions 43 = .ok (.ishl, 1) := by decide +kernel
theorem dX10_unions_44 : decode cX10_unions 44 = .ok (.goto 4, 3) := by decide +kernel
theorem dX10_unions_47 : decode cX10_unions 47 = .ok (.iconst 0, 1) := by decide +kernel
theorem dX10_unions_48 : decode cX10_unions 48 = .ok (.ior, 1) := by decide +kernel
theorem dX10_unions_49 : decode cX10_unions 49 = .ok (.istore_n 2, 1) := by decide +kernel
theorem dX10_unions_50 : decode cX10_unions 50 = .ok (.iinc 4 1, 3) := by decide +kernel
theorem dX10_unions_53 : decode cX10_unions 53 = .ok (.goto (-40), 3) := by decide +kernel
theorem dX10_unions_56 : decode cX10_unions 56 = .ok (.iinc 3 1, 3) := by decide +kernel
theorem dX10_unions_59 : decode cX10_unions 59 = .ok (.goto (-55), 3) := by decide +kernel
theorem dX10_unions_62 : decode cX10_unions 62 = .ok (.iload_n 2, 1) := by decide +kernel
theorem dX10_unions_63 : decode cX10_unions 63 = .ok (.ireturn, 1) := by decide +kernel
set_option maxRecDepth 20000 in
theorem ggX10_yields_X10_ofRule : GoodIn wsX10_yields wsX10_ofRule := goodIn_r _ [7, 1, 14, 15, 16, 17, 18, 19, 20, 21, 22, 23, 24, 25, 26, 27, 28, 29, 30] (by decide +kernel) (by decide +kernel)
set_option maxRecDepth 20000 in
theorem gX10_yields_X10_ofRule : GoodIn wsX10_yields (wsV RX10 112 RX10 yX10_ofRule wsX10_ofRule) := goodIn_app (goodIn_of _ (by decide +kernel)) ggX10_yields_X10_ofRule
set_option maxRecDepth 20000 in
theorem ggX10_yields_X10_has : GoodIn wsX10_yields wsX10_has := goodIn_r _ [10] (by decide +kernel) (by decide +kernel)
set_option maxRecDepth 20000 in
theorem gX10_yields_X10_has : GoodIn wsX10_yields (va_wsS RX10 122 yX10_has wsX10_has) := goodIn_app (goodIn_of _ (by decide +kernel)) ggX10_yields_X10_has
set_option maxRecDepth 20000 in
theorem ggX10_yields_X10_unions : GoodIn wsX10_yields wsX10_unions := goodIn_r _ [13, 8, 9, 6, 10] (by decide +kernel) (by decide +kernel)
set_option maxRecDepth 20000 in
theorem gX10_yields_X10_unions : GoodIn wsX10_yields (va_wsS RX10 126 yX10_unions wsX10_unions) := goodIn_app (goodIn_of _ (by decide +kernel)) ggX10_yields_X10_unions
theorem dX10_yields_0 : decode cX10_yields 0 = .ok (.aload_n 0, 1) := by decide +kernel
theorem dX10_yields_1 : decode cX10_yields 1 = .ok (.iload_n 1, 1) := by decide +kernel
theorem dX10_yields_2 : decode cX10_yields 2 = .ok (.iconst 2, 1) := by decide +kernel
theorem dX10_yields_3 : decode cX10_yields 3 = .ok (.invokevirtual 112, 3) := by decide +kernel
theorem dX10_yields_6 : decode cX10_yields 6 = .ok (.istore_n 2, 1) := by decide +kernel
theorem dX10_yields_7 : decode cX10_yields 7 = .ok (.aload_n 0, 1) := by decide +kernel
theorem dX10_yields_8 : decode cX10_yields 8 = .ok (.getfield 7, 3) := by decide +kernel
theorem dX10_yields_11 : decode cX10_yields 11 = .ok (.iconst 3, 1) := by decide +kernel
theorem dX10_yields_12 : decode cX10_yields 12 = .ok (.iaload, 1) := by decide +kernel
theorem dX10_yields_13 : decode cX10_yields 13 = .ok (.iload_n 2, 1) := by decide +kernel
theorem dX10_yields_14 : decode cX10_yields 14 = .ok (.invokestatic 122, 3) := by decide +kernel
theorem dX10_yields_17 : decode cX10_yields 17 = .ok (.ifCond .eq 5, 3) := by decide +kernel
theorem dX10_yields_20 : decode cX10_yields 20 = .ok (.iconst 1, 1) := by decide +kernel
theorem dX10_yields_21 : decode cX10_yields 21 = .ok (.ireturn, 1) := by decide +kernel
theorem dX10_yields_22 : decode cX10_yields 22 = .ok (.aload_n 0, 1) := by decide +kernel
theorem dX10_yields_23 : decode cX10_yields 23 = .ok (.iload_n 1, 1) := by decide +kernel
theorem dX10_yields_24 : decode cX10_yields 24 = .ok (.iconst 3, 1) := by decide +kernel
theorem dX10_yields_25 : decode cX10_yields 25 = .ok (.invokevirtual 112, 3) := by decide +kernel
theorem dX10_yields_28 : decode cX10_yields 28 = .ok (.istore_n 3, 1) := by decide +kernel
theorem dX10_yields_29 : decode cX10_yields 29 = .ok (.aload_n 0, 1) := by decide +kernel
theorem dX10_yields_30 : decode cX10_yields 30 = .ok (.iload_n 1, 1) := by decide +kernel
theorem dX10_yields_31 : decode cX10_yields 31 = .ok (.iconst 4, 1) := by decide +kernel
theorem dX10_yields_32 : decode cX10_yields 32 = .ok (.invokevirtual 112, 3) := by decide +kernel
theorem dX10_yields_35 : decode cX10_yields 35 = .ok (.istore 4, 2) := by decide +kernel
theorem dX10_yields_37 : decode cX10_yields 37 = .ok (.iload_n 3, 1) := by decide +kernel
theorem dX10_yields_38 : decode cX10_yields 38 = .ok (.iconst (-1), 1) := by decide +kernel
theorem dX10_yields_39 : decode cX10_yields 39 = .ok (.if_icmp .ne 9, 3) := by decide +kernel
theorem dX10_yields_42 : decode cX10_yields 42 = .ok (.iconst 1, 1) := by decide +kernel
theorem dX10_yields_43 : decode cX10_yields 43 = .ok (.iconst 1, 1) := by decide +kernel
theorem dX10_yields_44 : decode cX10_yields 44 = .ok (.iload_n 2, 1) := by decide +kernel
theorem dX10_yields_45 : decode cX10_yields 45 = .ok (.ishl, 1) := by decide +kernel
theorem dX10_yields_46 : decode cX10_yields 46 = .ok (.ishl, 1) := by decide +kernel
theorem dX10_yields_47 : decode cX10_yields 47 = .ok (.ireturn, 1) := by decide +kernel
theorem dX10_yields_48 : decode cX10_yields 48 = .ok (.aload_n 0, 1) := by decide +kernel
theorem dX10_yields_49 : decode cX10_yields 49 = .ok (.getfield 22, 3) := by decide +kernel
theorem dX10_yields_52 : decode cX10_yields 52 = .ok (.iconst 3, 1) := by decide +kernel
theorem dX10_yields_53 : decode cX10_yields 53 = .ok (.iload_n 2, 1) := by decide +kernel
theorem dX10_yields_54 : decode cX10_yields 54 = .ok (.imul, 1) := by decide +kernel
theorem dX10_yields_55 : decode cX10_yields 55 = .ok (.iload_n 3, 1) := by decide +kernel
theorem dX10_yields_56 : decode cX10_yields 56 = .ok (.iadd, 1) := by decide +kernel
theorem dX10_yields_57 : decode cX10_yields 57 = .ok (.iaload, 1) := by decide +kernel
theorem dX10_yields_58 : decode cX10_yields 58 = .ok (.istore 5, 2) := by decide +kernel
theorem dX10_yields_60 : decode cX10_yields 60 = .ok (.iload 4, 2) := by decide +kernel
theorem dX10_yields_62 : decode cX10_yields 62 = .ok (.iconst (-1), 1) := by decide +kernel
theorem dX10_yields_63 : decode cX10_yields 63 = .ok (.if_icmp .ne 6, 3) := by decide +kernel
theorem dX10_yields_66 : decode cX10_yields 66 = .ok (.iload 5, 2) := by decide +kernel
theorem dX10_yields_68 : decode cX10_yields 68 = .ok (.ireturn, 1) := by decide +kernel
theorem dX10_yields_69 : decode cX10_yields 69 = .ok (.iconst 0, 1) := by decide +kernel
theorem dX10_yields_70 : decode cX10_yields 70 = .ok (.istore 6, 2) := by decide +kernel
theorem dX10_yields_72 : decode cX10_yields 72 = .ok (.iconst 0, 1) := by decide +kernel
theorem dX10_yields_73 : decode cX10_yields 73 = .ok (.istore 7, 2) := by decide +kernel
theorem dX10_yields_75 : decode cX10_yields 75 = .ok (.iload 7, 2) := by decide +kernel
theorem dX10_yields_77 : decode cX10_yields 77 = .ok (.bipush 16, 2) := by decide +kernel
theorem dX10_yields_79 : decode cX10_yields 79 = .ok (.if_icmp .ge 87, 3) := by decide +kernel
theorem dX10_yields_82 : decode cX10_yields 82 = .ok (.iload 5, 2) := by decide +kernel
theorem dX10_yields_84 : decode cX10_yields 84 = .ok (.iload 7, 2) := by decide +kernel
theorem dX10_yields_86 : decode cX10_yields 86 = .ok (.invokestatic 122, 3) := by decide +kernel
theorem dX10_yields_89 : decode cX10_yields 89 = .ok (.ifCond .eq 7, 3) := by decide +kernel
theorem dX10_yields_92 : decode cX10_yields 92 = .ok (.iconst 1, 1) := by decide +kernel
theorem dX10_yields_93 : decode cX10_yields 93 = .ok (.goto 4, 3) := by decide +kernel
theorem dX10_yields_96 : decode cX10_yields 96 = .ok (.iconst 0, 1) := by decide +kernel
theorem dX10_yields_97 : decode cX10_yields 97 = .ok (.istore 8, 2) := by decide +kernel
theorem dX10_yields_99 : decode cX10_yields 99 = .ok (.iconst 0, 1) := by decide +kernel
theorem dX10_yields_100 : decode cX10_yields 100 = .ok (.istore 9, 2) := by decide +kernel
theorem dX10_yields_102 : decode cX10_yields 102 = .ok (.iload 9, 2) := by decide +kernel
theorem dX10_yields_104 : decode cX10_yields 104 = .ok (.iconst 4, 1) := by decide +kernel
theorem dX10_yields_105 : decode cX10_yields 105 = .ok (.if_icmp .ge 48, 3) := by decide +kernel
theorem dX10_yields_108 : decode cX10_yields 108 = .ok (.iload 8, 2) := by decide +kernel
theorem dX10_yields_110 : decode cX10_yields 110 = .ok (.ifCond .eq 43, 3) := by decide +kernel
theorem dX10_yields_113 : decode cX10_yields 113 = .ok (.iload 7, 2) := by decide +kernel
theorem dX10_yields_115 : decode cX10_yields 115 = .ok (.iload 9, 2) := by decide +kernel
theorem dX10_yields_117 : decode cX10_yields 117 = .ok (.invokestatic 122, 3) := by decide +kernel
theorem dX10_yields_120 : decode cX10_yields 120 = .ok (.ifCond .eq 23, 3) := by decide +kernel
theorem dX10_yields_123 : decode cX10_yields 123 = .ok (.iload 8, 2) := by decide +kernel
theorem dX10_yields_125 : decode cX10_yields 125 = .ok (.aload_n 0, 1) := by decide +kernel
theorem dX10_yields_126 : decode cX10_yields 126 = .ok (.getfield 22, 3) := by decide +kernel
theorem dX10_yields_129 : decode cX10_yields 129 = .ok (.iconst 3, 1) := by decide +kernel
theorem dX10_yields_130 : decode cX10_yields 130 = .ok (.iload 9, 2) := by decide +kernel
theorem dX10_yields_132 : decode cX10_yields 132 = .ok (.imul, 1) := by decide +kernel
theorem dX10_yields_133 : decode cX10_yields 133 = .ok (.iload 4, 2) := by decide +kernel
theorem dX10_yields_135 : decode cX10_yields 135 = .ok (.iadd, 1) := by decide +kernel
theorem dX10_yields_136 : decode cX10_yields 136 = .ok (.iaload, 1) := by decide +kernel
theorem dX10_yields_137 : decode cX10_yields 137 = .ok (.invokestatic 126, 3) := by decide +kernel
theorem dX10_yields_140 : decode cX10_yields 140 = .ok (.goto 5, 3) := by decide +kernel
theorem dX10_yields_143 : decode cX10_yields 143 = .ok (.iload 8, 2) := by decide +kernel
theorem dX10_yields_145 : decode cX10_yields 145 = .ok (.istore 8, 2) := by decide +kernel
theorem dX10_yields_147 : decode cX10_yields 147 = .ok (.iinc 9 1, 3) := by decide +kernel
theorem dX10_yields_150 : decode cX10_yields 150 = .ok (.goto (-48), 3) := by decide +kernel
theorem dX10_yields_153 : decode cX10_yields 153 = .ok (.iload 6, 2) := by decide +kernel
theorem dX10_yields_155 : decode cX10_yields 155 = .ok (.iload 8, 2) := by decide +kernel
theorem dX10_yields_157 : decode cX10_yields 157 = .ok (.ior, 1) := by decide +kernel
theorem dX10_yields_158 : decode cX10_yields 158 = .ok (.istore 6, 2) := by decide +kernel
theorem dX10_yields_160 : decode cX10_yields 160 = .ok (.iinc 7 1, 3) := by decide +kernel
theorem dX10_yields_163 : decode cX10_yields 163 = .ok (.goto (-88), 3) := by decide +kernel
theorem dX10_yields_166 : decode cX10_yields 166 = .ok (.iload 6, 2) := by decide +kernel
theorem dX10_yields_168 : decode cX10_yields 168 = .ok (.ireturn, 1) := by decide +kernel
set_option maxRecDepth 20000 in
theorem ggX10_familyThen_X10_has : GoodIn wsX10_familyThen wsX10_has := goodIn_r _ [5] (by decide +kernel) (by decide +kernel)
set_option maxRecDepth 20000 in
theorem gX10_familyThen_X10_has : GoodIn wsX10_familyThen (va_wsS RX10 122 yX10_has wsX10_has) := goodIn_app (goodIn_of _ (by decide +kernel)) ggX10_familyThen_X10_has
set_option maxRecDepth 20000 in
theorem ggX10_familyThen_X10_ofRule : GoodIn wsX10_familyThen wsX10_ofRule := goodIn_r _ [9, 1, 21, 22, 23, 24, 25, 26, 27, 28, 29, 30, 31, 32, 33, 34, 35, 36, 37] (by decide +kernel) (by decide +kernel)
set_option maxRecDepth 20000 in
theorem gX10_familyThen_X10_ofRule : GoodIn wsX10_familyThen (wsV RX10 112 RX10 yX10_ofRule wsX10_ofRule) := goodIn_app (goodIn_of _ (by decide +kernel)) ggX10_familyThen_X10_ofRule
set_option maxRecDepth 20000 in
theorem ggX10_familyThen_X10_yields : GoodIn wsX10_familyThen wsX10_yields := goodIn_r _ [13, 1, 14, 6, 7, 8, 4, 9, 2, 3, 5, 15, 16, 17, 21, 22, 23, 24, 25, 26, 27, 28, 29, 30, 31, 32, 33, 34, 35, 36, 37] (by decide +kernel) (by decide +kernel)
set_option maxRecDepth 20000 in
theorem gX10_familyThen_X10_yields : GoodIn wsX10_familyThen (wsV RX10 129 RX10 yX10_yields wsX10_yields) := goodIn_app (goodIn_of _ (by decide +kernel)) ggX10_familyThen_X10_yields
set_option maxRecDepth 20000 in
theorem ggX10_familyThen_X10_unions : GoodIn wsX10_familyThen wsX10_unions := goodIn_r _ [17, 2, 3, 4, 5] (by decide +kernel) (by decide +kernel)
set_option maxRecDepth 20000 in
theorem gX10_familyThen_X10_unions : GoodIn wsX10_familyThen (va_wsS RX10 126 yX10_unions wsX10_unions) := goodIn_app (goodIn_of _ (by decide +kernel)) ggX10_familyThen_X10_unions
set_option maxRecDepth 20000 in
theorem ggX10_familyThen_X10_minimal : GoodIn wsX10_familyThen wsX10_minimal := goodIn_r _ [20, 2, 3, 4, 5] (by decide +kernel) (by decide +kernel)
set_option maxRecDepth 20000 in
theorem gX10_familyThen_X10_minimal : GoodIn wsX10_familyThen (va_wsS RX10 132 yX10_minimal wsX10_minimal) := goodIn_app (goodIn_of _ (by decide +kernel)) ggX10_familyThen_X10_minimal
theorem dX10_familyThen_0 : decode cX10_familyThen 0 = .ok (.aload_n 0, 1) := by decide +kernel
theorem dX10_familyThen_1 : decode cX10_familyThen 1 = .ok (.getfield 7, 3) := by decide +kernel
theorem dX10_familyThen_4 : decode cX10_familyThen 4 = .ok (.iconst 3, 1) := by decide +kernel
theorem dX10_familyThen_5 : decode cX10_familyThen 5 = .ok (.iaload, 1) := by decide +kernel
theorem dX10_familyThen_6 : decode cX10_familyThen 6 = .ok (.iload_n 1, 1) := by decide +kernel
theorem dX10_familyThen_7 : decode cX10_familyThen 7 = .ok (.invokestatic 122, 3) := by decide +kernel
theorem dX10_familyThen_10 : decode cX10_familyThen 10 = .ok (.ifCond .eq 5, 3) := by decide +kernel
theorem dX10_familyThen_13 : decode cX10_familyThen 13 = .ok (.iconst 1, 1) := by decide +kernel
theorem dX10_familyThen_14 : decode cX10_familyThen 14 = .ok (.ireturn, 1) := by decide +kernel
theorem dX10_familyThen_15 : decode cX10_familyThen 15 = .ok (.aload_n 0, 1) := by decide +kernel
theorem dX10_familyThen_16 : decode cX10_familyThen 16 = .ok (.getfield 7, 3) := by decide +kernel
theorem dX10_familyThen_19 : decode cX10_familyThen 19 = .ok (.iconst 2, 1) := by decide +kernel
theorem dX10_familyThen_20 : decode cX10_familyThen 20 = .ok (.iaload, 1) := by decide +kernel
theorem dX10_familyThen_21 : decode cX10_familyThen 21 = .ok (.iload_n 1, 1) := by decide +kernel
theorem dX10_familyThen_22 : decode cX10_familyThen 22 = .ok (.invokestatic 122, 3) := by decide +kernel
theorem dX10_familyThen_25 : decode cX10_familyThen 25 = .ok (.istore_n 3, 1) := by decide +kernel
theorem dX10_familyThen_26 : decode cX10_familyThen 26 = .ok (.iconst 0, 1) := by decide +kernel
theorem dX10_familyThen_27 : decode cX10_familyThen 27 = .ok (.istore 4, 2) := by decide +kernel
theorem dX10_familyThen_29 : decode cX10_familyThen 29 = .ok (.iconst 0, 1) := by decide +kernel
theorem dX10_familyThen_30 : decode cX10_familyThen 30 = .ok (.istore 5, 2) := by decide +kernel
theorem dX10_familyThen_32 : decode cX10_familyThen 32 = .ok (.iconst 0, 1) := by decide +kernel
theorem dX10_familyThen_33 : decode cX10_familyThen 33 = .ok (.istore 6, 2) := by decide +kernel
theorem dX10_familyThen_35 : decode cX10_familyThen 35 = .ok (.iload 6, 2) := by decide +kernel
theorem dX10_familyThen_37 : decode cX10_familyThen 37 = .ok (.aload_n 0, 1) := by decide +kernel
theorem dX10_familyThen_38 : decode cX10_familyThen 38 = .ok (.getfield 7, 3) := by decide +kernel
theorem dX10_familyThen_41 : decode cX10_familyThen 41 = .ok (.iconst 4, 1) := by decide +kernel
theorem dX10_familyThen_42 : decode cX10_familyThen 42 = .ok (.iaload, 1) := by decide +kernel
theorem dX10_familyThen_43 : decode cX10_familyThen 43 = .ok (.if_icmp .ge 73, 3) := by decide +kernel
theorem dX10_familyThen_46 : decode cX10_familyThen 46 = .ok (.aload_n 0, 1) := by decide +kernel
theorem dX10_familyThen_47 : decode cX10_familyThen 47 = .ok (.iload 6, 2) := by decide +kernel
theorem dX10_familyThen_49 : decode cX10_familyThen 49 = .ok (.iconst 0, 1) := by decide +kernel
theorem dX10_familyThen_50 : decode cX10_familyThen 50 = .ok (.invokevirtual 112, 3) := by decide +kernel
theorem dX10_familyThen_53 : decode cX10_familyThen 53 = .ok (.iload_n 1, 1) := by decide +kernel
theorem dX10_familyThen_54 : decode cX10_familyThen 54 = .ok (.if_icmp .ne 56, 3) := by decide +kernel
theorem dX10_familyThen_57 : decode cX10_familyThen 57 = .ok (.aload_n 0, 1) := by decide +kernel
theorem dX10_familyThen_58 : decode cX10_familyThen 58 = .ok (.iload 6, 2) := by decide +kernel
theorem dX10_familyThen_60 : decode cX10_familyThen 60 = .ok (.iconst 1, 1) := by decide +kernel
theorem dX10_familyThen_61 : decode cX10_familyThen 61 = .ok (.invokevirtual 112, 3) := by decide +kernel
theorem dX10_familyThen_64 : decode cX10_familyThen 64 = .ok (.iload_n 2, 1) := by decide +kernel
theorem dX10_familyThen_65 : decode cX10_familyThen 65 = .ok (.if_icmp .ne 45, 3) := by decide +kernel
theorem dX10_familyThen_68 : decode cX10_familyThen 68 = .ok (.aload_n 0, 1) := by decide +kernel
theorem dX10_familyThen_69 : decode cX10_familyThen 69 = .ok (.iload 6, 2) := by decide +kernel
theorem dX10_familyThen_71 : decode cX10_familyThen 71 = .ok (.invokevirtual 129, 3) := by decide +kernel
theorem dX10_familyThen_74 : decode cX10_familyThen 74 = .ok (.istore 7, 2) := by decide +kernel
theorem dX10_familyThen_76 : decode cX10_familyThen 76 = .ok (.iload 5, 2) := by decide +kernel
theorem dX10_familyThen_78 : decode cX10_familyThen 78 = .ok (.ifCond .ne 8, 3) := by decide +kernel
theorem dX10_familyThen_81 : decode cX10_familyThen 81 = .ok (.iload 7, 2) := by decide +kernel
theorem dX10_familyThen_83 : decode cX10_familyThen 83 = .ok (.goto 22, 3) := by decide +kernel
theorem dX10_familyThen_86 : decode cX10_familyThen 86 = .ok (.iload_n 3, 1) := by decide +kernel
theorem dX10_familyThen_87 : decode cX10_familyThen 87 = .ok (.ifCond .eq 13, 3) := by decide +kernel
theorem dX10_familyThen_90 : decode cX10_familyThen 90 = .ok (.iload 4, 2) := by decide +kernel
theorem dX10_familyThen_92 : decode cX10_familyThen 92 = .ok (.iload 7, 2) := by decide +kernel
theorem dX10_familyThen_94 : decode cX10_familyThen 94 = .ok (.invokestatic 126, 3) := by decide +kernel
theorem dX10_familyThen_97 : decode cX10_familyThen 97 = .ok (.goto 8, 3) := by decide +kernel
theorem dX10_familyThen_100 : decode cX10_familyThen 100 = .ok (.iload 4, 2) := by decide +kernel
theorem dX10_familyThen_102 : decode cX10_familyThen 102 = .ok (.iload 7, 2) := by decide +kernel
theorem dX10_familyThen_104 : decode cX10_familyThen 104 = .ok (.ior, 1) := by decide +kernel
theorem dX10_familyThen_105 : decode cX10_familyThen 105 = .ok (.istore 4, 2) := by decide +kernel
theorem dX10_familyThen_107 : decode cX10_familyThen 107 = .ok (.iconst 1, 1) := by decide +kernel
theorem dX10_familyThen_108 : decode cX10_familyThen 108 = .ok (.istore 5, 2) := by decide +kernel
theorem dX10_familyThen_110 : decode cX10_familyThen 110 = .ok (.iinc 6 1, 3) := by decide +kernel
theorem dX10_familyThen_113 : decode cX10_familyThen 113 = .ok (.goto (-78), 3) := by decide +kernel
theorem dX10_familyThen_116 : decode cX10_familyThen 116 = .ok (.iload 4, 2) := by decide +kernel
theorem dX10_familyThen_118 : decode cX10_familyThen 118 = .ok (.invokestatic 132, 3) := by decide +kernel
theorem dX10_familyThen_121 : decode cX10_familyThen 121 = .ok (.ireturn, 1) := by decide +kernel
set_option maxRecDepth 20000 in
theorem ggX10_beginRounds_X10_has : GoodIn wsX10_beginRounds wsX10_has := goodIn_r _ [7] (by decide +kernel) (by decide +kernel)
set_option maxRecDepth 20000 in
theorem gX10_beginRounds_X10_has : GoodIn wsX10_beginRounds (va_wsS RX10 122 yX10_has wsX10_has) := goodIn_app (goodIn_of _ (by decide +kernel)) ggX10_beginRounds_X10_has
theorem dX10_beginRounds_0 : decode cX10_beginRounds 0 = .ok (.aload_n 0, 1) := by decide +kernel
theorem dX10_beginRounds_1 : decode cX10_beginRounds 1 = .ok (.iconst 0, 1) := by decide +kernel
theorem dX10_beginRounds_2 : decode cX10_beginRounds 2 = .ok (.putfield 135, 3) := by decide +kernel
theorem dX10_beginRounds_5 : decode cX10_beginRounds 5 = .ok (.iconst 0, 1) := by decide +kernel
theorem dX10_beginRounds_6 : decode cX10_beginRounds 6 = .ok (.istore_n 1, 1) := by decide +kernel
theorem dX10_beginRounds_7 : decode cX10_beginRounds 7 = .ok (.iload_n 1, 1) := by decide +kernel
theorem dX10_beginRounds_8 : decode cX10_beginRounds 8 = .ok (.bipush 12, 2) := by decide +kernel
theorem dX10_beginRounds_10 : decode cX10_beginRounds 10 = .ok (.if_icmp .ge 47, 3) := by decide +kernel
theorem dX10_beginRounds_13 : decode cX10_beginRounds 13 = .ok (.aload_n 0, 1) := by decide +kernel
theorem dX10_beginRounds_14 : decode cX10_beginRounds 14 = .ok (.getfield 22, 3) := by decide +kernel
theorem dX10_beginRounds_17 : decode cX10_beginRounds 17 = .ok (.iload_n 1, 1) := by decide +kernel
theorem dX10_beginRounds_18 : decode cX10_beginRounds 18 = .ok (.aload_n 0, 1) := by decide +kernel
theorem dX10_beginRounds_19 : decode cX10_beginRounds 19 = .ok (.getfield 7, 3) := by decide +kernel
theorem dX10_beginRounds_22 : decode cX10_beginRounds 22 = .ok (.iconst 3, 1) := by decide +kernel
theorem dX10_beginRounds_23 : decode cX10_beginRounds 23 = .ok (.iaload, 1) := by decide +kernel
theorem dX10_beginRounds_24 : decode cX10_beginRounds 24 = .ok (.iload_n 1, 1) := by decide +kernel
theorem dX10_beginRounds_25 : decode cX10_beginRounds 25 = .ok (.iconst 3, 1) := by decide +kernel
theorem dX10_beginRounds_26 : decode cX10_beginRounds 26 = .ok (.idiv, 1) := by decide +kernel
theorem dX10_beginRounds_27 : decode cX10_beginRounds 27 = .ok (.invokestatic 122, 3) := by decide +kernel
theorem dX10_beginRounds_30 : decode cX10_beginRounds 30 = .ok (.ifCond .eq 19, 3) := by decide +kernel
theorem dX10_beginRounds_33 : decode cX10_beginRounds 33 = .ok (.iload_n 1, 1) := by decide +kernel
theorem dX10_beginRounds_34 : decode cX10_beginRounds 34 = .ok (.iconst 3, 1) := by decide +kernel
theorem dX10_beginRounds_35 : decode cX10_beginRounds 35 = .ok (.idiv, 1) := by decide +kernel
theorem dX10_beginRounds_36 : decode cX10_beginRounds 36 = .ok (.aload_n 0, 1) := by decide +kernel
theorem dX10_beginRounds_37 : decode cX10_beginRounds 37 = .ok (.getfield 7, 3) := by decide +kernel
theorem dX10_beginRounds_40 : decode cX10_beginRounds 40 = .ok (.iconst 0, 1) := by decide +kernel
theorem dX10_beginRounds_41 : decode cX10_beginRounds 41 = .ok (.iaload, 1) := by decide +kernel
theorem dX10_beginRounds_42 : decode cX10_beginRounds 42 = .ok (.if_icmp .ge 7, 3) := by decide +kernel
theorem dX10_beginRounds_45 : decode cX10_beginRounds 45 = .ok (.iconst 1, 1) := by decide +kernel
theorem dX10_beginRounds_46 : decode cX10_beginRounds 46 = .ok (.goto 4, 3) := by decide +kernel
theorem dX10_beginRounds_49 : decode cX10_beginRounds 49 = .ok (.iconst 0, 1) := by decide +kernel
theorem dX10_beginRounds_50 : decode cX10_beginRounds 50 = .ok (.iastore, 1) := by decide +kernel
theorem dX10_beginRounds_51 : decode cX10_beginRounds 51 = .ok (.iinc 1 1, 3) := by decide +kernel
theorem dX10_beginRounds_54 : decode cX10_beginRounds 54 = .ok (.goto (-47), 3) := by decide +kernel
theorem dX10_beginRounds_57 : decode cX10_beginRounds 57 = .ok (.return_, 1) := by decide +kernel
set_option maxRecDepth 20000 in
theorem ggX10_goesOn_X10_familyThen : GoodIn wsX10_goesOn wsX10_familyThen := goodIn_r _ [9, 1, 10, 11, 8, 12, 13, 14, 15, 16, 17, 18, 19, 20, 3, 21, 22, 23, 24, 25, 26, 27, 28, 29, 30, 31, 32, 33, 34, 35, 36, 37, 38, 39, 40, 41, 42, 43] (by decide +kernel) (by decide +kernel)
set_option maxRecDepth 20000 in
theorem gX10_goesOn_X10_familyThen : GoodIn wsX10_goesOn (wsV RX10 138 RX10 yX10_familyThen wsX10_familyThen) := goodIn_app (goodIn_of _ (by decide +kernel)) ggX10_goesOn_X10_familyThen
theorem dX10_goesOn_0 : decode cX10_goesOn 0 = .ok (.iconst 0, 1) := by decide +kernel
theorem dX10_goesOn_1 : decode cX10_goesOn 1 = .ok (.istore_n 1, 1) := by decide +kernel
theorem dX10_goesOn_2 : decode cX10_goesOn 2 = .ok (.iconst 0, 1) := by decide +kernel
theorem dX10_goesOn_3 : decode cX10_goesOn 3 = .ok (.istore_n 2, 1) := by decide +kernel
theorem dX10_goesOn_4 : decode cX10_goesOn 4 = .ok (.iload_n 2, 1) := by decide +kernel
theorem dX10_goesOn_5 : decode cX10_goesOn 5 = .ok (.aload_n 0, 1) := by decide +kernel
theorem dX10_goesOn_6 : decode cX10_goesOn 6 = .ok (.getfield 7, 3) := by decide +kernel
theorem dX10_goesOn_9 : decode cX10_goesOn 9 = .ok (.iconst 0, 1) := by decide +kernel
theorem dX10_goesOn_10 : decode cX10_goesOn 10 = .ok (.iaload, 1) := by decide +kernel
theorem dX10_goesOn_11 : decode cX10_goesOn 11 = .ok (.if_icmp .ge 76, 3) := by decide +kernel
theorem dX10_goesOn_14 : decode cX10_goesOn 14 = .ok (.iconst 0, 1) := by decide +kernel
theorem dX10_goesOn_15 : decode cX10_goesOn 15 = .ok (.istore_n 3, 1) := by decide +kernel
theorem dX10_goesOn_16 : decode cX10_goesOn 16 = .ok (.iload_n 3, 1) := by decide +kernel
theorem dX10_goesOn_17 : decode cX10_goesOn 17 = .ok (.aload_n 0, 1) := by decide +kernel
theorem dX10_goesOn_18 : decode cX10_goesOn 18 = .ok (.getfield 7, 3) := by decide +kernel
theorem dX10_goesOn_21 : decode cX10_goesOn 21 = .ok (.iconst 1, 1) := by decide +kernel
theorem dX10_goesOn_22 : decode cX10_goesOn 22 = .ok (.iaload, 1) := by decide +kernel
theorem dX10_goesOn_23 : decode cX10_goesOn 23 = .ok (.if_icmp .ge 58, 3) := by decide +kernel
theorem dX10_goesOn_26 : decode cX10_goesOn 26 = .ok (.aload_n 0, 1) := by decide +kernel
theorem dX10_goesOn_27 : decode cX10_goesOn 27 = .ok (.getfield 25, 3) := by decide +kernel
theorem dX10_goesOn_30 : decode cX10_goesOn 30 = .ok (.iconst 3, 1) := by decide +kernel
theorem dX10_goesOn_31 : decode cX10_goesOn 31 = .ok (.iload_n 2, 1) := by decide +kernel
theorem dX10_goesOn_32 : decode cX10_goesOn 32 = .ok (.imul, 1) := by decide +kernel
theorem dX10_goesOn_33 : decode cX10_goesOn 33 = .ok (.iload_n 3, 1) := by decide +kernel
theorem dX10_goesOn_34 : decode cX10_goesOn 34 = .ok (.iadd, 1) := by decide +kernel
theorem dX10_goesOn_35 : decode cX10_goesOn 35 = .ok (.aload_n 0, 1) := by decide +kernel
theorem dX10_goesOn_36 : decode cX10_goesOn 36 = .ok (.iload_n 2, 1) := by decide +kernel
theorem dX10_goesOn_37 : decode cX10_goesOn 37 = .ok (.iload_n 3, 1) := by decide +kernel
theorem dX10_goesOn_38 : decode cX10_goesOn 38 = .ok (.invokevirtual 138, 3) := by decide +kernel
theorem dX10_goesOn_41 : decode cX10_goesOn 41 = .ok (.iastore, 1) := by decide +kernel
theorem dX10_goesOn_42 : decode cX10_goesOn 42 = .ok (.iload_n 1, 1) := by decide +kernel
theorem dX10_goesOn_43 : decode cX10_goesOn 43 = .ok (.ifCond .ne 26, 3) := by decide +kernel
theorem dX10_goesOn_46 : decode cX10_goesOn 46 = .ok (.aload_n 0, 1) := by decide +kernel
theorem dX10_goesOn_47 : decode cX10_goesOn 47 = .ok (.getfield 25, 3) := by decide +kernel
theorem dX10_goesOn_50 : decode cX10_goesOn 50 = .ok (.iconst 3, 1) := by decide +kernel
theorem dX10_goesOn_51 : decode cX10_goesOn 51 = .ok (.iload_n 2, 1) := by decide +kernel
theorem dX10_goesOn_52 : decode cX10_goesOn 52 = .ok (.imul, 1) := by decide +kernel
theorem dX10_goesOn_53 : decode cX10_goesOn 53 = .ok (.iload_n 3, 1) := by decide +kernel
theorem dX10_goesOn_54 : decode cX10_goesOn 54 = .ok (.iadd, 1) := by decide +kernel
theorem dX10_goesOn_55 : decode cX10_goesOn 55 = .ok (.iaload, 1) := by decide +kernel
theorem dX10_goesOn_56 : decode cX10_goesOn 56 = .ok (.aload_n 0, 1) := by decide +kernel
theorem dX10_goesOn_57 : decode cX10_goesOn 57 = .ok (.getfield 22, 3) := by decide +kernel
theorem dX10_goesOn_60 : decode cX10_goesOn 60 = .ok (.iconst 3, 1) := by decide +kernel
theorem dX10_goesOn_61 : decode cX10_goesOn 61 = .ok (.iload_n 2, 1) := by decide +kernel
theorem dX10_goesOn_62 : decode cX10_goesOn 62 = .ok (.imul, 1) := by decide +kernel
theorem dX10_goesOn_63 : decode cX10_goesOn 63 = .ok (.iload_n 3, 1) := by decide +kernel
theorem dX10_goesOn_64 : decode cX10_goesOn 64 = .ok (.iadd, 1) := by decide +kernel
theorem dX10_goesOn_65 : decode cX10_goesOn 65 = .ok (.iaload, 1) := by decide +kernel
theorem dX10_goesOn_66 : decode cX10_goesOn 66 = .ok (.if_icmp .eq 7, 3) := by decide +kernel
theorem dX10_goesOn_69 : decode cX10_goesOn 69 = .ok (.iconst 1, 1) := by decide +kernel
theorem dX10_goesOn_70 : decode cX10_goesOn 70 = .ok (.goto 4, 3) := by decide +kernel
theorem dX10_goesOn_73 : decode cX10_goesOn 73 = .ok (.iconst 0, 1) := by decide +kernel
theorem dX10_goesOn_74 : decode cX10_goesOn 74 = .ok (.istore_n 1, 1) := by decide +kernel
theorem dX10_goesOn_75 : decode cX10_goesOn 75 = .ok (.iinc 3 1, 3) := by decide +kernel
theorem dX10_goesOn_78 : decode cX10_goesOn 78 = .ok (.goto (-62), 3) := by decide +kernel
theorem dX10_goesOn_81 : decode cX10_goesOn 81 = .ok (.iinc 2 1, 3) := by decide +kernel
theorem dX10_goesOn_84 : decode cX10_goesOn 84 = .ok (.goto (-80), 3) := by decide +kernel
theorem dX10_goesOn_87 : decode cX10_goesOn 87 = .ok (.iconst 0, 1) := by decide +kernel
theorem dX10_goesOn_88 : decode cX10_goesOn 88 = .ok (.istore_n 2, 1) := by decide +kernel
theorem dX10_goesOn_89 : decode cX10_goesOn 89 = .ok (.iload_n 2, 1) := by decide +kernel
theorem dX10_goesOn_90 : decode cX10_goesOn 90 = .ok (.aload_n 0, 1) := by decide +kernel
theorem dX10_goesOn_91 : decode cX10_goesOn 91 = .ok (.getfield 7, 3) := by decide +kernel
theorem dX10_goesOn_94 : decode cX10_goesOn 94 = .ok (.iconst 0, 1) := by decide +kernel
theorem dX10_goesOn_95 : decode cX10_goesOn 95 = .ok (.iaload, 1) := by decide +kernel
theorem dX10_goesOn_96 : decode cX10_goesOn 96 = .ok (.if_icmp .ge 51, 3) := by decide +kernel
theorem dX10_goesOn_99 : decode cX10_goesOn 99 = .ok (.iload_n 1, 1) := by decide +kernel
theorem dX10_goesOn_100 : decode cX10_goesOn 100 = .ok (.ifCond .eq 47, 3) := by decide +kernel
theorem dX10_goesOn_103 : decode cX10_goesOn 103 = .ok (.iconst 0, 1) := by decide +kernel
theorem dX10_goesOn_104 : decode cX10_goesOn 104 = .ok (.istore_n 3, 1) := by decide +kernel
theorem dX10_goesOn_105 : decode cX10_goesOn 105 = .ok (.iload_n 3, 1) := by decide +kernel
theorem dX10_goesOn_106 : decode cX10_goesOn 106 = .ok (.aload_n 0, 1) := by decide +kernel
theorem dX10_goesOn_107 : decode cX10_goesOn 107 = .ok (.getfield 7, 3) := by decide +kernel
theorem dX10_goesOn_110 : decode cX10_goesOn 110 = .ok (.iconst 1, 1) := by decide +kernel
theorem dX10_goesOn_111 : decode cX10_goesOn 111 = .ok (.iaload, 1) := by decide +kernel
theorem dX10_goesOn_112 : decode cX10_goesOn 112 = .ok (.if_icmp .ge 29, 3) := by decide +kernel
theorem dX10_goesOn_115 : decode cX10_goesOn 115 = .ok (.aload_n 0, 1) := by decide +kernel
theorem dX10_goesOn_116 : decode cX10_goesOn 116 = .ok (.getfield 22, 3) := by decide +kernel
theorem dX10_goesOn_119 : decode cX10_goesOn 119 = .ok (.iconst 3, 1) := by decide +kernel
theorem dX10_goesOn_120 : decode cX10_goesOn 120 = .ok (.iload_n 2, 1) := by decide +kernel
theorem dX10_goesOn_121 : decode cX10_goesOn 121 = .ok (.imul, 1) := by decide +kernel
theorem dX10_goesOn_122 : decode cX10_goesOn 122 = .ok (.iload_n 3, 1) := by decide +kernel
theorem dX10_goesOn_123 : decode cX10_goesOn 123 = .ok (.iadd, 1) := by decide +kernel
theorem dX10_goesOn_124 : decode cX10_goesOn 124 = .ok (.aload_n 0, 1) := by decide +kernel
theorem dX10_goesOn_125 : decode cX10_goesOn 125 = .ok (.getfield 25, 3) := by decide +kernel
theorem dX10_goesOn_128 : decode cX10_goesOn 128 = .ok (.iconst 3, 1) := by decide +kernel
theorem dX10_goesOn_129 : decode cX10_goesOn 129 = .ok (.iload_n 2, 1) := by decide +kernel
theorem dX10_goesOn_130 : decode cX10_goesOn 130 = .ok (.imul, 1) := by decide +kernel
theorem dX10_goesOn_131 : decode cX10_goesOn 131 = .ok (.iload_n 3, 1) := by decide +kernel
theorem dX10_goesOn_132 : decode cX10_goesOn 132 = .ok (.iadd, 1) := by decide +kernel
theorem dX10_goesOn_133 : decode cX10_goesOn 133 = .ok (.iaload, 1) := by decide +kernel
theorem dX10_goesOn_134 : decode cX10_goesOn 134 = .ok (.iastore, 1) := by decide +kernel
theorem dX10_goesOn_135 : decode cX10_goesOn 135 = .ok (.iinc 3 1, 3) := by decide +kernel
theorem dX10_goesOn_138 : decode cX10_goesOn 138 = .ok (.goto (-33), 3) := by decide +kernel
theorem dX10_goesOn_141 : decode cX10_goesOn 141 = .ok (.iinc 2 1, 3) := by decide +kernel
theorem dX10_goesOn_144 : decode cX10_goesOn 144 = .ok (.goto (-55), 3) := by decide +kernel
theorem dX10_goesOn_147 : decode cX10_goesOn 147 = .ok (.aload_n 0, 1) := by decide +kernel
theorem dX10_goesOn_148 : decode cX10_goesOn 148 = .ok (.dup, 1) := by decide +kernel
theorem dX10_goesOn_149 : decode cX10_goesOn 149 = .ok (.getfield 135, 3) := by decide +kernel
theorem dX10_goesOn_152 : decode cX10_goesOn 152 = .ok (.iload_n 1, 1) := by decide +kernel
theorem dX10_goesOn_153 : decode cX10_goesOn 153 = .ok (.ifCond .eq 7, 3) := by decide +kernel
theorem dX10_goesOn_156 : decode cX10_goesOn 156 = .ok (.iconst 1, 1) := by decide +kernel
theorem dX10_goesOn_157 : decode cX10_goesOn 157 = .ok (.goto 4, 3) := by decide +kernel
theorem dX10_goesOn_160 : decode cX10_goesOn 160 = .ok (.iconst 0, 1) := by decide +kernel
theorem dX10_goesOn_161 : decode cX10_goesOn 161 = .ok (.iadd, 1) := by decide +kernel
theorem dX10_goesOn_162 : decode cX10_goesOn 162 = .ok (.putfield 135, 3) := by decide +kernel
theorem dX10_goesOn_165 : decode cX10_goesOn 165 = .ok (.iload_n 1, 1) := by decide +kernel
theorem dX10_goesOn_166 : decode cX10_goesOn 166 = .ok (.ireturn, 1) := by decide +kernel
set_option maxRecDepth 20000 in
theorem ggX10_allRounds_X10_beginRounds : GoodIn wsX10_allRounds wsX10_beginRounds := goodIn_r _ [5, 6, 7, 8, 9, 10, 4, 11, 35, 36, 37, 38, 39, 40, 41, 42, 43, 44, 45, 46, 47, 48, 49, 50, 51] (by decide +kernel) (by decide +kernel)
set_option maxRecDepth 20000 in
theorem gX10_allRounds_X10_beginRounds : GoodIn wsX10_allRounds (wsV RX10 141 RX10 yX10_beginRounds wsX10_beginRounds) := goodIn_app (goodIn_of _ (by decide +kernel)) ggX10_allRounds_X10_beginRounds
set_option maxRecDepth 20000 in
theorem ggX10_allRounds_X10_goesOn : GoodIn wsX10_allRounds wsX10_goesOn := goodIn_r _ [15, 8, 16, 7, 6, 17, 18, 19, 4, 20, 9, 10, 11, 21, 22, 23, 24, 25, 26, 27, 28, 29, 30, 31, 32, 33, 34, 35, 36, 37, 38, 39, 40, 41, 42, 43, 44, 45, 46, 47, 48, 49, 50, 51] (by decide +kernel) (by decide +kernel)
set_option maxRecDepth 20000 in
theorem gX10_allRounds_X10_goesOn : GoodIn wsX10_allRounds (wsV RX10 144 RX10 yX10_goesOn wsX10_goesOn) := goodIn_app (goodIn_of _ (by decide +kernel)) ggX10_allRounds_X10_goesOn
theorem dX10_allRounds_0 : decode cX10_allRounds 0 = .ok (.aload_n 0, 1) := by decide +kernel
theorem dX10_allRounds_1 : decode cX10_allRounds 1 = .ok (.invokevirtual 141, 3) := by decide +kernel
theorem dX10_allRounds_4 : decode cX10_allRounds 4 = .ok (.iconst 1, 1) := by decide +kernel
theorem dX10_allRounds_5 : decode cX10_allRounds 5 = .ok (.istore_n 1, 1) := by decide +kernel
theorem dX10_allRounds_6 : decode cX10_allRounds 6 = .ok (.iload_n 1, 1) := by decide +kernel
theorem dX10_allRounds_7 : decode cX10_allRounds 7 = .ok (.ifCond .eq 11, 3) := by decide +kernel
theorem dX10_allRounds_10 : decode cX10_allRounds 10 = .ok (.aload_n 0, 1) := by decide +kernel
theorem dX10_allRounds_11 : decode cX10_allRounds 11 = .ok (.invokevirtual 144, 3) := by decide +kernel
theorem dX10_allRounds_14 : decode cX10_allRounds 14 = .ok (.istore_n 1, 1) := by decide +kernel
theorem dX10_allRounds_15 : decode cX10_allRounds 15 = .ok (.goto (-9), 3) := by decide +kernel
theorem dX10_allRounds_18 : decode cX10_allRounds 18 = .ok (.return_, 1) := by decide +kernel
set_option maxRecDepth 20000 in
theorem ggX10_accepted_X10_has : GoodIn wsX10_accepted wsX10_has := goodIn_r _ [6] (by decide +kernel) (by decide +kernel)
set_option maxRecDepth 20000 in
theorem gX10_accepted_X10_has : GoodIn wsX10_accepted (va_wsS RX10 122 yX10_has wsX10_has) := goodIn_app (goodIn_of _ (by decide +kernel)) ggX10_accepted_X10_has
theorem dX10_accepted_0 : decode cX10_accepted 0 = .ok (.aload_n 0, 1) := by decide +kernel
theorem dX10_accepted_1 : decode cX10_accepted 1 = .ok (.getfield 7, 3) := by decide +kernel
theorem dX10_accepted_4 : decode cX10_accepted 4 = .ok (.iconst 3, 1) := by decide +kernel
theorem dX10_accepted_5 : decode cX10_accepted 5 = .ok (.iaload, 1) := by decide +kernel
theorem dX10_accepted_6 : decode cX10_accepted 6 = .ok (.istore_n 3, 1) := by decide +kernel
theorem dX10_accepted_7 : decode cX10_accepted 7 = .ok (.iconst 0, 1) := by decide +kernel
theorem dX10_accepted_8 : decode cX10_accepted 8 = .ok (.istore 4, 2) := by decide +kernel
theorem dX10_accepted_10 : decode cX10_accepted 10 = .ok (.iload 4, 2) := by decide +kernel
theorem dX10_accepted_12 : decode cX10_accepted 12 = .ok (.aload_n 0, 1) := by decide +kernel
theorem dX10_accepted_13 : decode cX10_accepted 13 = .ok (.getfield 7, 3) := by decide +kernel
theorem dX10_accepted_16 : decode cX10_accepted 16 = .ok (.iconst 0, 1) := by decide +kernel
theorem dX10_accepted_17 : decode cX10_accepted 17 = .ok (.iaload, 1) := by decide +kernel
theorem dX10_accepted_18 : decode cX10_accepted 18 = .ok (.if_icmp .ge 64, 3) := by decide +kernel
theorem dX10_accepted_21 : decode cX10_accepted 21 = .ok (.iconst 0, 1) := by decide +kernel
theorem dX10_accepted_22 : decode cX10_accepted 22 = .ok (.istore 5, 2) := by decide +kernel
theorem dX10_accepted_24 : decode cX10_accepted 24 = .ok (.iload 5, 2) := by decide +kernel
theorem dX10_accepted_26 : decode cX10_accepted 26 = .ok (.bipush 16, 2) := by decide +kernel
theorem dX10_accepted_28 : decode cX10_accepted 28 = .ok (.if_icmp .ge 48, 3) := by decide +kernel
theorem dX10_accepted_31 : decode cX10_accepted 31 = .ok (.iload_n 3, 1) := by decide +kernel
theorem dX10_accepted_32 : decode cX10_accepted 32 = .ok (.aload_n 0, 1) := by decide +kernel
theorem dX10_accepted_33 : decode cX10_accepted 33 = .ok (.getfield 22, 3) := by decide +kernel
theorem dX10_accepted_36 : decode cX10_accepted 36 = .ok (.iconst 3, 1) := by decide +kernel
theorem dX10_accepted_37 : decode cX10_accepted 37 = .ok (.iload 4, 2) := by decide +kernel
theorem dX10_accepted_39 : decode cX10_accepted 39 = .ok (.imul, 1) := by decide +kernel
theorem dX10_accepted_40 : decode cX10_accepted 40 = .ok (.iload_n 2, 1) := by decide +kernel
theorem dX10_accepted_41 : decode cX10_accepted 41 = .ok (.iadd, 1) := by decide +kernel
theorem dX10_accepted_42 : decode cX10_accepted 42 = .ok (.iaload, 1) := by decide +kernel
theorem dX10_accepted_43 : decode cX10_accepted 43 = .ok (.iload 5, 2) := by decide +kernel
theorem dX10_accepted_45 : decode cX10_accepted 45 = .ok (.invokestatic 122, 3) := by decide +kernel
theorem dX10_accepted_48 : decode cX10_accepted 48 = .ok (.ifCond .eq 19, 3) := by decide +kernel
theorem dX10_accepted_51 : decode cX10_accepted 51 = .ok (.iload 5, 2) := by decide +kernel
theorem dX10_accepted_53 : decode cX10_accepted 53 = .ok (.iload_n 1, 1) := by decide +kernel
theorem dX10_accepted_54 : decode cX10_accepted 54 = .ok (.iconst (-1), 1) := by decide +kernel
theorem dX10_accepted_55 : decode cX10_accepted 55 = .ok (.ixor, 1) := by decide +kernel
theorem dX10_accepted_56 : decode cX10_accepted 56 = .ok (.iand, 1) := by decide +kernel
theorem dX10_accepted_57 : decode cX10_accepted 57 = .ok (.ifCond .ne 10, 3) := by decide +kernel
theorem dX10_accepted_60 : decode cX10_accepted 60 = .ok (.iconst 1, 1) := by decide +kernel
theorem dX10_accepted_61 : decode cX10_accepted 61 = .ok (.iload 4, 2) := by decide +kernel
theorem dX10_accepted_63 : decode cX10_accepted 63 = .ok (.ishl, 1) := by decide +kernel
theorem dX10_accepted_64 : decode cX10_accepted 64 = .ok (.goto 4, 3) := by decide +kernel
theorem dX10_accepted_67 : decode cX10_accepted 67 = .ok (.iconst 0, 1) := by decide +kernel
theorem dX10_accepted_68 : decode cX10_accepted 68 = .ok (.ior, 1) := by decide +kernel
theorem dX10_accepted_69 : decode cX10_accepted 69 = .ok (.istore_n 3, 1) := by decide +kernel
theorem dX10_accepted_70 : decode cX10_accepted 70 = .ok (.iinc 5 1, 3) := by decide +kernel
theorem dX10_accepted_73 : decode cX10_accepted 73 = .ok (.goto (-49), 3) := by decide +kernel
theorem dX10_accepted_76 : decode cX10_accepted 76 = .ok (.iinc 4 1, 3) := by decide +kernel
theorem dX10_accepted_79 : decode cX10_accepted 79 = .ok (.goto (-69), 3) := by decide +kernel
theorem dX10_accepted_82 : decode cX10_accepted 82 = .ok (.iload_n 3, 1) := by decide +kernel
theorem dX10_accepted_83 : decode cX10_accepted 83 = .ok (.ireturn, 1) := by decide +kernel
set_option maxRecDepth 20000 in
theorem ggX10_isAccepted_X10_accepted : GoodIn wsX10_isAccepted wsX10_accepted := goodIn_r _ [6, 1, 7, 8, 9, 5, 10, 11, 12, 13, 14, 15, 16, 17, 18, 19, 20, 21, 22, 23, 24, 25, 26, 27] (by decide +kernel) (by decide +kernel)
set_option maxRecDepth 20000 in
theorem gX10_isAccepted_X10_accepted : GoodIn wsX10_isAccepted (wsV RX10 147 RX10 yX10_accepted wsX10_accepted) := goodIn_app (goodIn_of _ (by decide +kernel)) ggX10_isAccepted_X10_accepted
set_option maxRecDepth 20000 in
theorem ggX10_isAccepted_X10_has : GoodIn wsX10_isAccepted wsX10_has := goodIn_r _ [10] (by decide +kernel) (by decide +kernel)
set_option maxRecDepth 20000 in
theorem gX10_isAccepted_X10_has : GoodIn wsX10_isAccepted (va_wsS RX10 122 yX10_has wsX10_has) := goodIn_app (goodIn_of _ (by decide +kernel)) ggX10_isAccepted_X10_has
theorem dX10_isAccepted_0 : decode cX10_isAccepted 0 = .ok (.aload_n 0, 1) := by decide +kernel
theorem dX10_isAccepted_1 : decode cX10_isAccepted 1 = .ok (.getfield 7, 3) := by decide +kernel
theorem dX10_isAccepted_4 : decode cX10_isAccepted 4 = .ok (.iconst 3, 1) := by decide +kernel
theorem dX10_isAccepted_5 : decode cX10_isAccepted 5 = .ok (.iaload, 1) := by decide +kernel
theorem dX10_isAccepted_6 : decode cX10_isAccepted 6 = .ok (.istore_n 1, 1) := by decide +kernel
theorem dX10_isAccepted_7 : decode cX10_isAccepted 7 = .ok (.iconst 0, 1) := by decide +kernel
theorem dX10_isAccepted_8 : decode cX10_isAccepted 8 = .ok (.istore_n 2, 1) := by decide +kernel
theorem dX10_isAccepted_9 : decode cX10_isAccepted 9 = .ok (.iload_n 2, 1) := by decide +kernel
theorem dX10_isAccepted_10 : decode cX10_isAccepted 10 = .ok (.aload_n 0, 1) := by decide +kernel
theorem dX10_isAccepted_11 : decode cX10_isAccepted 11 = .ok (.getfield 7, 3) := by decide +kernel
theorem dX10_isAccepted_14 : decode cX10_isAccepted 14 = .ok (.bipush 86, 2) := by decide +kernel
theorem dX10_isAccepted_16 : decode cX10_isAccepted 16 = .ok (.iaload, 1) := by decide +kernel
theorem dX10_isAccepted_17 : decode cX10_isAccepted 17 = .ok (.if_icmp .ge 24, 3) := by decide +kernel
theorem dX10_isAccepted_20 : decode cX10_isAccepted 20 = .ok (.aload_n 0, 1) := by decide +kernel
theorem dX10_isAccepted_21 : decode cX10_isAccepted 21 = .ok (.iload_n 1, 1) := by decide +kernel
theorem dX10_isAccepted_22 : decode cX10_isAccepted 22 = .ok (.aload_n 0, 1) := by decide +kernel
theorem dX10_isAccepted_23 : decode cX10_isAccepted 23 = .ok (.getfield 7, 3) := by decide +kernel
theorem dX10_isAccepted_26 : decode cX10_isAccepted 26 = .ok (.bipush 87, 2) := by decide +kernel
theorem dX10_isAccepted_28 : decode cX10_isAccepted 28 = .ok (.iload_n 2, 1) := by decide +kernel
theorem dX10_isAccepted_29 : decode cX10_isAccepted 29 = .ok (.iadd, 1) := by decide +kernel
theorem dX10_isAccepted_30 : decode cX10_isAccepted 30 = .ok (.iaload, 1) := by decide +kernel
theorem dX10_isAccepted_31 : decode cX10_isAccepted 31 = .ok (.invokevirtual 147, 3) := by decide +kernel
theorem dX10_isAccepted_34 : decode cX10_isAccepted 34 = .ok (.istore_n 1, 1) := by decide +kernel
theorem dX10_isAccepted_35 : decode cX10_isAccepted 35 = .ok (.iinc 2 1, 3) := by decide +kernel
theorem dX10_isAccepted_38 : decode cX10_isAccepted 38 = .ok (.goto (-29), 3) := by decide +kernel
theorem dX10_isAccepted_41 : decode cX10_isAccepted 41 = .ok (.iload_n 1, 1) := by decide +kernel
theorem dX10_isAccepted_42 : decode cX10_isAccepted 42 = .ok (.aload_n 0, 1) := by decide +kernel
theorem dX10_isAccepted_43 : decode cX10_isAccepted 43 = .ok (.getfield 7, 3) := by decide +kernel
theorem dX10_isAccepted_46 : decode cX10_isAccepted 46 = .ok (.bipush 85, 2) := by decide +kernel
theorem dX10_isAccepted_48 : decode cX10_isAccepted 48 = .ok (.iaload, 1) := by decide +kernel
theorem dX10_isAccepted_49 : decode cX10_isAccepted 49 = .ok (.invokestatic 122, 3) := by decide +kernel
theorem dX10_isAccepted_52 : decode cX10_isAccepted 52 = .ok (.ireturn, 1) := by decide +kernel
set_option maxRecDepth 20000 in
theorem ggX10_winner_X10_allRounds : GoodIn wsX10_winner wsX10_allRounds := goodIn_r _ [5, 6, 7, 8, 4, 9, 10, 11, 12, 13, 14, 15, 16, 17, 18, 19, 20, 21, 22, 23, 24, 25, 26, 27, 28, 29, 30, 31, 32, 33, 34, 35, 36, 37, 38, 47, 48, 49, 50, 51, 52, 53, 54, 55, 56, 57, 58, 59, 60, 61, 62, 63] (by decide +kernel) (by decide +kernel)
set_option maxRecDepth 20000 in
theorem gX10_winner_X10_allRounds : GoodIn wsX10_winner (wsV RX10 150 RX10 yX10_allRounds wsX10_allRounds) := goodIn_app (goodIn_of _ (by decide +kernel)) ggX10_winner_X10_allRounds
set_option maxRecDepth 20000 in
theorem ggX10_winner_X10_isAccepted : GoodIn wsX10_winner wsX10_isAccepted := goodIn_r _ [42, 12, 43, 44, 45, 4, 46, 11, 13, 14, 15, 47, 48, 49, 50, 51, 52, 53, 54, 55, 56, 57, 58, 59, 60, 61, 62, 63] (by decide +kernel) (by decide +kernel)
set_option maxRecDepth 20000 in
theorem gX10_winner_X10_isAccepted : GoodIn wsX10_winner (wsV RX10 153 RX10 yX10_isAccepted wsX10_isAccepted) := goodIn_app (goodIn_of _ (by decide +kernel)) ggX10_winner_X10_isAccepted
theorem dX10_winner_0 : decode cX10_winner 0 = .ok (.aload_n 0, 1) := by decide +kernel
theorem dX10_winner_1 : decode cX10_winner 1 = .ok (.invokevirtual 150, 3) := by decide +kernel
theorem dX10_winner_4 : decode cX10_winner 4 = .ok (.aload_n 0, 1) := by decide +kernel
theorem dX10_winner_5 : decode cX10_winner 5 = .ok (.invokevirtual 153, 3) := by decide +kernel
theorem dX10_winner_8 : decode cX10_winner 8 = .ok (.ifCond .eq 7, 3) := by decide +kernel
theorem dX10_winner_11 : decode cX10_winner 11 = .ok (.iconst 0, 1) := by decide +kernel
theorem dX10_winner_12 : decode cX10_winner 12 = .ok (.goto 4, 3) := by decide +kernel
theorem dX10_winner_15 : decode cX10_winner 15 = .ok (.iconst 1, 1) := by decide +kernel
theorem dX10_winner_16 : decode cX10_winner 16 = .ok (.ireturn, 1) := by decide +kernel
set_option maxRecDepth 20000 in
theorem ggX10_winningRound_X10_beginRounds : GoodIn wsX10_winningRound wsX10_beginRounds := goodIn_r _ [6, 1, 7, 8, 9, 10, 5, 11, 43, 44, 45, 46, 47, 48, 49, 50, 51, 52, 53, 54, 55, 56, 57, 58, 59] (by decide +kernel) (by decide +kernel)
set_option maxRecDepth 20000 in
theorem gX10_winningRound_X10_beginRounds : GoodIn wsX10_winningRound (wsV RX10 141 RX10 yX10_beginRounds wsX10_beginRounds) := goodIn_app (goodIn_of _ (by decide +kernel)) ggX10_winningRound_X10_beginRounds
set_option maxRecDepth 20000 in
theorem ggX10_winningRound_X10_isAccepted : GoodIn wsX10_winningRound wsX10_isAccepted := goodIn_r _ [15, 8, 16, 17, 18, 5, 19, 7, 9, 10, 11, 43, 44, 45, 46, 47, 48, 49, 50, 51, 52, 53, 54, 55, 56, 57, 58, 59] (by decide +kernel) (by decide +kernel)
set_option maxRecDepth 20000 in
theorem gX10_winningRound_X10_isAccepted : GoodIn wsX10_winningRound (wsV RX10 153 RX10 yX10_isAccepted wsX10_isAccepted) := goodIn_app (goodIn_of _ (by decide +kernel)) ggX10_winningRound_X10_isAccepted
set_option maxRecDepth 20000 in
theorem ggX10_winningRound_X10_goesOn : GoodIn wsX10_winningRound wsX10_goesOn := goodIn_r _ [23, 8, 24, 7, 1, 25, 26, 27, 5, 28, 9, 10, 11, 29, 30, 31, 32, 33, 34, 35, 36, 37, 38, 39, 40, 41, 42, 43, 44, 45, 46, 47, 48, 49, 50, 51, 52, 53, 54, 55, 56, 57, 58, 59] (by decide +kernel) (by decide +kernel)
set_option maxRecDepth 20000 in
theorem gX10_winningRound_X10_goesOn : GoodIn wsX10_winningRound (wsV RX10 144 RX10 yX10_goesOn wsX10_goesOn) := goodIn_app (goodIn_of _ (by decide +kernel)) ggX10_winningRound_X10_goesOn
theorem dX10_winningRound_0 : decode cX10_winningRound 0 = .ok (.aload_n 0, 1) := by decide +kernel
theorem dX10_winningRound_1 : decode cX10_winningRound 1 = .ok (.invokevirtual 141, 3) := by decide +kernel
theorem dX10_winningRound_4 : decode cX10_winningRound 4 = .ok (.iconst 1, 1) := by decide +kernel
theorem dX10_winningRound_5 : decode cX10_winningRound 5 = .ok (.istore_n 1, 1) := by decide +kernel
theorem dX10_winningRound_6 : decode cX10_winningRound 6 = .ok (.iload_n 1, 1) := by decide +kernel
theorem dX10_winningRound_7 : decode cX10_winningRound 7 = .ok (.ifCond .eq 23, 3) := by decide +kernel
theorem dX10_winningRound_10 : decode cX10_winningRound 10 = .ok (.aload_n 0, 1) := by decide +kernel
theorem dX10_winningRound_11 : decode cX10_winningRound 11 = .ok (.invokevirtual 153, 3) := by decide +kernel
theorem dX10_winningRound_14 : decode cX10_winningRound 14 = .ok (.ifCond .eq 8, 3) := by decide +kernel
theorem dX10_winningRound_17 : decode cX10_winningRound 17 = .ok (.aload_n 0, 1) := by decide +kernel
theorem dX10_winningRound_18 : decode cX10_winningRound 18 = .ok (.getfield 135, 3) := by decide +kernel
theorem dX10_winningRound_21 : decode cX10_winningRound 21 = .ok (.ireturn, 1) := by decide +kernel
theorem dX10_winningRound_22 : decode cX10_winningRound 22 = .ok (.aload_n 0, 1) := by decide +kernel
theorem dX10_winningRound_23 : decode cX10_winningRound 23 = .ok (.invokevirtual 144, 3) := by decide +kernel
theorem dX10_winningRound_26 : decode cX10_winningRound 26 = .ok (.istore_n 1, 1) := by decide +kernel
theorem dX10_winningRound_27 : decode cX10_winningRound 27 = .ok (.goto (-21), 3) := by decide +kernel
theorem dX10_winningRound_30 : decode cX10_winningRound 30 = .ok (.bipush (-4), 2) := by decide +kernel
theorem dX10_winningRound_32 : decode cX10_winningRound 32 = .ok (.ireturn, 1) := by decide +kernel
set_option maxRecDepth 20000 in
theorem ggX10_rounds_X10_allRounds : GoodIn wsX10_rounds wsX10_allRounds := goodIn_r _ [6, 7, 8, 9, 5, 10, 1, 11, 12, 13, 14, 15, 16, 17, 18, 19, 20, 21, 22, 23, 24, 25, 26, 27, 28, 29, 30, 31, 32, 33, 34, 35, 36, 37, 38, 39, 40, 41, 42, 43, 44, 45, 46, 47, 48, 49, 50, 51, 52, 53, 54, 55] (by decide +kernel) (by decide +kernel)
set_option maxRecDepth 20000 in
theorem gX10_rounds_X10_allRounds : GoodIn wsX10_rounds (wsV RX10 150 RX10 yX10_allRounds wsX10_allRounds) := goodIn_app (goodIn_of _ (by decide +kernel)) ggX10_rounds_X10_allRounds
theorem dX10_rounds_0 : decode cX10_rounds 0 = .ok (.aload_n 0, 1) := by decide +kernel
theorem dX10_rounds_1 : decode cX10_rounds 1 = .ok (.invokevirtual 150, 3) := by decide +kernel
theorem dX10_rounds_4 : decode cX10_rounds 4 = .ok (.aload_n 0, 1) := by decide +kernel
theorem dX10_rounds_5 : decode cX10_rounds 5 = .ok (.getfield 135, 3) := by decide +kernel
theorem dX10_rounds_8 : decode cX10_rounds 8 = .ok (.ireturn, 1) := by decide +kernel
set_option maxRecDepth 20000 in
theorem ggX10_forcingSetCount_X10_isState : GoodIn wsX10_forcingSetCount wsX10_isState := goodIn_r _ [6, 7, 8, 9, 5, 10, 50, 51, 52, 53, 54, 55, 56, 57, 58, 59, 60, 61, 62, 63, 64, 65, 66] (by decide +kernel) (by decide +kernel)
set_option maxRecDepth 20000 in
theorem gX10_forcingSetCount_X10_isState : GoodIn wsX10_forcingSetCount (wsV RX10 99 RX10 yX10_isState wsX10_isState) := goodIn_app (goodIn_of _ (by decide +kernel)) ggX10_forcingSetCount_X10_isState
set_option maxRecDepth 20000 in
theorem ggX10_forcingSetCount_X10_isSymbol : GoodIn wsX10_forcingSetCount wsX10_isSymbol := goodIn_r _ [14, 7, 8, 9, 5, 10, 50, 51, 52, 53, 54, 55, 56, 57, 58, 59, 60, 61, 62, 63, 64, 65, 66] (by decide +kernel) (by decide +kernel)
set_option maxRecDepth 20000 in
theorem gX10_forcingSetCount_X10_isSymbol : GoodIn wsX10_forcingSetCount (wsV RX10 95 RX10 yX10_isSymbol wsX10_isSymbol) := goodIn_app (goodIn_of _ (by decide +kernel)) ggX10_forcingSetCount_X10_isSymbol
set_option maxRecDepth 20000 in
theorem ggX10_forcingSetCount_X10_allRounds : GoodIn wsX10_forcingSetCount wsX10_allRounds := goodIn_r _ [18, 19, 20, 21, 5, 22, 23, 1, 7, 24, 25, 26, 27, 28, 29, 30, 31, 32, 33, 34, 35, 36, 37, 38, 39, 40, 41, 42, 43, 44, 45, 46, 47, 48, 49, 50, 51, 52, 53, 54, 55, 56, 57, 58, 59, 60, 61, 62, 63, 64, 65, 66] (by decide +kernel) (by decide +kernel)
set_option maxRecDepth 20000 in
theorem gX10_forcingSetCount_X10_allRounds : GoodIn wsX10_forcingSetCount (wsV RX10 150 RX10 yX10_allRounds wsX10_allRounds) := goodIn_app (goodIn_of _ (by decide +kernel)) ggX10_forcingSetCount_X10_allRounds
set_option maxRecDepth 20000 in
theorem ggX10_forcingSetCount_X10_has : GoodIn wsX10_forcingSetCount wsX10_has := goodIn_r _ [26] (by decide +kernel) (by decide +kernel)
set_option maxRecDepth 20000 in
theorem gX10_forcingSetCount_X10_has : GoodIn wsX10_forcingSetCount (va_wsS RX10 122 yX10_has wsX10_has) := goodIn_app (goodIn_of _ (by decide +kernel)) ggX10_forcingSetCount_X10_has
theorem dX10_forcingSetCount_0 : decode cX10_forcingSetCount 0 = .ok (.aload_n 0, 1) := by decide +kernel
theorem dX10_forcingSetCount_1 : decode cX10_forcingSetCount 1 = .ok (.iload_n 1, 1) := by decide +kernel
theorem dX10_forcingSetCount_2 : decode cX10_forcingSetCount 2 = .ok (.invokevirtual 99, 3) := by decide +kernel
theorem dX10_forcingSetCount_5 : decode cX10_forcingSetCount 5 = .ok (.ifCond .eq 11, 3) := by decide +kernel
theorem dX10_forcingSetCount_8 : decode cX10_forcingSetCount 8 = .ok (.aload_n 0, 1) := by decide +kernel
theorem dX10_forcingSetCount_9 : decode cX10_forcingSetCount 9 = .ok (.iload_n 2, 1) := by decide +kernel
theorem dX10_forcingSetCount_10 : decode cX10_forcingSetCount 10 = .ok (.invokevirtual 95, 3) := by decide +kernel
theorem dX10_forcingSetCount_13 : decode cX10_forcingSetCount 13 = .ok (.ifCond .ne 5, 3) := by decide +kernel
theorem dX10_forcingSetCount_16 : decode cX10_forcingSetCount 16 = .ok (.iconst (-1), 1) := by decide +kernel
theorem dX10_forcingSetCount_17 : decode cX10_forcingSetCount 17 = .ok (.ireturn, 1) := by decide +kernel
theorem dX10_forcingSetCount_18 : decode cX10_forcingSetCount 18 = .ok (.aload_n 0, 1) := by decide +kernel
theorem dX10_forcingSetCount_19 : decode cX10_forcingSetCount 19 = .ok (.invokevirtual 150, 3) := by decide +kernel
theorem dX10_forcingSetCount_22 : decode cX10_forcingSetCount 22 = .ok (.iconst 0, 1) := by decide +kernel
theorem dX10_forcingSetCount_23 : decode cX10_forcingSetCount 23 = .ok (.istore_n 3, 1) := by decide +kernel
theorem dX10_forcingSetCount_24 : decode cX10_forcingSetCount 24 = .ok (.iconst 0, 1) := by decide +kernel
theorem dX10_forcingSetCount_25 : decode cX10_forcingSetCount 25 = .ok (.istore 4, 2) := by decide +kernel
theorem dX10_forcingSetCount_27 : decode cX10_forcingSetCount 27 = .ok (.iload 4, 2) := by decide +kernel
theorem dX10_forcingSetCount_29 : decode cX10_forcingSetCount 29 = .ok (.bipush 16, 2) := by decide +kernel
theorem dX10_forcingSetCount_31 : decode cX10_forcingSetCount 31 = .ok (.if_icmp .ge 35, 3) := by decide +kernel
theorem dX10_forcingSetCount_34 : decode cX10_forcingSetCount 34 = .ok (.iload_n 3, 1) := by decide +kernel
theorem dX10_forcingSetCount_35 : decode cX10_forcingSetCount 35 = .ok (.aload_n 0, 1) := by decide +kernel
theorem dX10_forcingSetCount_36 : decode cX10_forcingSetCount 36 = .ok (.getfield 22, 3) := by decide +kernel
theorem dX10_forcingSetCount_39 : decode cX10_forcingSetCount 39 = .ok (.iconst 3, 1) := by decide +kernel
theorem dX10_forcingSetCount_40 : decode cX10_forcingSetCount 40 = .ok (.iload_n 1, 1) := by decide +kernel
theorem dX10_forcingSetCount_41 : decode cX10_forcingSetCount 41 = .ok (.imul, 1) := by decide +kernel
theorem dX10_forcingSetCount_42 : decode cX10_forcingSetCount 42 = .ok (.iload_n 2, 1) := by decide +kernel
theorem dX10_forcingSetCount_43 : decode cX10_forcingSetCount 43 = .ok (.iadd, 1) := by decide +kernel
theorem dX10_forcingSetCount_44 : decode cX10_forcingSetCount 44 = .ok (.iaload, 1) := by decide +kernel
theorem dX10_forcingSetCount_45 : decode cX10_forcingSetCount 45 = .ok (.iload 4, 2) := by decide +kernel
theorem dX10_forcingSetCount_47 : decode cX10_forcingSetCount 47 = .ok (.invokestatic 122, 3) := by decide +kernel
theorem dX10_forcingSetCount_50 : decode cX10_forcingSetCount 50 = .ok (.ifCond .eq 7, 3) := by decide +kernel
theorem dX10_forcingSetCount_53 : decode cX10_forcingSetCount 53 = .ok (.iconst 1, 1) := by decide +kernel
theorem dX10_forcingSetCount_54 : decode cX10_forcingSetCount 54 = .ok (.goto 4, 3) := by decide +kernel
theorem dX10_forcingSetCount_57 : decode cX10_forcingSetCount 57 = .ok (.iconst 0, 1) := by decide +kernel
theorem dX10_forcingSetCount_58 : decode cX10_forcingSetCount 58 = .ok (.iadd, 1) := by decide +kernel
theorem dX10_forcingSetCount_59 : decode cX10_forcingSetCount 59 = .ok (.istore_n 3, 1) := by decide +kernel
theorem dX10_forcingSetCount_60 : decode cX10_forcingSetCount 60 = .ok (.iinc 4 1, 3) := by decide +kernel
theorem dX10_forcingSetCount_63 : decode cX10_forcingSetCount 63 = .ok (.goto (-36), 3) := by decide +kernel
theorem dX10_forcingSetCount_66 : decode cX10_forcingSetCount 66 = .ok (.iload_n 3, 1) := by decide +kernel
theorem dX10_forcingSetCount_67 : decode cX10_forcingSetCount 67 = .ok (.ireturn, 1) := by decide +kernel
set_option maxRecDepth 20000 in
theorem ggX10_forcingSet_X10_isState : GoodIn wsX10_forcingSet wsX10_isState := goodIn_r _ [6, 7, 8, 9, 5, 10, 50, 51, 52, 53, 54, 55, 56, 57, 58, 59, 60, 61, 62, 63, 64, 65, 66] (by decide +kernel) (by decide +kernel)
set_option maxRecDepth 20000 in
theorem gX10_forcingSet_X10_isState : GoodIn wsX10_forcingSet (wsV RX10 99 RX10 yX10_isState wsX10_isState) := goodIn_app (goodIn_of _ (by decide +kernel)) ggX10_forcingSet_X10_isState
set_option maxRecDepth 20000 in
theorem ggX10_forcingSet_X10_isSymbol : GoodIn wsX10_forcingSet wsX10_isSymbol := goodIn_r _ [14, 7, 8, 9, 5, 10, 50, 51, 52, 53, 54, 55, 56, 57, 58, 59, 60, 61, 62, 63, 64, 65, 66] (by decide +kernel) (by decide +kernel)
set_option maxRecDepth 20000 in
theorem gX10_forcingSet_X10_isSymbol : GoodIn wsX10_forcingSet (wsV RX10 95 RX10 yX10_isSymbol wsX10_isSymbol) := goodIn_app (goodIn_of _ (by decide +kernel)) ggX10_forcingSet_X10_isSymbol
set_option maxRecDepth 20000 in
theorem ggX10_forcingSet_X10_allRounds : GoodIn wsX10_forcingSet wsX10_allRounds := goodIn_r _ [18, 19, 20, 21, 5, 22, 23, 1, 7, 24, 25, 26, 27, 28, 29, 30, 31, 32, 33, 34, 35, 36, 37, 38, 39, 40, 41, 42, 43, 44, 45, 46, 47, 48, 49, 50, 51, 52, 53, 54, 55, 56, 57, 58, 59, 60, 61, 62, 63, 64, 65, 66] (by decide +kernel) (by decide +kernel)
set_option maxRecDepth 20000 in
theorem gX10_forcingSet_X10_allRounds : GoodIn wsX10_forcingSet (wsV RX10 150 RX10 yX10_allRounds wsX10_allRounds) := goodIn_app (goodIn_of _ (by decide +kernel)) ggX10_forcingSet_X10_allRounds
set_option maxRecDepth 20000 in
theorem ggX10_forcingSet_X10_has : GoodIn wsX10_forcingSet wsX10_has := goodIn_r _ [26] (by decide +kernel) (by decide +kernel)
set_option maxRecDepth 20000 in
theorem gX10_forcingSet_X10_has : GoodIn wsX10_forcingSet (va_wsS RX10 122 yX10_has wsX10_has) := goodIn_app (goodIn_of _ (by decide +kernel)) ggX10_forcingSet_X10_has
theorem dX10_forcingSet_0 : decode cX10_forcingSet 0 = .ok (.aload_n 0, 1) := by decide +kernel
theorem dX10_forcingSet_1 : decode cX10_forcingSet 1 = .ok (.iload_n 1, 1) := by decide +kernel
theorem dX10_forcingSet_2 : decode cX10_forcingSet 2 = .ok (.invokevirtual 99, 3) := by decide +kernel
theorem dX10_forcingSet_5 : decode cX10_forcingSet 5 = .ok (.ifCond .eq 15, 3) := by decide +kernel
theorem dX10_forcingSet_8 : decode cX10_forcingSet 8 = .ok (.aload_n 0, 1) := by decide +kernel
theorem dX10_forcingSet_9 : decode cX10_forcingSet 9 = .ok (.iload_n 2, 1) := by decide +kernel
theorem dX10_forcingSet_10 : decode cX10_forcingSet 10 = .ok (.invokevirtual 95, 3) := by decide +kernel
theorem dX10_forcingSet_13 : decode cX10_forcingSet 13 = .ok (.ifCond .eq 7, 3) := by decide +kernel
theorem dX10_forcingSet_16 : decode cX10_forcingSet 16 = .ok (.iload_n 3, 1) := by decide +kernel
theorem dX10_forcingSet_17 : decode cX10_forcingSet 17 = .ok (.ifCond .ge 5, 3) := by decide +kernel
theorem dX10_forcingSet_20 : decode cX10_forcingSet 20 = .ok (.iconst (-1), 1) := by decide +kernel
theorem dX10_forcingSet_21 : decode cX10_forcingSet 21 = .ok (.ireturn, 1) := by decide +kernel
theorem dX10_forcingSet_22 : decode cX10_forcingSet 22 = .ok (.aload_n 0, 1) := by decide +kernel
theorem dX10_forcingSet_23 : decode cX10_forcingSet 23 = .ok (.invokevirtual 150, 3) := by decide +kernel
theorem dX10_forcingSet_26 : decode cX10_forcingSet 26 = .ok (.iload_n 3, 1) := by decide +kernel
theorem dX10_forcingSet_27 : decode cX10_forcingSet 27 = .ok (.istore 4, 2) := by decide +kernel
theorem dX10_forcingSet_29 : decode cX10_forcingSet 29 = .ok (.iconst 0, 1) := by decide +kernel
theorem dX10_forcingSet_30 : decode cX10_forcingSet 30 = .ok (.istore 5, 2) := by decide +kernel
theorem dX10_forcingSet_32 : decode cX10_forcingSet 32 = .ok (.iload 5, 2) := by decide +kernel
theorem dX10_forcingSet_34 : decode cX10_forcingSet 34 = .ok (.bipush 16, 2) := by decide +kernel
theorem dX10_forcingSet_36 : decode cX10_forcingSet 36 = .ok (.if_icmp .ge 38, 3) := by decide +kernel
theorem dX10_forcingSet_39 : decode cX10_forcingSet 39 = .ok (.aload_n 0, 1) := by decide +kernel
theorem dX10_forcingSet_40 : decode cX10_forcingSet 40 = .ok (.getfield 22, 3) := by decide +kernel
theorem dX10_forcingSet_43 : decode cX10_forcingSet 43 = .ok (.iconst 3, 1) := by decide +kernel
theorem dX10_forcingSet_44 : decode cX10_forcingSet 44 = .ok (.iload_n 1, 1) := by decide +kernel
theorem dX10_forcingSet_45 : decode cX10_forcingSet 45 = .ok (.imul, 1) := by decide +kernel
theorem dX10_forcingSet_46 : decode cX10_forcingSet 46 = .ok (.iload_n 2, 1) := by decide +kernel
theorem dX10_forcingSet_47 : decode cX10_forcingSet 47 = .ok (.iadd, 1) := by decide +kernel
theorem dX10_forcingSet_48 : decode cX10_forcingSet 48 = .ok (.iaload, 1) := by decide +kernel
theorem dX10_forcingSet_49 : decode cX10_forcingSet 49 = .ok (.iload 5, 2) := by decide +kernel
theorem dX10_forcingSet_51 : decode cX10_forcingSet 51 = .ok (.invokestatic 122, 3) := by decide +kernel
theorem dX10_forcingSet_54 : decode cX10_forcingSet 54 = .ok (.ifCond .eq 14, 3) := by decide +kernel
theorem dX10_forcingSet_57 : decode cX10_forcingSet 57 = .ok (.iload 4, 2) := by decide +kernel
theorem dX10_forcingSet_59 : decode cX10_forcingSet 59 = .ok (.ifCond .ne 6, 3) := by decide +kernel
theorem dX10_forcingSet_62 : decode cX10_forcingSet 62 = .ok (.iload 5, 2) := by decide +kernel
theorem dX10_forcingSet_64 : decode cX10_forcingSet 64 = .ok (.ireturn, 1) := by decide +kernel
theorem dX10_forcingSet_65 : decode cX10_forcingSet 65 = .ok (.iinc 4 (-1), 3) := by decide +kernel
theorem dX10_forcingSet_68 : decode cX10_forcingSet 68 = .ok (.iinc 5 1, 3) := by decide +kernel
theorem dX10_forcingSet_71 : decode cX10_forcingSet 71 = .ok (.goto (-39), 3) := by decide +kernel
theorem dX10_forcingSet_74 : decode cX10_forcingSet 74 = .ok (.bipush (-4), 2) := by decide +kernel
theorem dX10_forcingSet_76 : decode cX10_forcingSet 76 = .ok (.ireturn, 1) := by decide +kernel
set_option maxRecDepth 20000 in
theorem ggX10_winningStacks_X10_isState : GoodIn wsX10_winningStacks wsX10_isState := goodIn_r _ [12, 4, 13, 14, 11, 15, 56, 57, 58, 59, 60, 61, 62, 63, 64, 65, 66, 67, 68, 69, 70, 71, 72] (by decide +kernel) (by decide +kernel)
set_option maxRecDepth 20000 in
theorem gX10_winningStacks_X10_isState : GoodIn wsX10_winningStacks (wsV RX10 99 RX10 yX10_isState wsX10_isState) := goodIn_app (goodIn_of _ (by decide +kernel)) ggX10_winningStacks_X10_isState
set_option maxRecDepth 20000 in
theorem ggX10_winningStacks_X10_in : GoodIn wsX10_winningStacks wsX10_in := goodIn_r _ [15] (by decide +kernel) (by decide +kernel)
set_option maxRecDepth 20000 in
theorem gX10_winningStacks_X10_in : GoodIn wsX10_winningStacks (va_wsS RX10 58 yX10_in wsX10_in) := goodIn_app (goodIn_of _ (by decide +kernel)) ggX10_winningStacks_X10_in
set_option maxRecDepth 20000 in
theorem ggX10_winningStacks_X10_allRounds : GoodIn wsX10_winningStacks wsX10_allRounds := goodIn_r _ [19, 20, 21, 22, 11, 23, 24, 25, 4, 26, 27, 28, 29, 30, 31, 32, 33, 34, 35, 36, 37, 38, 39, 40, 41, 42, 43, 44, 45, 46, 47, 48, 49, 50, 51, 56, 57, 58, 59, 60, 61, 62, 63, 64, 65, 66, 67, 68, 69, 70, 71, 72] (by decide +kernel) (by decide +kernel)
set_option maxRecDepth 20000 in
theorem gX10_winningStacks_X10_allRounds : GoodIn wsX10_winningStacks (wsV RX10 150 RX10 yX10_allRounds wsX10_allRounds) := goodIn_app (goodIn_of _ (by decide +kernel)) ggX10_winningStacks_X10_allRounds
set_option maxRecDepth 20000 in
theorem ggX10_winningStacks_X10_accepted : GoodIn wsX10_winningStacks wsX10_accepted := goodIn_r _ [55, 4, 25, 26, 27, 11, 28, 56, 57, 58, 59, 60, 61, 62, 63, 64, 65, 66, 67, 68, 69, 70, 71, 72] (by decide +kernel) (by decide +kernel)
set_option maxRecDepth 20000 in
theorem gX10_winningStacks_X10_accepted : GoodIn wsX10_winningStacks (wsV RX10 147 RX10 yX10_accepted wsX10_accepted) := goodIn_app (goodIn_of _ (by decide +kernel)) ggX10_winningStacks_X10_accepted
set_option maxRecDepth 20000 in
theorem ggX10_winningStacks_X10_has : GoodIn wsX10_winningStacks wsX10_has := goodIn_r _ [28] (by decide +kernel) (by decide +kernel)
set_option maxRecDepth 20000 in
theorem gX10_winningStacks_X10_has : GoodIn wsX10_winningStacks (va_wsS RX10 122 yX10_has wsX10_has) := goodIn_app (goodIn_of _ (by decide +kernel)) ggX10_winningStacks_X10_has
theorem dX10_winningStacks_0 : decode cX10_winningStacks 0 = .ok (.aload_n 0, 1) := by decide +kernel
theorem dX10_winningStacks_1 : decode cX10_winningStacks 1 = .ok (.iload_n 1, 1) := by decide +kernel
theorem dX10_winningStacks_2 : decode cX10_winningStacks 2 = .ok (.invokevirtual 99, 3) := by decide +kernel
theorem dX10_winningStacks_5 : decode cX10_winningStacks 5 = .ok (.ifCond .eq 15, 3) := by decide +kernel
theorem dX10_winningStacks_8 : decode cX10_winningStacks 8 = .ok (.iload_n 2, 1) := by decide +kernel
theorem dX10_winningStacks_9 : decode cX10_winningStacks 9 = .ok (.i2l, 1) := by decide +kernel
theorem dX10_winningStacks_10 : decode cX10_winningStacks 10 = .ok (.lconst 0, 1) := by decide +kernel
theorem dX10_winningStacks_11 : decode cX10_winningStacks 11 = .ok (.ldc2_w 156, 3) := by decide +kernel
theorem dX10_winningStacks_14 : decode cX10_winningStacks 14 = .ok (.invokestatic 58, 3) := by decide +kernel
theorem dX10_winningStacks_17 : decode cX10_winningStacks 17 = .ok (.ifCond .ne 7, 3) := by decide +kernel
theorem dX10_winningStacks_20 : decode cX10_winningStacks 20 = .ok (.ldc2_w 158, 3) := by decide +kernel
theorem dX10_winningStacks_23 : decode cX10_winningStacks 23 = .ok (.lreturn, 1) := by decide +kernel
theorem dX10_winningStacks_24 : decode cX10_winningStacks 24 = .ok (.lconst 1, 1) := by decide +kernel
theorem dX10_winningStacks_25 : decode cX10_winningStacks 25 = .ok (.lstore_n 3, 1) := by decide +kernel
theorem dX10_winningStacks_26 : decode cX10_winningStacks 26 = .ok (.iconst 0, 1) := by decide +kernel
theorem dX10_winningStacks_27 : decode cX10_winningStacks 27 = .ok (.istore 5, 2) := by decide +kernel
theorem dX10_winningStacks_29 : decode cX10_winningStacks 29 = .ok (.iload 5, 2) := by decide +kernel
theorem dX10_winningStacks_31 : decode cX10_winningStacks 31 = .ok (.iload_n 2, 1) := by decide +kernel
theorem dX10_winningStacks_32 : decode cX10_winningStacks 32 = .ok (.if_icmp .ge 39, 3) := by decide +kernel
theorem dX10_winningStacks_35 : decode cX10_winningStacks 35 = .ok (.lload_n 3, 1) := by decide +kernel
theorem dX10_winningStacks_36 : decode cX10_winningStacks 36 = .ok (.ldc2_w 160, 3) := by decide +kernel
theorem dX10_winningStacks_39 : decode cX10_winningStacks 39 = .ok (.aload_n 0, 1) := by decide +kernel
theorem dX10_winningStacks_40 : decode cX10_winningStacks 40 = .ok (.getfield 7, 3) := by decide +kernel
theorem dX10_winningStacks_43 : decode cX10_winningStacks 43 = .ok (.iconst 1, 1) := by decide +kernel
theorem dX10_winningStacks_44 : decode cX10_winningStacks 44 = .ok (.iaload, 1) := by decide +kernel
theorem dX10_winningStacks_45 : decode cX10_winningStacks 45 = .ok (.i2l, 1) := by decide +kernel
theorem dX10_winningStacks_46 : decode cX10_winningStacks 46 = .ok (.ldiv, 1) := by decide +kernel
theorem dX10_winningStacks_47 : decode cX10_winningStacks 47 = .ok (.lcmp, 1) := by decide +kernel
theorem dX10_winningStacks_48 : decode cX10_winningStacks 48 = .ok (.ifCond .le 7, 3) := by decide +kernel
theorem dX10_winningStacks_51 : decode cX10_winningStacks 51 = .ok (.ldc2_w 162, 3) := by decide +kernel
theorem dX10_winningStacks_54 : decode cX10_winningStacks 54 = .ok (.lreturn, 1) := by decide +kernel
theorem dX10_winningStacks_55 : decode cX10_winningStacks 55 = .ok (.lload_n 3, 1) := by decide +kernel
theorem dX10_winningStacks_56 : decode cX10_winningStacks 56 = .ok (.aload_n 0, 1) := by decide +kernel
theorem dX10_winningStacks_57 : decode cX10_winningStacks 57 = .ok (.getfield 7, 3) := by decide +kernel
theorem dX10_winningStacks_60 : decode cX10_winningStacks 60 = .ok (.iconst 1, 1) := by decide +kernel
theorem dX10_winningStacks_61 : decode cX10_winningStacks 61 = .ok (.iaload, 1) := by decide +kernel
theorem dX10_winningStacks_62 : decode cX10_winningStacks 62 = .ok (.i2l, 1) := by decide +kernel
theorem dX10_winningStacks_63 : decode cX10_winningStacks 63 = .ok (.lmul, 1) := by decide +kernel
theorem dX10_winningStacks_64 : decode cX10_winningStacks 64 = .ok (.lstore_n 3, 1) := by decide +kernel
theorem dX10_winningStacks_65 : decode cX10_winningStacks 65 = .ok (.iinc 5 1, 3) := by decide +kernel
theorem dX10_winningStacks_68 : decode cX10_winningStacks 68 = .ok (.goto (-39), 3) := by decide +kernel
theorem dX10_winningStacks_71 : decode cX10_winningStacks 71 = .ok (.aload_n 0, 1) := by decide +kernel
theorem dX10_winningStacks_72 : decode cX10_winningStacks 72 = .ok (.invokevirtual 150, 3) := by decide +kernel
theorem dX10_winningStacks_75 : decode cX10_winningStacks 75 = .ok (.iconst 0, 1) := by decide +kernel
theorem dX10_winningStacks_76 : decode cX10_winningStacks 76 = .ok (.istore 5, 2) := by decide +kernel
theorem dX10_winningStacks_78 : decode cX10_winningStacks 78 = .ok (.iload 5, 2) := by decide +kernel
theorem dX10_winningStacks_80 : decode cX10_winningStacks 80 = .ok (.bipush 16, 2) := by decide +kernel
theorem dX10_winningStacks_82 : decode cX10_winningStacks 82 = .ok (.if_icmp .ge 32, 3) := by decide +kernel
theorem dX10_winningStacks_85 : decode cX10_winningStacks 85 = .ok (.aload_n 0, 1) := by decide +kernel
theorem dX10_winningStacks_86 : decode cX10_winningStacks 86 = .ok (.getfield 28, 3) := by decide +kernel
theorem dX10_winningStacks_89 : decode cX10_winningStacks 89 = .ok (.iload 5, 2) := by decide +kernel
theorem dX10_winningStacks_91 : decode cX10_winningStacks 91 = .ok (.iload 5, 2) := by decide +kernel
theorem dX10_winningStacks_93 : decode cX10_winningStacks 93 = .ok (.aload_n 0, 1) := by decide +kernel
theorem dX10_winningStacks_94 : decode cX10_winningStacks 94 = .ok (.getfield 7, 3) := by decide +kernel
theorem dX10_winningStacks_97 : decode cX10_winningStacks 97 = .ok (.iconst 3, 1) := by decide +kernel
theorem dX10_winningStacks_98 : decode cX10_winningStacks 98 = .ok (.iaload, 1) := by decide +kernel
theorem dX10_winningStacks_99 : decode cX10_winningStacks 99 = .ok (.if_icmp .ne 7, 3) := by decide +kernel
theorem dX10_winningStacks_102 : decode cX10_winningStacks 102 = .ok (.lconst 1, 1) := by decide +kernel
theorem dX10_winningStacks_103 : decode cX10_winningStacks 103 = .ok (.goto 4, 3) := by decide +kernel
theorem dX10_winningStacks_106 : decode cX10_winningStacks 106 = .ok (.lconst 0, 1) := by decide +kernel
theorem dX10_winningStacks_107 : decode cX10_winningStacks 107 = .ok (.lastore, 1) := by decide +kernel
theorem dX10_winningStacks_108 : decode cX10_winningStacks 108 = .ok (.iinc 5 1, 3) := by decide +kernel
theorem dX10_winningStacks_111 : decode cX10_winningStacks 111 = .ok (.goto (-33), 3) := by decide +kernel
theorem dX10_winningStacks_114 : decode cX10_winningStacks 114 = .ok (.iconst 0, 1) := by decide +kernel
theorem dX10_winningStacks_115 : decode cX10_winningStacks 115 = .ok (.istore 5, 2) := by decide +kernel
theorem dX10_winningStacks_117 : decode cX10_winningStacks 117 = .ok (.iload 5, 2) := by decide +kernel
theorem dX10_winningStacks_119 : decode cX10_winningStacks 119 = .ok (.iload_n 2, 1) := by decide +kernel
theorem dX10_winningStacks_120 : decode cX10_winningStacks 120 = .ok (.if_icmp .ge 134, 3) := by decide +kernel
theorem dX10_winningStacks_123 : decode cX10_winningStacks 123 = .ok (.iconst 0, 1) := by decide +kernel
theorem dX10_winningStacks_124 : decode cX10_winningStacks 124 = .ok (.istore 6, 2) := by decide +kernel
theorem dX10_winningStacks_126 : decode cX10_winningStacks 126 = .ok (.iload 6, 2) := by decide +kernel
theorem dX10_winningStacks_128 : decode cX10_winningStacks 128 = .ok (.bipush 16, 2) := by decide +kernel
theorem dX10_winningStacks_130 : decode cX10_winningStacks 130 = .ok (.if_icmp .ge 17, 3) := by decide +kernel
theorem dX10_winningStacks_133 : decode cX10_winningStacks 133 = .ok (.aload_n 0, 1) := by decide +kernel
theorem dX10_winningStacks_134 : decode cX10_winningStacks 134 = .ok (.getfield 32, 3) := by decide +kernel
theorem dX10_winningStacks_137 : decode cX10_winningStacks 137 = .ok (.iload 6, 2) := by decide +kernel
theorem dX10_winningStacks_139 : decode cX10_winningStacks 139 = .ok (.lconst 0, 1) := by decide +kernel
theorem dX10_winningStacks_140 : decode cX10_winningStacks 140 = .ok (.lastore, 1) := by decide +kernel
theorem dX10_winningStacks_141 : decode cX10_winningStacks 141 = .ok (.iinc 6 1, 3) := by decide +kernel
theorem dX10_winningStacks_144 : decode cX10_winningStacks 144 = .ok (.goto (-18), 3) := by decide +kernel
theorem dX10_winningStacks_147 : decode cX10_winningStacks 147 = .ok (.iconst 0, 1) := by decide +kernel
theorem dX10_winningStacks_148 : decode cX10_winningStacks 148 = .ok (.istore 6, 2) := by decide +kernel
theorem dX10_winningStacks_150 : decode cX10_winningStacks 150 = .ok (.iload 6, 2) := by decide +kernel
theorem dX10_winningStacks_152 : decode cX10_winningStacks 152 = .ok (.bipush 16, 2) := by decide +kernel
theorem dX10_winningStacks_154 : decode cX10_winningStacks 154 = .ok (.if_icmp .ge 64, 3) := by decide +kernel
theorem dX10_winningStacks_157 : decode cX10_winningStacks 157 = .ok (.iconst 0, 1) := by decide +kernel
theorem dX10_winningStacks_158 : decode cX10_winningStacks 158 = .ok (.istore 7, 2) := by decide +kernel
theorem dX10_winningStacks_160 : decode cX10_winningStacks 160 = .ok (.iload 7, 2) := by decide +kernel
theorem dX10_winningStacks_162 : decode cX10_winningStacks 162 = .ok (.aload_n 0, 1) := by decide +kernel
theorem dX10_winningStacks_163 : decode cX10_winningStacks 163 = .ok (.getfield 7, 3) := by decide +kernel
theorem dX10_winningStacks_166 : decode cX10_winningStacks 166 = .ok (.iconst 1, 1) := by decide +kernel
theorem dX10_winningStacks_167 : decode cX10_winningStacks 167 = .ok (.iaload, 1) := by decide +kernel
theorem dX10_winningStacks_168 : decode cX10_winningStacks 168 = .ok (.if_icmp .ge 44, 3) := by decide +kernel
theorem dX10_winningStacks_171 : decode cX10_winningStacks 171 = .ok (.aload_n 0, 1) := by decide +kernel
theorem dX10_winningStacks_172 : decode cX10_winningStacks 172 = .ok (.getfield 28, 3) := by decide +kernel
theorem dX10_winningStacks_175 : decode cX10_winningStacks 175 = .ok (.iload 6, 2) := by decide +kernel
theorem dX10_winningStacks_177 : decode cX10_winningStacks 177 = .ok (.laload, 1) := by decide +kernel
theorem dX10_winningStacks_178 : decode cX10_winningStacks 178 = .ok (.lconst 0, 1) := by decide +kernel
theorem dX10_winningStacks_179 : decode cX10_winningStacks 179 = .ok (.lcmp, 1) := by decide +kernel
theorem dX10_winningStacks_180 : decode cX10_winningStacks 180 = .ok (.ifCond .le 32, 3) := by decide +kernel
theorem dX10_winningStacks_183 : decode cX10_winningStacks 183 = .ok (.aload_n 0, 1) := by decide +kernel
theorem dX10_winningStacks_184 : decode cX10_winningStacks 184 = .ok (.getfield 32, 3) := by decide +kernel
theorem dX10_winningStacks_187 : decode cX10_winningStacks 187 = .ok (.aload_n 0, 1) := by decide +kernel
theorem dX10_winningStacks_188 : decode cX10_winningStacks 188 = .ok (.iload 6, 2) := by decide +kernel
theorem dX10_winningStacks_190 : decode cX10_winningStacks 190 = .ok (.iload 7, 2) := by decide +kernel
theorem dX10_winningStacks_192 : decode cX10_winningStacks 192 = .ok (.invokevirtual 147, 3) := by decide +kernel
theorem dX10_winningStacks_195 : decode cX10_winningStacks 195 = .ok (.dup2, 1) := by decide +kernel
theorem dX10_winningStacks_196 : decode cX10_winningStacks 196 = .ok (.laload, 1) := by decide +kernel
theorem dX10_winningStacks_197 : decode cX10_winningStacks 197 = .ok (.aload_n 0, 1) := by decide +kernel
theorem dX10_winningStacks_198 : decode cX10_winningStacks 198 = .ok (.getfield 28, 3) := by decide +kernel
theorem dX10_winningStacks_201 : decode cX10_winningStacks 201 = .ok (.iload 6, 2) := by decide +kernel
theorem dX10_winningStacks_203 : decode cX10_winningStacks 203 = .ok (.laload, 1) := by decide +kernel
theorem dX10_winningStacks_204 : decode cX10_winningStacks 204 = .ok (.ladd, 1) := by decide +kernel
theorem dX10_winningStacks_205 : decode cX10_winningStacks 205 = .ok (.lastore, 1) := by decide +kernel
theorem dX10_winningStacks_206 : decode cX10_winningStacks 206 = .ok (.iinc 7 1, 3) := by decide +kernel
theorem dX10_winningStacks_209 : decode cX10_winningStacks 209 = .ok (.goto (-49), 3) := by decide +kernel
theorem dX10_winningStacks_212 : decode cX10_winningStacks 212 = .ok (.iinc 6 1, 3) := by decide +kernel
theorem dX10_winningStacks_215 : decode cX10_winningStacks 215 = .ok (.goto (-65), 3) := by decide +kernel
theorem dX10_winningStacks_218 : decode cX10_winningStacks 218 = .ok (.iconst 0, 1) := by decide +kernel
theorem dX10_winningStacks_219 : decode cX10_winningStacks 219 = .ok (.istore 6, 2) := by decide +kernel
theorem dX10_winningStacks_221 : decode cX10_winningStacks 221 = .ok (.iload 6, 2) := by decide +kernel
theorem dX10_winningStacks_223 : decode cX10_winningStacks 223 = .ok (.bipush 16, 2) := by decide +kernel
theorem dX10_winningStacks_225 : decode cX10_winningStacks 225 = .ok (.if_icmp .ge 23, 3) := by decide +kernel
theorem dX10_winningStacks_228 : decode cX10_winningStacks 228 = .ok (.aload_n 0, 1) := by decide +kernel
theorem dX10_winningStacks_229 : decode cX10_winningStacks 229 = .ok (.getfield 28, 3) := by decide +kernel
theorem dX10_winningStacks_232 : decode cX10_winningStacks 232 = .ok (.iload 6, 2) := by decide +kernel
theorem dX10_winningStacks_234 : decode cX10_winningStacks 234 = .ok (.aload_n 0, 1) := by decide +kernel
theorem dX10_winningStacks_235 : decode cX10_winningStacks 235 = .ok (.getfield 32, 3) := by decide +kernel
theorem dX10_winningStacks_238 : decode cX10_winningStacks 238 = .ok (.iload 6, 2) := by decide +kernel
theorem dX10_winningStacks_240 : decode cX10_winningStacks 240 = .ok (.laload, 1) := by decide +kernel
theorem dX10_winningStacks_241 : decode cX10_winningStacks 241 = .ok (.lastore, 1) := by decide +kernel
theorem dX10_winningStacks_242 : decode cX10_winningStacks 242 = .ok (.iinc 6 1, 3) := by decide +kernel
theorem dX10_winningStacks_245 : decode cX10_winningStacks 245 = .ok (.goto (-24), 3) := by decide +kernel
theorem dX10_winningStacks_248 : decode cX10_winningStacks 248 = .ok (.iinc 5 1, 3) := by decide +kernel
theorem dX10_winningStacks_251 : decode cX10_winningStacks 251 = .ok (.goto (-134), 3) := by decide +kernel
theorem dX10_winningStacks_254 : decode cX10_winningStacks 254 = .ok (.lconst 0, 1) := by decide +kernel
theorem dX10_winningStacks_255 : decode cX10_winningStacks 255 = .ok (.lstore 5, 2) := by decide +kernel
theorem dX10_winningStacks_257 : decode cX10_winningStacks 257 = .ok (.iconst 0, 1) := by decide +kernel
theorem dX10_winningStacks_258 : decode cX10_winningStacks 258 = .ok (.istore 7, 2) := by decide +kernel
theorem dX10_winningStacks_260 : decode cX10_winningStacks 260 = .ok (.iload 7, 2) := by decide +kernel
theorem dX10_winningStacks_262 : decode cX10_winningStacks 262 = .ok (.bipush 16, 2) := by decide +kernel
theorem dX10_winningStacks_264 : decode cX10_winningStacks 264 = .ok (.if_icmp .ge 34, 3) := by decide +kernel
theorem dX10_winningStacks_267 : decode cX10_winningStacks 267 = .ok (.lload 5, 2) := by decide +kernel
theorem dX10_winningStacks_269 : decode cX10_winningStacks 269 = .ok (.iload 7, 2) := by decide +kernel
theorem dX10_winningStacks_271 : decode cX10_winningStacks 271 = .ok (.iload_n 1, 1) := by decide +kernel
theorem dX10_winningStacks_272 : decode cX10_winningStacks 272 = .ok (.invokestatic 122, 3) := by decide +kernel
theorem dX10_winningStacks_275 : decode cX10_winningStacks 275 = .ok (.ifCond .eq 13, 3) := by decide +kernel
theorem dX10_winningStacks_278 : decode cX10_winningStacks 278 = .ok (.aload_n 0, 1) := by decide +kernel
theorem dX10_winningStacks_279 : decode cX10_winningStacks 279 = .ok (.getfield 28, 3) := by decide +kernel
theorem dX10_winningStacks_282 : decode cX10_winningStacks 282 = .ok (.iload 7, 2) := by decide +kernel
theorem dX10_winningStacks_284 : decode cX10_winningStacks 284 = .ok (.laload, 1) := by decide +kernel
theorem dX10_winningStacks_285 : decode cX10_winningStacks 285 = .ok (.goto 4, 3) := by decide +kernel
theorem dX10_winningStacks_288 : decode cX10_winningStacks 288 = .ok (.lconst 0, 1) := by decide +kernel
theorem dX10_winningStacks_289 : decode cX10_winningStacks 289 = .ok (.ladd, 1) := by decide +kernel
theorem dX10_winningStacks_290 : decode cX10_winningStacks 290 = .ok (.lstore 5, 2) := by decide +kernel
theorem dX10_winningStacks_292 : decode cX10_winningStacks 292 = .ok (.iinc 7 1, 3) := by decide +kernel
theorem dX10_winningStacks_295 : decode cX10_winningStacks 295 = .ok (.goto (-35), 3) := by decide +kernel
theorem dX10_winningStacks_298 : decode cX10_winningStacks 298 = .ok (.lload 5, 2) := by decide +kernel
theorem dX10_winningStacks_300 : decode cX10_winningStacks 300 = .ok (.lreturn, 1) := by decide +kernel
set_option maxRecDepth 20000 in
theorem ggX10_isPlayableAt_X10_ofRule : GoodIn wsX10_isPlayableAt wsX10_ofRule := goodIn_r _ [8, 9, 10, 11, 12, 13, 14, 15, 16, 17, 18, 19, 20, 21, 22, 23, 24, 25, 26] (by decide +kernel) (by decide +kernel)
set_option maxRecDepth 20000 in
theorem gX10_isPlayableAt_X10_ofRule : GoodIn wsX10_isPlayableAt (wsV RX10 112 RX10 yX10_ofRule wsX10_ofRule) := goodIn_app (goodIn_of _ (by decide +kernel)) ggX10_isPlayableAt_X10_ofRule

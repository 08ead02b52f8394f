theorem dX10_isState_0 : decode cX10_isState 0 = .ok (.iload_n 1, 1) := by decide +kernel
theorem dX10_isState_1 : decode cX10_isState 1 = .ok (.i2l, 1) := by decide +kernel
theorem dX10_isState_2 : decode cX10_isState 2 = .ok (.lconst 0, 1) := by decide +kernel
theorem dX10_isState_3 : decode cX10_isState 3 = .ok (.aload_n 0, 1) := by decide +kernel
theorem dX10_isState_4 : decode cX10_isState 4 = .ok (.getfield 7, 3) := by decide +kernel
theorem dX10_isState_7 : decode cX10_isState 7 = .ok (.iconst 0, 1) := by decide +kernel
theorem dX10_isState_8 : decode cX10_isState 8 = .ok (.iaload, 1) := by decide +kernel
theorem dX10_isState_9 : decode cX10_isState 9 = .ok (.iconst 1, 1) := by decide +kernel
theorem dX10_isState_10 : decode cX10_isState 10 = .ok (.isub, 1) := by decide +kernel
theorem dX10_isState_11 : decode cX10_isState 11 = .ok (.i2l, 1) := by decide +kernel
theorem dX10_isState_12 : decode cX10_isState 12 = .ok (.invokestatic 58, 3) := by decide +kernel
theorem dX10_isState_15 : decode cX10_isState 15 = .ok (.ireturn, 1) := by decide +kernel
set_option maxRecDepth 20000 in
theorem ggX10_isSymbol_X10_in : GoodIn wsX10_isSymbol wsX10_in := goodIn_r _ [5] (by decide +kernel) (by decide +kernel)
set_option maxRecDepth 20000 in
theorem gX10_isSymbol_X10_in : GoodIn wsX10_isSymbol (va_wsS RX10 58 yX10_in wsX10_in) := goodIn_app (goodIn_of _ (by decide +kernel)) ggX10_isSymbol_X10_in
theorem dX10_isSymbol_0 : decode cX10_isSymbol 0 = .ok (.iload_n 1, 1) := by decide +kernel
theorem dX10_isSymbol_1 : decode cX10_isSymbol 1 = .ok (.i2l, 1) := by decide +kernel
theorem dX10_isSymbol_2 : decode cX10_isSymbol 2 = .ok (.lconst 0, 1) := by decide +kernel
theorem dX10_isSymbol_3 : decode cX10_isSymbol 3 = .ok (.aload_n 0, 1) := by decide +kernel
theorem dX10_isSymbol_4 : decode cX10_isSymbol 4 = .ok (.getfield 7, 3) := by decide +kernel
theorem dX10_isSymbol_7 : decode cX10_isSymbol 7 = .ok (.iconst 1, 1) := by decide +kernel
theorem dX10_isSymbol_8 : decode cX10_isSymbol 8 = .ok (.iaload, 1) := by decide +kernel
theorem dX10_isSymbol_9 : decode cX10_isSymbol 9 = .ok (.iconst 1, 1) := by decide +kernel
theorem dX10_isSymbol_10 : decode cX10_isSymbol 10 = .ok (.isub, 1) := by decide +kernel
theorem dX10_isSymbol_11 : decode cX10_isSymbol 11 = .ok (.i2l, 1) := by decide +kernel
theorem dX10_isSymbol_12 : decode cX10_isSymbol 12 = .ok (.invokestatic 58, 3) := by decide +kernel
theorem dX10_isSymbol_15 : decode cX10_isSymbol 15 = .ok (.ireturn, 1) := by decide +kernel
set_option maxRecDepth 20000 in
theorem ggX10_isRule_X10_in : GoodIn wsX10_isRule wsX10_in := goodIn_r _ [5] (by decide +kernel) (by decide +kernel)
set_option maxRecDepth 20000 in
theorem gX10_isRule_X10_in : GoodIn wsX10_isRule (va_wsS RX10 58 yX10_in wsX10_in) := goodIn_app (goodIn_of _ (by decide +kernel)) ggX10_isRule_X10_in
theorem dX10_isRule_0 : decode cX10_isRule 0 = .ok (.iload_n 1, 1) := by decide +kernel
theorem dX10_isRule_1 : decode cX10_isRule 1 = .ok (.i2l, 1) := by decide +kernel
theorem dX10_isRule_2 : decode cX10_isRule 2 = .ok (.lconst 0, 1) := by decide +kernel
theorem dX10_isRule_3 : decode cX10_isRule 3 = .ok (.aload_n 0, 1) := by decide +kernel
theorem dX10_isRule_4 : decode cX10_isRule 4 = .ok (.getfield 7, 3) := by decide +kernel
theorem dX10_isRule_7 : decode cX10_isRule 7 = .ok (.iconst 4, 1) := by decide +kernel
theorem dX10_isRule_8 : decode cX10_isRule 8 = .ok (.iaload, 1) := by decide +kernel
theorem dX10_isRule_9 : decode cX10_isRule 9 = .ok (.iconst 1, 1) := by decide +kernel
theorem dX10_isRule_10 : decode cX10_isRule 10 = .ok (.isub, 1) := by decide +kernel
theorem dX10_isRule_11 : decode cX10_isRule 11 = .ok (.i2l, 1) := by decide +kernel
theorem dX10_isRule_12 : decode cX10_isRule 12 = .ok (.invokestatic 58, 3) := by decide +kernel
theorem dX10_isRule_15 : decode cX10_isRule 15 = .ok (.ireturn, 1) := by decide +kernel
theorem dX10_has_0 : decode cX10_has 0 = .ok (.iload_n 0, 1) := by decide +kernel
theorem dX10_has_1 : decode cX10_has 1 = .ok (.iload_n 1, 1) := by decide +kernel
theorem dX10_has_2 : decode cX10_has 2 = .ok (.ishr, 1) := by decide +kernel
theorem dX10_has_3 : decode cX10_has 3 = .ok (.iconst 1, 1) := by decide +kernel
theorem dX10_has_4 : decode cX10_has 4 = .ok (.iand, 1) := by decide +kernel
theorem dX10_has_5 : decode cX10_has 5 = .ok (.iconst 1, 1) := by decide +kernel
theorem dX10_has_6 : decode cX10_has 6 = .ok (.if_icmp .ne 7, 3) := by decide +kernel
theorem dX10_has_9 : decode cX10_has 9 = .ok (.iconst 1, 1) := by decide +kernel
theorem dX10_has_10 : decode cX10_has 10 = .ok (.goto 4, 3) := by decide +kernel
theorem dX10_has_13 : decode cX10_has 13 = .ok (.iconst 0, 1) := by decide +kernel
theorem dX10_has_14 : decode cX10_has 14 = .ok (.ireturn, 1) := by decide +kernel
set_option maxRecDepth 20000 in
theorem ggX10_addRule_X10_isSymbol : GoodIn wsX10_addRule wsX10_isSymbol := goodIn_r _ [6, 1, 7, 8, 5, 9, 26, 27, 28, 29, 30, 31, 32, 33, 34, 35, 36, 37, 38, 39, 40, 41, 42] (by decide +kernel) (by decide +kernel)
set_option maxRecDepth 20000 in
theorem gX10_addRule_X10_isSymbol : GoodIn wsX10_addRule (wsV RX10 95 RX10 yX10_isSymbol wsX10_isSymbol) := goodIn_app (goodIn_of _ (by decide +kernel)) ggX10_addRule_X10_isSymbol
set_option maxRecDepth 20000 in
theorem ggX10_addRule_X10_isState : GoodIn wsX10_addRule wsX10_isState := goodIn_r _ [13, 1, 7, 8, 5, 9, 26, 27, 28, 29, 30, 31, 32, 33, 34, 35, 36, 37, 38, 39, 40, 41, 42] (by decide +kernel) (by decide +kernel)
set_option maxRecDepth 20000 in
theorem gX10_addRule_X10_isState : GoodIn wsX10_addRule (wsV RX10 99 RX10 yX10_isState wsX10_isState) := goodIn_app (goodIn_of _ (by decide +kernel)) ggX10_addRule_X10_isState
set_option maxRecDepth 20000 in
theorem ggX10_addRule_X10_hasRoom : GoodIn wsX10_addRule wsX10_hasRoom := goodIn_r _ [16] (by decide +kernel) (by decide +kernel)
set_option maxRecDepth 20000 in
theorem gX10_addRule_X10_hasRoom : GoodIn wsX10_addRule (va_wsS RX10 77 yX10_hasRoom wsX10_hasRoom) := goodIn_app (goodIn_of _ (by decide +kernel)) ggX10_addRule_X10_hasRoom
set_option maxRecDepth 20000 in
theorem ggX10_addRule_X10_keeps : GoodIn wsX10_addRule wsX10_keeps := goodIn_r _ [20, 21, 22, 1, 26, 27, 28, 29, 30, 31, 32, 33, 34, 35, 36, 37, 38, 39, 40, 41, 42] (by decide +kernel) (by decide +kernel)
set_option maxRecDepth 20000 in
theorem gX10_addRule_X10_keeps : GoodIn wsX10_addRule (wsV RX10 102 RX10 yX10_keeps wsX10_keeps) := goodIn_app (goodIn_of _ (by decide +kernel)) ggX10_addRule_X10_keeps
set_option maxRecDepth 20000 in
theorem ggX10_addRule_X10_rule : GoodIn wsX10_addRule wsX10_rule := goodIn_r _ [25] (by decide +kernel) (by decide +kernel)
set_option maxRecDepth 20000 in
theorem gX10_addRule_X10_rule : GoodIn wsX10_addRule (va_wsS RX10 50 yX10_rule wsX10_rule) := goodIn_app (goodIn_of _ (by decide +kernel)) ggX10_addRule_X10_rule
theorem dX10_addRule_0 : decode cX10_addRule 0 = .ok (.iload 4, 2) := by decide +kernel
theorem dX10_addRule_2 : decode cX10_addRule 2 = .ok (.iconst (-1), 1) := by decide +kernel
theorem dX10_addRule_3 : decode cX10_addRule 3 = .ok (.if_icmp .ne 17, 3) := by decide +kernel
theorem dX10_addRule_6 : decode cX10_addRule 6 = .ok (.iload 5, 2) := by decide +kernel
theorem dX10_addRule_8 : decode cX10_addRule 8 = .ok (.iconst (-1), 1) := by decide +kernel
theorem dX10_addRule_9 : decode cX10_addRule 9 = .ok (.if_icmp .ne 7, 3) := by decide +kernel
theorem dX10_addRule_12 : decode cX10_addRule 12 = .ok (.iconst 1, 1) := by decide +kernel
theorem dX10_addRule_13 : decode cX10_addRule 13 = .ok (.goto 36, 3) := by decide +kernel
theorem dX10_addRule_16 : decode cX10_addRule 16 = .ok (.iconst 0, 1) := by decide +kernel
theorem dX10_addRule_17 : decode cX10_addRule 17 = .ok (.goto 32, 3) := by decide +kernel
theorem dX10_addRule_20 : decode cX10_addRule 20 = .ok (.aload_n 0, 1) := by decide +kernel
theorem dX10_addRule_21 : decode cX10_addRule 21 = .ok (.iload 4, 2) := by decide +kernel
theorem dX10_addRule_23 : decode cX10_addRule 23 = .ok (.invokevirtual 95, 3) := by decide +kernel
theorem dX10_addRule_26 : decode cX10_addRule 26 = .ok (.ifCond .eq 22, 3) := by decide +kernel
theorem dX10_addRule_29 : decode cX10_addRule 29 = .ok (.iload 5, 2) := by decide +kernel
theorem dX10_addRule_31 : decode cX10_addRule 31 = .ok (.iconst (-1), 1) := by decide +kernel
theorem dX10_addRule_32 : decode cX10_addRule 32 = .ok (.if_icmp .eq 12, 3) := by decide +kernel
theorem dX10_addRule_35 : decode cX10_addRule 35 = .ok (.aload_n 0, 1) := by decide +kernel
theorem dX10_addRule_36 : decode cX10_addRule 36 = .ok (.iload 5, 2) := by decide +kernel
theorem dX10_addRule_38 : decode cX10_addRule 38 = .ok (.invokevirtual 95, 3) := by decide +kernel
theorem dX10_addRule_41 : decode cX10_addRule 41 = .ok (.ifCond .eq 7, 3) := by decide +kernel
theorem dX10_addRule_44 : decode cX10_addRule 44 = .ok (.iconst 1, 1) := by decide +kernel
theorem dX10_addRule_45 : decode cX10_addRule 45 = .ok (.goto 4, 3) := by decide +kernel
theorem dX10_addRule_48 : decode cX10_addRule 48 = .ok (.iconst 0, 1) := by decide +kernel
theorem dX10_addRule_49 : decode cX10_addRule 49 = .ok (.istore 6, 2) := by decide +kernel
theorem dX10_addRule_51 : decode cX10_addRule 51 = .ok (.aload_n 0, 1) := by decide +kernel
theorem dX10_addRule_52 : decode cX10_addRule 52 = .ok (.iload_n 1, 1) := by decide +kernel
theorem dX10_addRule_53 : decode cX10_addRule 53 = .ok (.invokevirtual 99, 3) := by decide +kernel
theorem dX10_addRule_56 : decode cX10_addRule 56 = .ok (.ifCond .eq 24, 3) := by decide +kernel
theorem dX10_addRule_59 : decode cX10_addRule 59 = .ok (.aload_n 0, 1) := by decide +kernel
theorem dX10_addRule_60 : decode cX10_addRule 60 = .ok (.iload_n 2, 1) := by decide +kernel
theorem dX10_addRule_61 : decode cX10_addRule 61 = .ok (.invokevirtual 95, 3) := by decide +kernel
theorem dX10_addRule_64 : decode cX10_addRule 64 = .ok (.ifCond .eq 16, 3) := by decide +kernel
theorem dX10_addRule_67 : decode cX10_addRule 67 = .ok (.aload_n 0, 1) := by decide +kernel
theorem dX10_addRule_68 : decode cX10_addRule 68 = .ok (.iload_n 3, 1) := by decide +kernel
theorem dX10_addRule_69 : decode cX10_addRule 69 = .ok (.invokevirtual 99, 3) := by decide +kernel
theorem dX10_addRule_72 : decode cX10_addRule 72 = .ok (.ifCond .eq 8, 3) := by decide +kernel
theorem dX10_addRule_75 : decode cX10_addRule 75 = .ok (.iload 6, 2) := by decide +kernel
theorem dX10_addRule_77 : decode cX10_addRule 77 = .ok (.ifCond .ne 5, 3) := by decide +kernel
theorem dX10_addRule_80 : decode cX10_addRule 80 = .ok (.iconst (-1), 1) := by decide +kernel
theorem dX10_addRule_81 : decode cX10_addRule 81 = .ok (.ireturn, 1) := by decide +kernel
theorem dX10_addRule_82 : decode cX10_addRule 82 = .ok (.aload_n 0, 1) := by decide +kernel
theorem dX10_addRule_83 : decode cX10_addRule 83 = .ok (.getfield 7, 3) := by decide +kernel
theorem dX10_addRule_86 : decode cX10_addRule 86 = .ok (.iload_n 1, 1) := by decide +kernel
theorem dX10_addRule_87 : decode cX10_addRule 87 = .ok (.iload_n 2, 1) := by decide +kernel
theorem dX10_addRule_88 : decode cX10_addRule 88 = .ok (.invokestatic 77, 3) := by decide +kernel
theorem dX10_addRule_91 : decode cX10_addRule 91 = .ok (.ifCond .ne 6, 3) := by decide +kernel
theorem dX10_addRule_94 : decode cX10_addRule 94 = .ok (.bipush (-3), 2) := by decide +kernel
theorem dX10_addRule_96 : decode cX10_addRule 96 = .ok (.ireturn, 1) := by decide +kernel
theorem dX10_addRule_97 : decode cX10_addRule 97 = .ok (.aload_n 0, 1) := by decide +kernel
theorem dX10_addRule_98 : decode cX10_addRule 98 = .ok (.invokevirtual 102, 3) := by decide +kernel
theorem dX10_addRule_101 : decode cX10_addRule 101 = .ok (.aload_n 0, 1) := by decide +kernel
theorem dX10_addRule_102 : decode cX10_addRule 102 = .ok (.getfield 7, 3) := by decide +kernel
theorem dX10_addRule_105 : decode cX10_addRule 105 = .ok (.iload_n 1, 1) := by decide +kernel
theorem dX10_addRule_106 : decode cX10_addRule 106 = .ok (.iload_n 2, 1) := by decide +kernel
theorem dX10_addRule_107 : decode cX10_addRule 107 = .ok (.iload_n 3, 1) := by decide +kernel
theorem dX10_addRule_108 : decode cX10_addRule 108 = .ok (.iload 4, 2) := by decide +kernel
theorem dX10_addRule_110 : decode cX10_addRule 110 = .ok (.iload 5, 2) := by decide +kernel
theorem dX10_addRule_112 : decode cX10_addRule 112 = .ok (.invokestatic 50, 3) := by decide +kernel
theorem dX10_addRule_115 : decode cX10_addRule 115 = .ok (.aload_n 0, 1) := by decide +kernel
theorem dX10_addRule_116 : decode cX10_addRule 116 = .ok (.getfield 7, 3) := by decide +kernel
theorem dX10_addRule_119 : decode cX10_addRule 119 = .ok (.iconst 4, 1) := by decide +kernel
theorem dX10_addRule_120 : decode cX10_addRule 120 = .ok (.iaload, 1) := by decide +kernel
theorem dX10_addRule_121 : decode cX10_addRule 121 = .ok (.iconst 1, 1) := by decide +kernel
theorem dX10_addRule_122 : decode cX10_addRule 122 = .ok (.isub, 1) := by decide +kernel
theorem dX10_addRule_123 : decode cX10_addRule 123 = .ok (.ireturn, 1) := by decide +kernel
set_option maxRecDepth 20000 in
theorem ggX10_removeRule_X10_isRule : GoodIn wsX10_removeRule wsX10_isRule := goodIn_r _ [6, 1, 7, 8, 5, 9, 16, 17, 18, 19, 20, 21, 22, 23, 24, 25, 26, 27, 28, 29, 30, 31, 32] (by decide +kernel) (by decide +kernel)
set_option maxRecDepth 20000 in
theorem gX10_removeRule_X10_isRule : GoodIn wsX10_removeRule (wsV RX10 105 RX10 yX10_isRule wsX10_isRule) := goodIn_app (goodIn_of _ (by decide +kernel)) ggX10_removeRule_X10_isRule
set_option maxRecDepth 20000 in
theorem ggX10_removeRule_X10_keeps : GoodIn wsX10_removeRule wsX10_keeps := goodIn_r _ [13, 14, 15, 1, 16, 17, 18, 19, 20, 21, 22, 23, 24, 25, 26, 27, 28, 29, 30, 31, 32] (by decide +kernel) (by decide +kernel)
set_option maxRecDepth 20000 in
theorem gX10_removeRule_X10_keeps : GoodIn wsX10_removeRule (wsV RX10 102 RX10 yX10_keeps wsX10_keeps) := goodIn_app (goodIn_of _ (by decide +kernel)) ggX10_removeRule_X10_keeps
theorem dX10_removeRule_0 : decode cX10_removeRule 0 = .ok (.aload_n 0, 1) := by decide +kernel
theorem dX10_removeRule_1 : decode cX10_removeRule 1 = .ok (.iload_n 1, 1) := by decide +kernel
theorem dX10_removeRule_2 : decode cX10_removeRule 2 = .ok (.invokevirtual 105, 3) := by decide +kernel
theorem dX10_removeRule_5 : decode cX10_removeRule 5 = .ok (.ifCond .ne 5, 3) := by decide +kernel
theorem dX10_removeRule_8 : decode cX10_removeRule 8 = .ok (.iconst (-1), 1) := by decide +kernel
theorem dX10_removeRule_9 : decode cX10_removeRule 9 = .ok (.ireturn, 1) := by decide +kernel
theorem dX10_removeRule_10 : decode cX10_removeRule 10 = .ok (.aload_n 0, 1) := by decide +kernel
theorem dX10_removeRule_11 : decode cX10_removeRule 11 = .ok (.invokevirtual 102, 3) := by decide +kernel
theorem dX10_removeRule_14 : decode cX10_removeRule 14 = .ok (.aload_n 0, 1) := by decide +kernel
theorem dX10_removeRule_15 : decode cX10_removeRule 15 = .ok (.getfield 7, 3) := by decide +kernel
theorem dX10_removeRule_18 : decode cX10_removeRule 18 = .ok (.iconst 4, 1) := by decide +kernel
theorem dX10_removeRule_19 : decode cX10_removeRule 19 = .ok (.dup2, 1) := by decide +kernel
theorem dX10_removeRule_20 : decode cX10_removeRule 20 = .ok (.iaload, 1) := by decide +kernel
theorem dX10_removeRule_21 : decode cX10_removeRule 21 = .ok (.iconst 1, 1) := by decide +kernel
theorem dX10_removeRule_22 : decode cX10_removeRule 22 = .ok (.isub, 1) := by decide +kernel
theorem dX10_removeRule_23 : decode cX10_removeRule 23 = .ok (.iastore, 1) := by decide +kernel
theorem dX10_removeRule_24 : decode cX10_removeRule 24 = .ok (.iconst 5, 1) := by decide +kernel
theorem dX10_removeRule_25 : decode cX10_removeRule 25 = .ok (.iconst 5, 1) := by decide +kernel
theorem dX10_removeRule_26 : decode cX10_removeRule 26 = .ok (.iload_n 1, 1) := by decide +kernel
theorem dX10_removeRule_27 : decode cX10_removeRule 27 = .ok (.imul, 1) := by decide +kernel
theorem dX10_removeRule_28 : decode cX10_removeRule 28 = .ok (.iadd, 1) := by decide +kernel
theorem dX10_removeRule_29 : decode cX10_removeRule 29 = .ok (.istore_n 2, 1) := by decide +kernel
theorem dX10_removeRule_30 : decode cX10_removeRule 30 = .ok (.iload_n 2, 1) := by decide +kernel
theorem dX10_removeRule_31 : decode cX10_removeRule 31 = .ok (.iconst 5, 1) := by decide +kernel
theorem dX10_removeRule_32 : decode cX10_removeRule 32 = .ok (.iconst 5, 1) := by decide +kernel
theorem dX10_removeRule_33 : decode cX10_removeRule 33 = .ok (.aload_n 0, 1) := by decide +kernel
theorem dX10_removeRule_34 : decode cX10_removeRule 34 = .ok (.getfield 7, 3) := by decide +kernel
theorem dX10_removeRule_37 : decode cX10_removeRule 37 = .ok (.iconst 4, 1) := by decide +kernel
theorem dX10_removeRule_38 : decode cX10_removeRule 38 = .ok (.iaload, 1) := by decide +kernel
theorem dX10_removeRule_39 : decode cX10_removeRule 39 = .ok (.imul, 1) := by decide +kernel
theorem dX10_removeRule_40 : decode cX10_removeRule 40 = .ok (.iadd, 1) := by decide +kernel
theorem dX10_removeRule_41 : decode cX10_removeRule 41 = .ok (.if_icmp .ge 23, 3) := by decide +kernel
theorem dX10_removeRule_44 : decode cX10_removeRule 44 = .ok (.aload_n 0, 1) := by decide +kernel
theorem dX10_removeRule_45 : decode cX10_removeRule 45 = .ok (.getfield 7, 3) := by decide +kernel
theorem dX10_removeRule_48 : decode cX10_removeRule 48 = .ok (.iload_n 2, 1) := by decide +kernel
theorem dX10_removeRule_49 : decode cX10_removeRule 49 = .ok (.aload_n 0, 1) := by decide +kernel
theorem dX10_removeRule_50 : decode cX10_removeRule 50 = .ok (.getfield 7, 3) := by decide +kernel
theorem dX10_removeRule_53 : decode cX10_removeRule 53 = .ok (.iload_n 2, 1) := by decide +kernel
theorem dX10_removeRule_54 : decode cX10_removeRule 54 = .ok (.iconst 5, 1) := by decide +kernel
theorem dX10_removeRule_55 : decode cX10_removeRule 55 = .ok (.iadd, 1) := by decide +kernel
theorem dX10_removeRule_56 : decode cX10_removeRule 56 = .ok (.iaload, 1) := by decide +kernel
theorem dX10_removeRule_57 : decode cX10_removeRule 57 = .ok (.iastore, 1) := by decide +kernel
theorem dX10_removeRule_58 : decode cX10_removeRule 58 = .ok (.iinc 2 1, 3) := by decide +kernel
theorem dX10_removeRule_61 : decode cX10_removeRule 61 = .ok (.goto (-31), 3) := by decide +kernel
theorem dX10_removeRule_64 : decode cX10_removeRule 64 = .ok (.aload_n 0, 1) := by decide +kernel
theorem dX10_removeRule_65 : decode cX10_removeRule 65 = .ok (.getfield 7, 3) := by decide +kernel
theorem dX10_removeRule_68 : decode cX10_removeRule 68 = .ok (.iconst 4, 1) := by decide +kernel
theorem dX10_removeRule_69 : decode cX10_removeRule 69 = .ok (.iaload, 1) := by decide +kernel
theorem dX10_removeRule_70 : decode cX10_removeRule 70 = .ok (.ireturn, 1) := by decide +kernel
set_option maxRecDepth 20000 in
theorem ggX10_sets_X10_keeps : GoodIn wsX10_sets wsX10_keeps := goodIn_r _ [6, 7, 8, 1, 9, 10, 11, 12, 13, 14, 15, 16, 17, 18, 19, 20, 21, 22, 23, 24, 25] (by decide +kernel) (by decide +kernel)
set_option maxRecDepth 20000 in
theorem gX10_sets_X10_keeps : GoodIn wsX10_sets (wsV RX10 102 RX10 yX10_keeps wsX10_keeps) := goodIn_app (goodIn_of _ (by decide +kernel)) ggX10_sets_X10_keeps
theorem dX10_sets_0 : decode cX10_sets 0 = .ok (.aload_n 0, 1) := by decide +kernel
theorem dX10_sets_1 : decode cX10_sets 1 = .ok (.invokevirtual 102, 3) := by decide +kernel
theorem dX10_sets_4 : decode cX10_sets 4 = .ok (.aload_n 0, 1) := by decide +kernel
theorem dX10_sets_5 : decode cX10_sets 5 = .ok (.getfield 7, 3) := by decide +kernel
theorem dX10_sets_8 : decode cX10_sets 8 = .ok (.iload_n 1, 1) := by decide +kernel
theorem dX10_sets_9 : decode cX10_sets 9 = .ok (.iaload, 1) := by decide +kernel
theorem dX10_sets_10 : decode cX10_sets 10 = .ok (.iload_n 2, 1) := by decide +kernel
theorem dX10_sets_11 : decode cX10_sets 11 = .ok (.ishr, 1) := by decide +kernel
theorem dX10_sets_12 : decode cX10_sets 12 = .ok (.iconst 1, 1) := by decide +kernel
theorem dX10_sets_13 : decode cX10_sets 13 = .ok (.iand, 1) := by decide +kernel
theorem dX10_sets_14 : decode cX10_sets 14 = .ok (.istore 4, 2) := by decide +kernel
theorem dX10_sets_16 : decode cX10_sets 16 = .ok (.aload_n 0, 1) := by decide +kernel
theorem dX10_sets_17 : decode cX10_sets 17 = .ok (.getfield 7, 3) := by decide +kernel
theorem dX10_sets_20 : decode cX10_sets 20 = .ok (.iload_n 1, 1) := by decide +kernel
theorem dX10_sets_21 : decode cX10_sets 21 = .ok (.aload_n 0, 1) := by decide +kernel
theorem dX10_sets_22 : decode cX10_sets 22 = .ok (.getfield 7, 3) := by decide +kernel
theorem dX10_sets_25 : decode cX10_sets 25 = .ok (.iload_n 1, 1) := by decide +kernel
theorem dX10_sets_26 : decode cX10_sets 26 = .ok (.iaload, 1) := by decide +kernel
theorem dX10_sets_27 : decode cX10_sets 27 = .ok (.iconst 1, 1) := by decide +kernel
theorem dX10_sets_28 : decode cX10_sets 28 = .ok (.iload_n 2, 1) := by decide +kernel
theorem dX10_sets_29 : decode cX10_sets 29 = .ok (.ishl, 1) := by decide +kernel
theorem dX10_sets_30 : decode cX10_sets 30 = .ok (.iconst (-1), 1) := by decide +kernel
theorem dX10_sets_31 : decode cX10_sets 31 = .ok (.ixor, 1) := by decide +kernel
theorem dX10_sets_32 : decode cX10_sets 32 = .ok (.iand, 1) := by decide +kernel
theorem dX10_sets_33 : decode cX10_sets 33 = .ok (.iload_n 3, 1) := by decide +kernel
theorem dX10_sets_34 : decode cX10_sets 34 = .ok (.iload_n 2, 1) := by decide +kernel
theorem dX10_sets_35 : decode cX10_sets 35 = .ok (.ishl, 1) := by decide +kernel
theorem dX10_sets_36 : decode cX10_sets 36 = .ok (.ior, 1) := by decide +kernel
theorem dX10_sets_37 : decode cX10_sets 37 = .ok (.iastore, 1) := by decide +kernel
theorem dX10_sets_38 : decode cX10_sets 38 = .ok (.iload 4, 2) := by decide +kernel
theorem dX10_sets_40 : decode cX10_sets 40 = .ok (.ireturn, 1) := by decide +kernel
set_option maxRecDepth 20000 in
theorem ggX10_setOwner_X10_isState : GoodIn wsX10_setOwner wsX10_isState := goodIn_r _ [5, 6, 7, 8, 4, 9, 20, 21, 22, 23, 24, 25, 26, 27, 28, 29, 30, 31, 32, 33, 34, 35, 36] (by decide +kernel) (by decide +kernel)
set_option maxRecDepth 20000 in
theorem gX10_setOwner_X10_isState : GoodIn wsX10_setOwner (wsV RX10 99 RX10 yX10_isState wsX10_isState) := goodIn_app (goodIn_of _ (by decide +kernel)) ggX10_setOwner_X10_isState
set_option maxRecDepth 20000 in
theorem ggX10_setOwner_X10_in : GoodIn wsX10_setOwner wsX10_in := goodIn_r _ [9] (by decide +kernel) (by decide +kernel)
set_option maxRecDepth 20000 in
theorem gX10_setOwner_X10_in : GoodIn wsX10_setOwner (va_wsS RX10 58 yX10_in wsX10_in) := goodIn_app (goodIn_of _ (by decide +kernel)) ggX10_setOwner_X10_in
set_option maxRecDepth 20000 in
theorem ggX10_setOwner_X10_sets : GoodIn wsX10_setOwner wsX10_sets := goodIn_r _ [13, 6, 14, 15, 16, 4, 17, 18, 19, 20, 21, 22, 23, 24, 25, 26, 27, 28, 29, 30, 31, 32, 33, 34, 35, 36] (by decide +kernel) (by decide +kernel)
set_option maxRecDepth 20000 in
theorem gX10_setOwner_X10_sets : GoodIn wsX10_setOwner (wsV RX10 108 RX10 yX10_sets wsX10_sets) := goodIn_app (goodIn_of _ (by decide +kernel)) ggX10_setOwner_X10_sets
theorem dX10_setOwner_0 : decode cX10_setOwner 0 = .ok (.aload_n 0, 1) := by decide +kernel
theorem dX10_setOwner_1 : decode cX10_setOwner 1 = .ok (.iload_n 1, 1) := by decide +kernel
theorem dX10_setOwner_2 : decode cX10_setOwner 2 = .ok (.invokevirtual 99, 3) := by decide +kernel
theorem dX10_setOwner_5 : decode cX10_setOwner 5 = .ok (.ifCond .eq 23, 3) := by decide +kernel
theorem dX10_setOwner_8 : decode cX10_setOwner 8 = .ok (.iload_n 2, 1) := by decide +kernel
theorem dX10_setOwner_9 : decode cX10_setOwner 9 = .ok (.i2l, 1) := by decide +kernel
theorem dX10_setOwner_10 : decode cX10_setOwner 10 = .ok (.lconst 0, 1) := by decide +kernel
theorem dX10_setOwner_11 : decode cX10_setOwner 11 = .ok (.lconst 1, 1) := by decide +kernel
theorem dX10_setOwner_12 : decode cX10_setOwner 12 = .ok (.invokestatic 58, 3) := by decide +kernel
theorem dX10_setOwner_15 : decode cX10_setOwner 15 = .ok (.ifCond .eq 13, 3) := by decide +kernel
theorem dX10_setOwner_18 : decode cX10_setOwner 18 = .ok (.aload_n 0, 1) := by decide +kernel
theorem dX10_setOwner_19 : decode cX10_setOwner 19 = .ok (.iconst 2, 1) := by decide +kernel
theorem dX10_setOwner_20 : decode cX10_setOwner 20 = .ok (.iload_n 1, 1) := by decide +kernel
theorem dX10_setOwner_21 : decode cX10_setOwner 21 = .ok (.iload_n 2, 1) := by decide +kernel
theorem dX10_setOwner_22 : decode cX10_setOwner 22 = .ok (.invokevirtual 108, 3) := by decide +kernel
theorem dX10_setOwner_25 : decode cX10_setOwner 25 = .ok (.goto 4, 3) := by decide +kernel
theorem dX10_setOwner_28 : decode cX10_setOwner 28 = .ok (.iconst (-1), 1) := by decide +kernel
theorem dX10_setOwner_29 : decode cX10_setOwner 29 = .ok (.ireturn, 1) := by decide +kernel
set_option maxRecDepth 20000 in
theorem ggX10_setTarget_X10_isState : GoodIn wsX10_setTarget wsX10_isState := goodIn_r _ [5, 6, 7, 8, 4, 9, 20, 21, 22, 23, 24, 25, 26, 27, 28, 29, 30, 31, 32, 33, 34, 35, 36] (by decide +kernel) (by decide +kernel)
set_option maxRecDepth 20000 in
theorem gX10_setTarget_X10_isState : GoodIn wsX10_setTarget (wsV RX10 99 RX10 yX10_isState wsX10_isState) := goodIn_app (goodIn_of _ (by decide +kernel)) ggX10_setTarget_X10_isState
set_option maxRecDepth 20000 in
theorem ggX10_setTarget_X10_in : GoodIn wsX10_setTarget wsX10_in := goodIn_r _ [9] (by decide +kernel) (by decide +kernel)
set_option maxRecDepth 20000 in
theorem gX10_setTarget_X10_in : GoodIn wsX10_setTarget (va_wsS RX10 58 yX10_in wsX10_in) := goodIn_app (goodIn_of _ (by decide +kernel)) ggX10_setTarget_X10_in
set_option maxRecDepth 20000 in
theorem ggX10_setTarget_X10_sets : GoodIn wsX10_setTarget wsX10_sets := goodIn_r _ [13, 6, 14, 15, 16, 4, 17, 18, 19, 20, 21, 22, 23, 24, 25, 26, 27, 28, 29, 30, 31, 32, 33, 34, 35, 36] (by decide +kernel) (by decide +kernel)
set_option maxRecDepth 20000 in
theorem gX10_setTarget_X10_sets : GoodIn wsX10_setTarget (wsV RX10 108 RX10 yX10_sets wsX10_sets) := goodIn_app (goodIn_of _ (by decide +kernel)) ggX10_setTarget_X10_sets
theorem dX10_setTarget_0 : decode cX10_setTarget 0 = .ok (.aload_n 0, 1) := by decide +kernel
theorem dX10_setTarget_1 : decode cX10_setTarget 1 = .ok (.iload_n 1, 1) := by decide +kernel
theorem dX10_setTarget_2 : decode cX10_setTarget 2 = .ok (.invokevirtual 99, 3) := by decide +kernel
theorem dX10_setTarget_5 : decode cX10_setTarget 5 = .ok (.ifCond .eq 23, 3) := by decide +kernel
theorem dX10_setTarget_8 : decode cX10_setTarget 8 = .ok (.iload_n 2, 1) := by decide +kernel
theorem dX10_setTarget_9 : decode cX10_setTarget 9 = .ok (.i2l, 1) := by decide +kernel
theorem dX10_setTarget_10 : decode cX10_setTarget 10 = .ok (.lconst 0, 1) := by decide +kernel
theorem dX10_setTarget_11 : decode cX10_setTarget 11 = .ok (.lconst 1, 1) := by decide +kernel
theorem dX10_setTarget_12 : decode cX10_setTarget 12 = .ok (.invokestatic 58, 3) := by decide +kernel
theorem dX10_setTarget_15 : decode cX10_setTarget 15 = .ok (.ifCond .eq 13, 3) := by decide +kernel
theorem dX10_setTarget_18 : decode cX10_setTarget 18 = .ok (.aload_n 0, 1) := by decide +kernel
theorem dX10_setTarget_19 : decode cX10_setTarget 19 = .ok (.iconst 3, 1) := by decide +kernel
theorem dX10_setTarget_20 : decode cX10_setTarget 20 = .ok (.iload_n 1, 1) := by decide +kernel
theorem dX10_setTarget_21 : decode cX10_setTarget 21 = .ok (.iload_n 2, 1) := by decide +kernel
theorem dX10_setTarget_22 : decode cX10_setTarget 22 = .ok (.invokevirtual 108, 3) := by decide +kernel
theorem dX10_setTarget_25 : decode cX10_setTarget 25 = .ok (.goto 4, 3) := by decide +kernel
theorem dX10_setTarget_28 : decode cX10_setTarget 28 = .ok (.iconst (-1), 1) := by decide +kernel
theorem dX10_setTarget_29 : decode cX10_setTarget 29 = .ok (.ireturn, 1) := by decide +kernel
set_option maxRecDepth 20000 in
theorem ggX10_place_X10_isState : GoodIn wsX10_place wsX10_isState := goodIn_r _ [6, 1, 7, 8, 5, 9, 16, 17, 18, 19, 20, 21, 22, 23, 24, 25, 26, 27, 28, 29, 30, 31, 32] (by decide +kernel) (by decide +kernel)
set_option maxRecDepth 20000 in
theorem gX10_place_X10_isState : GoodIn wsX10_place (wsV RX10 99 RX10 yX10_isState wsX10_isState) := goodIn_app (goodIn_of _ (by decide +kernel)) ggX10_place_X10_isState
set_option maxRecDepth 20000 in
theorem ggX10_place_X10_keeps : GoodIn wsX10_place wsX10_keeps := goodIn_r _ [13, 14, 15, 1, 16, 17, 18, 19, 20, 21, 22, 23, 24, 25, 26, 27, 28, 29, 30, 31, 32] (by decide +kernel) (by decide +kernel)
set_option maxRecDepth 20000 in
theorem gX10_place_X10_keeps : GoodIn wsX10_place (wsV RX10 102 RX10 yX10_keeps wsX10_keeps) := goodIn_app (goodIn_of _ (by decide +kernel)) ggX10_place_X10_keeps
theorem dX10_place_0 : decode cX10_place 0 = .ok (.aload_n 0, 1) := by decide +kernel
theorem dX10_place_1 : decode cX10_place 1 = .ok (.iload_n 1, 1) := by decide +kernel
theorem dX10_place_2 : decode cX10_place 2 = .ok (.invokevirtual 99, 3) := by decide +kernel
theorem dX10_place_5 : decode cX10_place 5 = .ok (.ifCond .ne 5, 3) := by decide +kernel
theorem dX10_place_8 : decode cX10_place 8 = .ok (.iconst (-1), 1) := by decide +kernel
theorem dX10_place_9 : decode cX10_place 9 = .ok (.ireturn, 1) := by decide +kernel
theorem dX10_place_10 : decode cX10_place 10 = .ok (.aload_n 0, 1) := by decide +kernel
theorem dX10_place_11 : decode cX10_place 11 = .ok (.invokevirtual 102, 3) := by decide +kernel
theorem dX10_place_14 : decode cX10_place 14 = .ok (.aload_n 0, 1) := by decide +kernel
theorem dX10_place_15 : decode cX10_place 15 = .ok (.getfield 7, 3) := by decide +kernel
theorem dX10_place_18 : decode cX10_place 18 = .ok (.bipush 86, 2) := by decide +kernel
theorem dX10_place_20 : decode cX10_place 20 = .ok (.iaload, 1) := by decide +kernel
theorem dX10_place_21 : decode cX10_place 21 = .ok (.istore_n 2, 1) := by decide +kernel
theorem dX10_place_22 : decode cX10_place 22 = .ok (.aload_n 0, 1) := by decide +kernel
theorem dX10_place_23 : decode cX10_place 23 = .ok (.getfield 7, 3) := by decide +kernel
theorem dX10_place_26 : decode cX10_place 26 = .ok (.bipush 85, 2) := by decide +kernel
theorem dX10_place_28 : decode cX10_place 28 = .ok (.iload_n 1, 1) := by decide +kernel
theorem dX10_place_29 : decode cX10_place 29 = .ok (.iastore, 1) := by decide +kernel
theorem dX10_place_30 : decode cX10_place 30 = .ok (.aload_n 0, 1) := by decide +kernel
theorem dX10_place_31 : decode cX10_place 31 = .ok (.getfield 7, 3) := by decide +kernel
theorem dX10_place_34 : decode cX10_place 34 = .ok (.bipush 86, 2) := by decide +kernel
theorem dX10_place_36 : decode cX10_place 36 = .ok (.iconst 0, 1) := by decide +kernel
theorem dX10_place_37 : decode cX10_place 37 = .ok (.iastore, 1) := by decide +kernel
theorem dX10_place_38 : decode cX10_place 38 = .ok (.iload_n 2, 1) := by decide +kernel
theorem dX10_place_39 : decode cX10_place 39 = .ok (.ireturn, 1) := by decide +kernel
set_option maxRecDepth 20000 in
theorem ggX10_push_X10_isSymbol : GoodIn wsX10_push wsX10_isSymbol := goodIn_r _ [6, 1, 7, 8, 5, 9, 16, 17, 18, 19, 20, 21, 22, 23, 24, 25, 26, 27, 28, 29, 30, 31, 32] (by decide +kernel) (by decide +kernel)
set_option maxRecDepth 20000 in
theorem gX10_push_X10_isSymbol : GoodIn wsX10_push (wsV RX10 95 RX10 yX10_isSymbol wsX10_isSymbol) := goodIn_app (goodIn_of _ (by decide +kernel)) ggX10_push_X10_isSymbol
set_option maxRecDepth 20000 in
theorem ggX10_push_X10_keeps : GoodIn wsX10_push wsX10_keeps := goodIn_r _ [13, 14, 15, 1, 16, 17, 18, 19, 20, 21, 22, 23, 24, 25, 26, 27, 28, 29, 30, 31, 32] (by decide +kernel) (by decide +kernel)
set_option maxRecDepth 20000 in
theorem gX10_push_X10_keeps : GoodIn wsX10_push (wsV RX10 102 RX10 yX10_keeps wsX10_keeps) := goodIn_app (goodIn_of _ (by decide +kernel)) ggX10_push_X10_keeps
theorem dX10_push_0 : decode cX10_push 0 = .ok (.aload_n 0, 1) := by decide +kernel
theorem dX10_push_1 : decode cX10_push 1 = .ok (.iload_n 1, 1) := by decide +kernel
theorem dX10_push_2 : decode cX10_push 2 = .ok (.invokevirtual 95, 3) := by decide +kernel
theorem dX10_push_5 : decode cX10_push 5 = .ok (.ifCond .ne 5, 3) := by decide +kernel
theorem dX10_push_8 : decode cX10_push 8 = .ok (.iconst (-1), 1) := by decide +kernel
theorem dX10_push_9 : decode cX10_push 9 = .ok (.ireturn, 1) := by decide +kernel
theorem dX10_push_10 : decode cX10_push 10 = .ok (.aload_n 0, 1) := by decide +kernel
theorem dX10_push_11 : decode cX10_push 11 = .ok (.getfield 7, 3) := by decide +kernel
theorem dX10_push_14 : decode cX10_push 14 = .ok (.bipush 86, 2) := by decide +kernel
theorem dX10_push_16 : decode cX10_push 16 = .ok (.iaload, 1) := by decide +kernel
theorem dX10_push_17 : decode cX10_push 17 = .ok (.bipush 12, 2) := by decide +kernel
theorem dX10_push_19 : decode cX10_push 19 = .ok (.if_icmp .ne 6, 3) := by decide +kernel
theorem dX10_push_22 : decode cX10_push 22 = .ok (.bipush (-3), 2) := by decide +kernel
theorem dX10_push_24 : decode cX10_push 24 = .ok (.ireturn, 1) := by decide +kernel
theorem dX10_push_25 : decode cX10_push 25 = .ok (.aload_n 0, 1) := by decide +kernel
theorem dX10_push_26 : decode cX10_push 26 = .ok (.invokevirtual 102, 3) := by decide +kernel
theorem dX10_push_29 : decode cX10_push 29 = .ok (.aload_n 0, 1) := by decide +kernel
theorem dX10_push_30 : decode cX10_push 30 = .ok (.getfield 7, 3) := by decide +kernel
theorem dX10_push_33 : decode cX10_push 33 = .ok (.bipush 87, 2) := by decide +kernel
theorem dX10_push_35 : decode cX10_push 35 = .ok (.aload_n 0, 1) := by decide +kernel
theorem dX10_push_36 : decode cX10_push 36 = .ok (.getfield 7, 3) := by decide +kernel
theorem dX10_push_39 : decode cX10_push 39 = .ok (.bipush 86, 2) := by decide +kernel
theorem dX10_push_41 : decode cX10_push 41 = .ok (.iaload, 1) := by decide +kernel
theorem dX10_push_42 : decode cX10_push 42 = .ok (.iadd, 1) := by decide +kernel
theorem dX10_push_43 : decode cX10_push 43 = .ok (.iload_n 1, 1) := by decide +kernel
theorem dX10_push_44 : decode cX10_push 44 = .ok (.iastore, 1) := by decide +kernel
theorem dX10_push_45 : decode cX10_push 45 = .ok (.aload_n 0, 1) := by decide +kernel
theorem dX10_push_46 : decode cX10_push 46 = .ok (.getfield 7, 3) := by decide +kernel
theorem dX10_push_49 : decode cX10_push 49 = .ok (.bipush 86, 2) := by decide +kernel
theorem dX10_push_51 : decode cX10_push 51 = .ok (.dup2, 1) := by decide +kernel
theorem dX10_push_52 : decode cX10_push 52 = .ok (.iaload, 1) := by decide +kernel
theorem dX10_push_53 : decode cX10_push 53 = .ok (.iconst 1, 1) := by decide +kernel
theorem dX10_push_54 : decode cX10_push 54 = .ok (.iadd, 1) := by decide +kernel
theorem dX10_push_55 : decode cX10_push 55 = .ok (.iastore, 1) := by decide +kernel
theorem dX10_push_56 : decode cX10_push 56 = .ok (.aload_n 0, 1) := by decide +kernel
theorem dX10_push_57 : decode cX10_push 57 = .ok (.getfield 7, 3) := by decide +kernel
theorem dX10_push_60 : decode cX10_push 60 = .ok (.bipush 86, 2) := by decide +kernel
theorem dX10_push_62 : decode cX10_push 62 = .ok (.iaload, 1) := by decide +kernel
theorem dX10_push_63 : decode cX10_push 63 = .ok (.ireturn, 1) := by decide +kernel
theorem dX10_ofRule_0 : decode cX10_ofRule 0 = .ok (.aload_n 0, 1) := by decide +kernel
theorem dX10_ofRule_1 : decode cX10_ofRule 1 = .ok (.getfield 7, 3) := by decide +kernel
theorem dX10_ofRule_4 : decode cX10_ofRule 4 = .ok (.iconst 5, 1) := by decide +kernel
theorem dX10_ofRule_5 : decode cX10_ofRule 5 = .ok (.iconst 5, 1) := by decide +kernel
theorem dX10_ofRule_6 : decode cX10_ofRule 6 = .ok (.iload_n 1, 1) := by decide +kernel
theorem dX10_ofRule_7 : decode cX10_ofRule 7 = .ok (.imul, 1) := by decide +kernel
theorem dX10_ofRule_8 : decode cX10_ofRule 8 = .ok (.iadd, 1) := by decide +kernel
theorem dX10_ofRule_9 : decode cX10_ofRule 9 = .ok (.iload_n 2, 1) := by decide +kernel
theorem dX10_ofRule_10 : decode cX10_ofRule 10 = .ok (.iadd, 1) := by decide +kernel
theorem dX10_ofRule_11 : decode cX10_ofRule 11 = .ok (.iaload, 1) := by decide +kernel
theorem dX10_ofRule_12 : decode cX10_ofRule 12 = .ok (.ireturn, 1) := by decide +kernel
set_option maxRecDepth 20000 in
theorem ggX10_pushes_X10_ofRule : GoodIn wsX10_pushes wsX10_ofRule := goodIn_r _ [5, 6, 7, 8, 9, 10, 11, 12, 13, 14, 15, 16, 17, 18, 19, 20, 21, 22, 23] (by decide +kernel) (by decide +kernel)
set_option maxRecDepth 20000 in
theorem gX10_pushes_X10_ofRule : GoodIn wsX10_pushes (wsV RX10 112 RX10 yX10_ofRule wsX10_ofRule) := goodIn_app (goodIn_of _ (by decide +kernel)) ggX10_pushes_X10_ofRule
theorem dX10_pushes_0 : decode cX10_pushes 0 = .ok (.aload_n 0, 1) := by decide +kernel
theorem dX10_pushes_1 : decode cX10_pushes 1 = .ok (.iload_n 1, 1) := by decide +kernel
theorem dX10_pushes_2 : decode cX10_pushes 2 = .ok (.iconst 3, 1) := by decide +kernel
theorem dX10_pushes_3 : decode cX10_pushes 3 = .ok (.invokevirtual 112, 3) := by decide +kernel
theorem dX10_pushes_6 : decode cX10_pushes 6 = .ok (.iconst (-1), 1) := by decide +kernel
theorem dX10_pushes_7 : decode cX10_pushes 7 = .ok (.if_icmp .ne 7, 3) := by decide +kernel
theorem dX10_pushes_10 : decode cX10_pushes 10 = .ok (.iconst 0, 1) := by decide +kernel
theorem dX10_pushes_11 : decode cX10_pushes 11 = .ok (.goto 4, 3) := by decide +kernel
theorem dX10_pushes_14 : decode cX10_pushes 14 = .ok (.iconst 1, 1) := by decide +kernel
theorem dX10_pushes_15 : decode cX10_pushes 15 = .ok (.aload_n 0, 1) := by decide +kernel
theorem dX10_pushes_16 : decode cX10_pushes 16 = .ok (.iload_n 1, 1) := by decide +kernel
theorem dX10_pushes_17 : decode cX10_pushes 17 = .ok (.iconst 4, 1) := by decide +kernel
theorem dX10_pushes_18 : decode cX10_pushes 18 = .ok (.invokevirtual 112, 3) := by decide +kernel
theorem dX10_pushes_21 : decode cX10_pushes 21 = .ok (.iconst (-1), 1) := by decide +kernel
theorem dX10_pushes_22 : decode cX10_pushes 22 = .ok (.if_icmp .ne 7, 3) := by decide +kernel
theorem dX10_pushes_25 : decode cX10_pushes 25 = .ok (.iconst 0, 1) := by decide +kernel
theorem dX10_pushes_26 : decode cX10_pushes 26 = .ok (.goto 4, 3) := by decide +kernel
theorem dX10_pushes_29 : decode cX10_pushes 29 = .ok (.iconst 1, 1) := by decide +kernel
theorem dX10_pushes_30 : decode cX10_pushes 30 = .ok (.iadd, 1) := by decide +kernel
theorem dX10_pushes_31 : decode cX10_pushes 31 = .ok (.ireturn, 1) := by decide +kernel
set_option maxRecDepth 20000 in
theorem ggX10_isPlayable_X10_ofRule : GoodIn wsX10_isPlayable wsX10_ofRule := goodIn_r _ [6, 1, 7, 8, 9, 10, 11, 12, 13, 14, 15, 16, 17, 18, 19, 20, 21, 22, 23] (by decide +kernel) (by decide +kernel)
set_option maxRecDepth 20000 in
theorem gX10_isPlayable_X10_ofRule : GoodIn wsX10_isPlayable (wsV RX10 112 RX10 yX10_ofRule wsX10_ofRule) := goodIn_app (goodIn_of _ (by decide +kernel)) ggX10_isPlayable_X10_ofRule
theorem dX10_isPlayable_0 : decode cX10_isPlayable 0 = .ok (.aload_n 0, 1) := by decide +kernel
theorem dX10_isPlayable_1 : decode cX10_isPlayable 1 = .ok (.iload_n 1, 1) := by decide +kernel
theorem dX10_isPlayable_2 : decode cX10_isPlayable 2 = .ok (.iconst 0, 1) := by decide +kernel
theorem dX10_isPlayable_3 : decode cX10_isPlayable 3 = .ok (.invokevirtual 112, 3) := by decide +kernel
theorem dX10_isPlayable_6 : decode cX10_isPlayable 6 = .ok (.aload_n 0, 1) := by decide +kernel
theorem dX10_isPlayable_7 : decode cX10_isPlayable 7 = .ok (.getfield 7, 3) := by decide +kernel
theorem dX10_isPlayable_10 : decode cX10_isPlayable 10 = .ok (.bipush 85, 2) := by decide +kernel
theorem dX10_isPlayable_12 : decode cX10_isPlayable 12 = .ok (.iaload, 1) := by decide +kernel
theorem dX10_isPlayable_13 : decode cX10_isPlayable 13 = .ok (.if_icmp .ne 43, 3) := by decide +kernel
theorem dX10_isPlayable_16 : decode cX10_isPlayable 16 = .ok (.aload_n 0, 1) := by decide +kernel
theorem dX10_isPlayable_17 : decode cX10_isPlayable 17 = .ok (.getfield 7, 3) := by decide +kernel
theorem dX10_isPlayable_20 : decode cX10_isPlayable 20 = .ok (.bipush 86, 2) := by decide +kernel
theorem dX10_isPlayable_22 : decode cX10_isPlayable 22 = .ok (.iaload, 1) := by decide +kernel
theorem dX10_isPlayable_23 : decode cX10_isPlayable 23 = .ok (.ifCond .le 33, 3) := by decide +kernel
theorem dX10_isPlayable_26 : decode cX10_isPlayable 26 = .ok (.aload_n 0, 1) := by decide +kernel
theorem dX10_isPlayable_27 : decode cX10_isPlayable 27 = .ok (.iload_n 1, 1) := by decide +kernel
theorem dX10_isPlayable_28 : decode cX10_isPlayable 28 = .ok (.iconst 1, 1) := by decide +kernel
theorem dX10_isPlayable_29 : decode cX10_isPlayable 29 = .ok (.invokevirtual 112, 3) := by decide +kernel
theorem dX10_isPlayable_32 : decode cX10_isPlayable 32 = .ok (.aload_n 0, 1) := by decide +kernel
theorem dX10_isPlayable_33 : decode cX10_isPlayable 33 = .ok (.getfield 7, 3) := by decide +kernel
theorem dX10_isPlayable_36 : decode cX10_isPlayable 36 = .ok (.bipush 87, 2) := by decide +kernel
theorem dX10_isPlayable_38 : decode cX10_isPlayable 38 = .ok (.aload_n 0, 1) := by decide +kernel
theorem dX10_isPlayable_39 : decode cX10_isPlayable 39 = .ok (.getfield 7, 3) := by decide +kernel
theorem dX10_isPlayable_42 : decode cX10_isPlayable 42 = .ok (.bipush 86, 2) := by decide +kernel
theorem dX10_isPlayable_44 : decode cX10_isPlayable 44 = .ok (.iaload, 1) := by decide +kernel
theorem dX10_isPlayable_45 : decode cX10_isPlayable 45 = .ok (.iadd, 1) := by decide +kernel
theorem dX10_isPlayable_46 : decode cX10_isPlayable 46 = .ok (.iconst 1, 1) := by decide +kernel
theorem dX10_isPlayable_47 : decode cX10_isPlayable 47 = .ok (.isub, 1) := by decide +kernel
theorem dX10_isPlayable_48 : decode cX10_isPlayable 48 = .ok (.iaload, 1) := by decide +kernel
theorem dX10_isPlayable_49 : decode cX10_isPlayable 49 = .ok (.if_icmp .ne 7, 3) := by decide +kernel
theorem dX10_isPlayable_52 : decode cX10_isPlayable 52 = .ok (.iconst 1, 1) := by decide +kernel
theorem dX10_isPlayable_53 : decode cX10_isPlayable 53 = .ok (.goto 4, 3) := by decide +kernel
theorem dX10_isPlayable_56 : decode cX10_isPlayable 56 = .ok (.iconst 0, 1) := by decide +kernel
theorem dX10_isPlayable_57 : decode cX10_isPlayable 57 = .ok (.ireturn, 1) := by decide +kernel
set_option maxRecDepth 20000 in
theorem ggX10_play_X10_isRule : GoodIn wsX10_play wsX10_isRule := goodIn_r _ [6, 1, 7, 8, 5, 9, 28, 29, 30, 31, 32, 33, 34, 35, 36, 37, 38, 39, 40, 41, 42, 43, 44] (by decide +kernel) (by decide +kernel)
set_option maxRecDepth 20000 in
theorem gX10_play_X10_isRule : GoodIn wsX10_play (wsV RX10 105 RX10 yX10_isRule wsX10_isRule) := goodIn_app (goodIn_of _ (by decide +kernel)) ggX10_play_X10_isRule
set_option maxRecDepth 20000 in
theorem ggX10_play_X10_isPlayable : GoodIn wsX10_play wsX10_isPlayable := goodIn_r _ [13, 1, 14, 15, 16, 5, 17, 28, 29, 30, 31, 32, 33, 34, 35, 36, 37, 38, 39, 40, 41, 42, 43, 44] (by decide +kernel) (by decide +kernel)
set_option maxRecDepth 20000 in
theorem gX10_play_X10_isPlayable : GoodIn wsX10_play (wsV RX10 116 RX10 yX10_isPlayable wsX10_isPlayable) := goodIn_app (goodIn_of _ (by decide +kernel)) ggX10_play_X10_isPlayable
set_option maxRecDepth 20000 in
theorem ggX10_play_X10_pushes : GoodIn wsX10_play wsX10_pushes := goodIn_r _ [21, 14, 15, 16, 5, 17, 1, 28, 29, 30, 31, 32, 33, 34, 35, 36, 37, 38, 39, 40, 41, 42, 43, 44] (by decide +kernel) (by decide +kernel)
set_option maxRecDepth 20000 in
theorem gX10_play_X10_pushes : GoodIn wsX10_play (wsV RX10 119 RX10 yX10_pushes wsX10_pushes) := goodIn_app (goodIn_of _ (by decide +kernel)) ggX10_play_X10_pushes
set_option maxRecDepth 20000 in
theorem ggX10_play_X10_keeps : GoodIn wsX10_play wsX10_keeps := goodIn_r _ [25, 26, 27, 1, 28, 29, 30, 31, 32, 33, 34, 35, 36, 37, 38, 39, 40, 41, 42, 43, 44] (by decide +kernel) (by decide +kernel)
set_option maxRecDepth 20000 in
theorem gX10_play_X10_keeps : GoodIn wsX10_play (wsV RX10 102 RX10 yX10_keeps wsX10_keeps) := goodIn_app (goodIn_of _ (by decide +kernel)) ggX10_play_X10_keeps
set_option maxRecDepth 20000 in
theorem ggX10_play_X10_ofRule : GoodIn wsX10_play wsX10_ofRule := goodIn_r _ [17, 1, 28, 29, 30, 31, 32, 33, 34, 35, 36, 37, 38, 39, 40, 41, 42, 43, 44] (by decide +kernel) (by decide +kernel)
set_option maxRecDepth 20000 in
theorem gX10_play_X10_ofRule : GoodIn wsX10_play (wsV RX10 112 RX10 yX10_ofRule wsX10_ofRule) := goodIn_app (goodIn_of _ (by decide +kernel)) ggX10_play_X10_ofRule
theorem dX10_play_0 : decode cX10_play 0 = .ok (.aload_n 0, 1) := by decide +kernel
theorem dX10_play_1 : decode cX10_play 1 = .ok (.iload_n 1, 1) := by decide +kernel
theorem dX10_play_2 : decode cX10_play 2 = .ok (.invokevirtual 105, 3) := by decide +kernel
theorem dX10_play_5 : decode cX10_play 5 = .ok (.ifCond .ne 5, 3) := by decide +kernel
theorem dX10_play_8 : decode cX10_play 8 = .ok (.iconst (-1), 1) := by decide +kernel
theorem dX10_play_9 : decode cX10_play 9 = .ok (.ireturn, 1) := by decide +kernel
theorem dX10_play_10 : decode cX10_play 10 = .ok (.aload_n 0, 1) := by decide +kernel
theorem dX10_play_11 : decode cX10_play 11 = .ok (.iload_n 1, 1) := by decide +kernel
theorem dX10_play_12 : decode cX10_play 12 = .ok (.invokevirtual 116, 3) := by decide +kernel
theorem dX10_play_15 : decode cX10_play 15 = .ok (.ifCond .ne 6, 3) := by decide +kernel
theorem dX10_play_18 : decode cX10_play 18 = .ok (.bipush (-2), 2) := by decide +kernel
theorem dX10_play_20 : decode cX10_play 20 = .ok (.ireturn, 1) := by decide +kernel
theorem dX10_play_21 : decode cX10_play 21 = .ok (.aload_n 0, 1) := by decide +kernel
theorem dX10_play_22 : decode cX10_play 22 = .ok (.getfield 7, 3) := by decide +kernel
theorem dX10_play_25 : decode cX10_play 25 = .ok (.bipush 86, 2) := by decide +kernel
theorem dX10_play_27 : decode cX10_play 27 = .ok (.iaload, 1) := by decide +kernel
theorem dX10_play_28 : decode cX10_play 28 = .ok (.iconst 1, 1) := by decide +kernel
theorem dX10_play_29 : decode cX10_play 29 = .ok (.isub, 1) := by decide +kernel
theorem dX10_play_30 : decode cX10_play 30 = .ok (.aload_n 0, 1) := by decide +kernel
theorem dX10_play_31 : decode cX10_play 31 = .ok (.iload_n 1, 1) := by decide +kernel
theorem dX10_play_32 : decode cX10_play 32 = .ok (.invokevirtual 119, 3) := by decide +kernel
theorem dX10_play_35 : decode cX10_play 35 = .ok (.iadd, 1) := by decide +kernel
theorem dX10_play_36 : decode cX10_play 36 = .ok (.bipush 12, 2) := by decide +kernel
theorem dX10_play_38 : decode cX10_play 38 = .ok (.if_icmp .le 6, 3) := by decide +kernel
theorem dX10_play_41 : decode cX10_play 41 = .ok (.bipush (-3), 2) := by decide +kernel
theorem dX10_play_43 : decode cX10_play 43 = .ok (.ireturn, 1) := by decide +kernel
theorem dX10_play_44 : decode cX10_play 44 = .ok (.aload_n 0, 1) := by decide +kernel
theorem dX10_play_45 : decode cX10_play 45 = .ok (.invokevirtual 102, 3) := by decide +kernel
theorem dX10_play_48 : decode cX10_play 48 = .ok (.aload_n 0, 1) := by decide +kernel
theorem dX10_play_49 : decode cX10_play 49 = .ok (.getfield 7, 3) := by decide +kernel
theorem dX10_play_52 : decode cX10_play 52 = .ok (.bipush 86, 2) := by decide +kernel
theorem dX10_play_54 : decode cX10_play 54 = .ok (.dup2, 1) := by decide +kernel
theorem dX10_play_55 : decode cX10_play 55 = .ok (.iaload, 1) := by decide +kernel
theorem dX10_play_56 : decode cX10_play 56 = .ok (.iconst 1, 1) := by decide +kernel
theorem dX10_play_57 : decode cX10_play 57 = .ok (.isub, 1) := by decide +kernel
theorem dX10_play_58 : decode cX10_play 58 = .ok (.iastore, 1) := by decide +kernel
theorem dX10_play_59 : decode cX10_play 59 = .ok (.iconst 4, 1) := by decide +kernel
theorem dX10_play_60 : decode cX10_play 60 = .ok (.istore_n 2, 1) := by decide +kernel
theorem dX10_play_61 : decode cX10_play 61 = .ok (.iload_n 2, 1) := by decide +kernel
theorem dX10_play_62 : decode cX10_play 62 = .ok (.iconst 2, 1) := by decide +kernel
theorem dX10_play_63 : decode cX10_play 63 = .ok (.if_icmp .le 51, 3) := by decide +kernel
theorem dX10_play_66 : decode cX10_play 66 = .ok (.aload_n 0, 1) := by decide +kernel
theorem dX10_play_67 : decode cX10_play 67 = .ok (.iload_n 1, 1) := by decide +kernel
theorem dX10_play_68 : decode cX10_play 68 = .ok (.iload_n 2, 1) := by decide +kernel
theorem dX10_play_69 : decode cX10_play 69 = .ok (.invokevirtual 112, 3) := by decide +kernel
theorem dX10_play_72 : decode cX10_play 72 = .ok (.iconst (-1), 1) := by decide +kernel
theorem dX10_play_73 : decode cX10_play 73 = .ok (.if_icmp .eq 35, 3) := by decide +kernel
theorem dX10_play_76 : decode cX10_play 76 = .ok (.aload_n 0, 1) := by decide +kernel
theorem dX10_play_77 : decode cX10_play 77 = .ok (.getfield 7, 3) := by decide +kernel
theorem dX10_play_80 : decode cX10_play 80 = .ok (.bipush 87, 2) := by decide +kernel
theorem dX10_play_82 : decode cX10_play 82 = .ok (.aload_n 0, 1) := by decide +kernel
theorem dX10_play_83 : decode cX10_play 83 = .ok (.getfield 7, 3) := by decide +kernel
theorem dX10_play_86 : decode cX10_play 86 = .ok (.bipush 86, 2) := by decide +kernel
theorem dX10_play_88 : decode cX10_play 88 = .ok (.iaload, 1) := by decide +kernel
theorem dX10_play_89 : decode cX10_play 89 = .ok (.iadd, 1) := by decide +kernel
theorem dX10_play_90 : decode cX10_play 90 = .ok (.aload_n 0, 1) := by decide +kernel
theorem dX10_play_91 : decode cX10_play 91 = .ok (.iload_n 1, 1) := by decide +kernel
theorem dX10_play_92 : decode cX10_play 92 = .ok (.iload_n 2, 1) := by decide +kernel
theorem dX10_play_93 : decode cX10_play 93 = .ok (.invokevirtual 112, 3) := by decide +kernel
theorem dX10_play_96 : decode cX10_play 96 = .ok (.iastore, 1) := by decide +kernel
theorem dX10_play_97 : decode cX10_play 97 = .ok (.aload_n 0, 1) := by decide +kernel
theorem dX10_play_98 : decode cX10_play 98 = .ok (.getfield 7, 3) := by decide +kernel
theorem dX10_play_101 : decode cX10_play 101 = .ok (.bipush 86, 2) := by decide +kernel
theorem dX10_play_103 : decode cX10_play 103 = .ok (.dup2, 1) := by decide +kernel
theorem dX10_play_104 : decode cX10_play 104 = .ok (.iaload, 1) := by decide +kernel
theorem dX10_play_105 : decode cX10_play 105 = .ok (.iconst 1, 1) := by decide +kernel
theorem dX10_play_106 : decode cX10_play 106 = .ok (.iadd, 1) := by decide +kernel
theorem dX10_play_107 : decode cX10_play 107 = .ok (.iastore, 1) := by decide +kernel
theorem dX10_play_108 : decode cX10_play 108 = .ok (.iinc 2 (-1), 3) := by decide +kernel
theorem dX10_play_111 : decode cX10_play 111 = .ok (.goto (-50), 3) := by decide +kernel
theorem dX10_play_114 : decode cX10_play 114 = .ok (.aload_n 0, 1) := by decide +kernel
theorem dX10_play_115 : decode cX10_play 115 = .ok (.getfield 7, 3) := by decide +kernel
theorem dX10_play_118 : decode cX10_play 118 = .ok (.bipush 85, 2) := by decide +kernel
theorem dX10_play_120 : decode cX10_play 120 = .ok (.aload_n 0, 1) := by decide +kernel
theorem dX10_play_121 : decode cX10_play 121 = .ok (.iload_n 1, 1) := by decide +kernel
theorem dX10_play_122 : decode cX10_play 122 = .ok (.iconst 2, 1) := by decide +kernel
theorem dX10_play_123 : decode cX10_play 123 = .ok (.invokevirtual 112, 3) := by decide +kernel
theorem dX10_play_126 : decode cX10_play 126 = .ok (.iastore, 1) := by decide +kernel
theorem dX10_play_127 : decode cX10_play 127 = .ok (.aload_n 0, 1) := by decide +kernel
theorem dX10_play_128 : decode cX10_play 128 = .ok (.getfield 7, 3) := by decide +kernel
theorem dX10_play_131 : decode cX10_play 131 = .ok (.bipush 85, 2) := by decide +kernel
theorem dX10_play_133 : decode cX10_play 133 = .ok (.iaload, 1) := by decide +kernel
theorem dX10_play_134 : decode cX10_play 134 = .ok (.ireturn, 1) := by decide +kernel
theorem dX10_ruleCount_0 : decode cX10_ruleCount 0 = .ok (.aload_n 0, 1) := by decide +kernel
theorem dX10_ruleCount_1 : decode cX10_ruleCount 1 = .ok (.getfield 7, 3) := by decide +kernel
theorem dX10_ruleCount_4 : decode cX10_ruleCount 4 = .ok (.iconst 4, 1) := by decide +kernel
theorem dX10_ruleCount_5 : decode cX10_ruleCount 5 = .ok (.iaload, 1) := by decide +kernel
theorem dX10_ruleCount_6 : decode cX10_ruleCount 6 = .ok (.ireturn, 1) := by decide +kernel
set_option maxRecDepth 20000 in
theorem ggX10_ruleState_X10_isRule : GoodIn wsX10_ruleState wsX10_isRule := goodIn_r _ [5, 6, 7, 8, 4, 9, 14, 15, 16, 17, 18, 19, 20, 21, 22, 23, 24, 25, 26, 27, 28, 29, 30] (by decide +kernel) (by decide +kernel)
set_option maxRecDepth 20000 in
theorem gX10_ruleState_X10_isRule : GoodIn wsX10_ruleState (wsV RX10 105 RX10 yX10_isRule wsX10_isRule) := goodIn_app (goodIn_of _ (by decide +kernel)) ggX10_ruleState_X10_isRule
set_option maxRecDepth 20000 in
theorem ggX10_ruleState_X10_ofRule : GoodIn wsX10_ruleState wsX10_ofRule := goodIn_r _ [13, 6, 14, 15, 16, 17, 18, 19, 20, 21, 22, 23, 24, 25, 26, 27, 28, 29, 30] (by decide +kernel) (by decide +kernel)
set_option maxRecDepth 20000 in
theorem gX10_ruleState_X10_ofRule : GoodIn wsX10_ruleState (wsV RX10 112 RX10 yX10_ofRule wsX10_ofRule) := goodIn_app (goodIn_of _ (by decide +kernel)) ggX10_ruleState_X10_ofRule
theorem dX10_ruleState_0 : decode cX10_ruleState 0 = .ok (.aload_n 0, 1) := by decide +kernel
theorem dX10_ruleState_1 : decode cX10_ruleState 1 = .ok (.iload_n 1, 1) := by decide +kernel
theorem dX10_ruleState_2 : decode cX10_ruleState 2 = .ok (.invokevirtual 105, 3) := by decide +kernel
theorem dX10_ruleState_5 : decode cX10_ruleState 5 = .ok (.ifCond .eq 12, 3) := by decide +kernel
theorem dX10_ruleState_8 : decode cX10_ruleState 8 = .ok (.aload_n 0, 1) := by decide +kernel
theorem dX10_ruleState_9 : decode cX10_ruleState 9 = .ok (.iload_n 1, 1) := by decide +kernel
theorem dX10_ruleState_10 : decode cX10_ruleState 10 = .ok (.iconst 0, 1) := by decide +kernel
theorem dX10_ruleState_11 : decode cX10_ruleState 11 = .ok (.invokevirtual 112, 3) := by decide +kernel
theorem dX10_ruleState_14 : decode cX10_ruleState 14 = .ok (.goto 4, 3) := by decide +kernel
theorem dX10_ruleState_17 : decode cX10_ruleState 17 = .ok (.iconst (-1), 1) := by decide +kernel
theorem dX10_ruleState_18 : decode cX10_ruleState 18 = .ok (.ireturn, 1) := by decide +kernel
set_option maxRecDepth 20000 in
theorem ggX10_ruleTop_X10_isRule : GoodIn wsX10_ruleTop wsX10_isRule := goodIn_r _ [5, 6, 7, 8, 4, 9, 14, 15, 16, 17, 18, 19, 20, 21, 22, 23, 24, 25, 26, 27, 28, 29, 30] (by decide +kernel) (by decide +kernel)
set_option maxRecDepth 20000 in
theorem gX10_ruleTop_X10_isRule : GoodIn wsX10_ruleTop (wsV RX10 105 RX10 yX10_isRule wsX10_isRule) := goodIn_app (goodIn_of _ (by decide +kernel)) ggX10_ruleTop_X10_isRule
set_option maxRecDepth 20000 in
theorem ggX10_ruleTop_X10_ofRule : GoodIn wsX10_ruleTop wsX10_ofRule := goodIn_r _ [13, 6, 14, 15, 16, 17, 18, 19, 20, 21, 22, 23, 24, 25, 26, 27, 28, 29, 30] (by decide +kernel) (by decide +kernel)
set_option maxRecDepth 20000 in
theorem gX10_ruleTop_X10_ofRule : GoodIn wsX10_ruleTop (wsV RX10 112 RX10 yX10_ofRule wsX10_ofRule) := goodIn_app (goodIn_of _ (by decide +kernel)) ggX10_ruleTop_X10_ofRule
theorem dX10_ruleTop_0 : decode cX10_ruleTop 0 = .ok (.aload_n 0, 1) := by decide +kernel
theorem dX10_ruleTop_1 : decode cX10_ruleTop 1 = .ok (.iload_n 1, 1) := by decide +kernel
theorem dX10_ruleTop_2 : decode cX10_ruleTop 2 = .ok (.invokevirtual 105, 3) := by decide +kernel
theorem dX10_ruleTop_5 : decode cX10_ruleTop 5 = .ok (.ifCond .eq 12, 3) := by decide +kernel
theorem dX10_ruleTop_8 : decode cX10_ruleTop 8 = .ok (.aload_n 0, 1) := by decide +kernel
theorem dX10_ruleTop_9 : decode cX10_ruleTop 9 = .ok (.iload_n 1, 1) := by decide +kernel
theorem dX10_ruleTop_10 : decode cX10_ruleTop 10 = .ok (.iconst 1, 1) := by decide +kernel
theorem dX10_ruleTop_11 : decode cX10_ruleTop 11 = .ok (.invokevirtual 112, 3) := by decide +kernel
theorem dX10_ruleTop_14 : decode cX10_ruleTop 14 = .ok (.goto 4, 3) := by decide +kernel
theorem dX10_ruleTop_17 : decode cX10_ruleTop 17 = .ok (.iconst (-1), 1) := by decide +kernel
theorem dX10_ruleTop_18 : decode cX10_ruleTop 18 = .ok (.ireturn, 1) := by decide +kernel
set_option maxRecDepth 20000 in
theorem ggX10_ruleNext_X10_isRule : GoodIn wsX10_ruleNext wsX10_isRule := goodIn_r _ [5, 6, 7, 8, 4, 9, 14, 15, 16, 17, 18, 19, 20, 21, 22, 23, 24, 25, 26, 27, 28, 29, 30] (by decide +kernel) (by decide +kernel)
set_option maxRecDepth 20000 in
theorem gX10_ruleNext_X10_isRule : GoodIn wsX10_ruleNext (wsV RX10 105 RX10 yX10_isRule wsX10_isRule) := goodIn_app (goodIn_of _ (by decide +kernel)) ggX10_ruleNext_X10_isRule
set_option maxRecDepth 20000 in
theorem ggX10_ruleNext_X10_ofRule : GoodIn wsX10_ruleNext wsX10_ofRule := goodIn_r _ [13, 6, 14, 15, 16, 17, 18, 19, 20, 21, 22, 23, 24, 25, 26, 27, 28, 29, 30] (by decide +kernel) (by decide +kernel)
set_option maxRecDepth 20000 in
theorem gX10_ruleNext_X10_ofRule : GoodIn wsX10_ruleNext (wsV RX10 112 RX10 yX10_ofRule wsX10_ofRule) := goodIn_app (goodIn_of _ (by decide +kernel)) ggX10_ruleNext_X10_ofRule
theorem dX10_ruleNext_0 : decode cX10_ruleNext 0 = .ok (.aload_n 0, 1) := by decide +kernel
theorem dX10_ruleNext_1 : decode cX10_ruleNext 1 = .ok (.iload_n 1, 1) := by decide +kernel
theorem dX10_ruleNext_2 : decode cX10_ruleNext 2 = .ok (.invokevirtual 105, 3) := by decide +kernel
theorem dX10_ruleNext_5 : decode cX10_ruleNext 5 = .ok (.ifCond .eq 12, 3) := by decide +kernel
theorem dX10_ruleNext_8 : decode cX10_ruleNext 8 = .ok (.aload_n 0, 1) := by decide +kernel
theorem dX10_ruleNext_9 : decode cX10_ruleNext 9 = .ok (.iload_n 1, 1) := by decide +kernel
theorem dX10_ruleNext_10 : decode cX10_ruleNext 10 = .ok (.iconst 2, 1) := by decide +kernel
theorem dX10_ruleNext_11 : decode cX10_ruleNext 11 = .ok (.invokevirtual 112, 3) := by decide +kernel
theorem dX10_ruleNext_14 : decode cX10_ruleNext 14 = .ok (.goto 4, 3) := by decide +kernel
theorem dX10_ruleNext_17 : decode cX10_ruleNext 17 = .ok (.iconst (-1), 1) := by decide +kernel
theorem dX10_ruleNext_18 : decode cX10_ruleNext 18 = .ok (.ireturn, 1) := by decide +kernel
set_option maxRecDepth 20000 in
theorem ggX10_ruleSymbol_X10_isRule : GoodIn wsX10_ruleSymbol wsX10_isRule := goodIn_r _ [5, 6, 7, 8, 4, 9, 14, 15, 16, 17, 18, 19, 20, 21, 22, 23, 24, 25, 26, 27, 28, 29, 30] (by decide +kernel) (by decide +kernel)
set_option maxRecDepth 20000 in
theorem gX10_ruleSymbol_X10_isRule : GoodIn wsX10_ruleSymbol (wsV RX10 105 RX10 yX10_isRule wsX10_isRule) := goodIn_app (goodIn_of _ (by decide +kernel)) ggX10_ruleSymbol_X10_isRule
set_option maxRecDepth 20000 in
theorem ggX10_ruleSymbol_X10_in : GoodIn wsX10_ruleSymbol wsX10_in := goodIn_r _ [9] (by decide +kernel) (by decide +kernel)
set_option maxRecDepth 20000 in
theorem gX10_ruleSymbol_X10_in : GoodIn wsX10_ruleSymbol (va_wsS RX10 58 yX10_in wsX10_in) := goodIn_app (goodIn_of _ (by decide +kernel)) ggX10_ruleSymbol_X10_in
set_option maxRecDepth 20000 in
theorem ggX10_ruleSymbol_X10_ofRule : GoodIn wsX10_ruleSymbol wsX10_ofRule := goodIn_r _ [13, 6, 14, 15, 16, 17, 18, 19, 20, 21, 22, 23, 24, 25, 26, 27, 28, 29, 30] (by decide +kernel) (by decide +kernel)
set_option maxRecDepth 20000 in
theorem gX10_ruleSymbol_X10_ofRule : GoodIn wsX10_ruleSymbol (wsV RX10 112 RX10 yX10_ofRule wsX10_ofRule) := goodIn_app (goodIn_of _ (by decide +kernel)) ggX10_ruleSymbol_X10_ofRule
theorem dX10_ruleSymbol_0 : decode cX10_ruleSymbol 0 = .ok (.aload_n 0, 1) := by decide +kernel
theorem dX10_ruleSymbol_1 : decode cX10_ruleSymbol 1 = .ok (.iload_n 1, 1) := by decide +kernel
theorem dX10_ruleSymbol_2 : decode cX10_ruleSymbol 2 = .ok (.invokevirtual 105, 3) := by decide +kernel
theorem dX10_ruleSymbol_5 : decode cX10_ruleSymbol 5 = .ok (.ifCond .eq 13, 3) := by decide +kernel
theorem dX10_ruleSymbol_8 : decode cX10_ruleSymbol 8 = .ok (.iload_n 2, 1) := by decide +kernel
theorem dX10_ruleSymbol_9 : decode cX10_ruleSymbol 9 = .ok (.i2l, 1) := by decide +kernel
theorem dX10_ruleSymbol_10 : decode cX10_ruleSymbol 10 = .ok (.lconst 0, 1) := by decide +kernel
theorem dX10_ruleSymbol_11 : decode cX10_ruleSymbol 11 = .ok (.lconst 1, 1) := by decide +kernel
theorem dX10_ruleSymbol_12 : decode cX10_ruleSymbol 12 = .ok (.invokestatic 58, 3) := by decide +kernel
theorem dX10_ruleSymbol_15 : decode cX10_ruleSymbol 15 = .ok (.ifCond .ne 5, 3) := by decide +kernel
theorem dX10_ruleSymbol_18 : decode cX10_ruleSymbol 18 = .ok (.iconst (-1), 1) := by decide +kernel
theorem dX10_ruleSymbol_19 : decode cX10_ruleSymbol 19 = .ok (.ireturn, 1) := by decide +kernel
theorem dX10_ruleSymbol_20 : decode cX10_ruleSymbol 20 = .ok (.aload_n 0, 1) := by decide +kernel
theorem dX10_ruleSymbol_21 : decode cX10_ruleSymbol 21 = .ok (.iload_n 1, 1) := by decide +kernel
theorem dX10_ruleSymbol_22 : decode cX10_ruleSymbol 22 = .ok (.iconst 3, 1) := by decide +kernel
theorem dX10_ruleSymbol_23 : decode cX10_ruleSymbol 23 = .ok (.iload_n 2, 1) := by decide +kernel
theorem dX10_ruleSymbol_24 : decode cX10_ruleSymbol 24 = .ok (.iadd, 1) := by decide +kernel
theorem dX10_ruleSymbol_25 : decode cX10_ruleSymbol 25 = .ok (.invokevirtual 112, 3) := by decide +kernel
theorem dX10_ruleSymbol_28 : decode cX10_ruleSymbol 28 = .ok (.istore_n 3, 1) := by decide +kernel
theorem dX10_ruleSymbol_29 : decode cX10_ruleSymbol 29 = .ok (.iload_n 3, 1) := by decide +kernel
theorem dX10_ruleSymbol_30 : decode cX10_ruleSymbol 30 = .ok (.iconst (-1), 1) := by decide +kernel
theorem dX10_ruleSymbol_31 : decode cX10_ruleSymbol 31 = .ok (.if_icmp .ne 8, 3) := by decide +kernel
theorem dX10_ruleSymbol_34 : decode cX10_ruleSymbol 34 = .ok (.bipush (-4), 2) := by decide +kernel
theorem dX10_ruleSymbol_36 : decode cX10_ruleSymbol 36 = .ok (.goto 4, 3) := by decide +kernel
theorem dX10_ruleSymbol_39 : decode cX10_ruleSymbol 39 = .ok (.iload_n 3, 1) := by decide +kernel
theorem dX10_ruleSymbol_40 : decode cX10_ruleSymbol 40 = .ok (.ireturn, 1) := by decide +kernel
set_option maxRecDepth 20000 in
theorem ggX10_ownerOf_X10_isState : GoodIn wsX10_ownerOf wsX10_isState := goodIn_r _ [6, 1, 7, 8, 5, 9, 10, 11, 12, 13, 14, 15, 16, 17, 18, 19, 20, 21, 22, 23, 24, 25, 26] (by decide +kernel) (by decide +kernel)
set_option maxRecDepth 20000 in
theorem gX10_ownerOf_X10_isState : GoodIn wsX10_ownerOf (wsV RX10 99 RX10 yX10_isState wsX10_isState) := goodIn_app (goodIn_of _ (by decide +kernel)) ggX10_ownerOf_X10_isState
theorem dX10_ownerOf_0 : decode cX10_ownerOf 0 = .ok (.aload_n 0, 1) := by decide +kernel
theorem dX10_ownerOf_1 : decode cX10_ownerOf 1 = .ok (.iload_n 1, 1) := by decide +kernel
theorem dX10_ownerOf_2 : decode cX10_ownerOf 2 = .ok (.invokevirtual 99, 3) := by decide +kernel
theorem dX10_ownerOf_5 : decode cX10_ownerOf 5 = .ok (.ifCond .eq 16, 3) := by decide +kernel
theorem dX10_ownerOf_8 : decode cX10_ownerOf 8 = .ok (.aload_n 0, 1) := by decide +kernel
theorem dX10_ownerOf_9 : decode cX10_ownerOf 9 = .ok (.getfield 7, 3) := by decide +kernel
theorem dX10_ownerOf_12 : decode cX10_ownerOf 12 = .ok (.iconst 2, 1) := by decide +kernel
theorem dX10_ownerOf_13 : decode cX10_ownerOf 13 = .ok (.iaload, 1) := by decide +kernel
theorem dX10_ownerOf_14 : decode cX10_ownerOf 14 = .ok (.iload_n 1, 1) := by decide +kernel
theorem dX10_ownerOf_15 : decode cX10_ownerOf 15 = .ok (.ishr, 1) := by decide +kernel
theorem dX10_ownerOf_16 : decode cX10_ownerOf 16 = .ok (.iconst 1, 1) := by decide +kernel
theorem dX10_ownerOf_17 : decode cX10_ownerOf 17 = .ok (.iand, 1) := by decide +kernel
theorem dX10_ownerOf_18 : decode cX10_ownerOf 18 = .ok (.goto 4, 3) := by decide +kernel
theorem dX10_ownerOf_21 : decode cX10_ownerOf 21 = .ok (.iconst (-1), 1) := by decide +kernel
theorem dX10_ownerOf_22 : decode cX10_ownerOf 22 = .ok (.ireturn, 1) := by decide +kernel
set_option maxRecDepth 20000 in
theorem ggX10_isTarget_X10_isState : GoodIn wsX10_isTarget wsX10_isState := goodIn_r _ [6, 1, 7, 8, 5, 9, 10, 11, 12, 13, 14, 15, 16, 17, 18, 19, 20, 21, 22, 23, 24, 25, 26] (by decide +kernel) (by decide +kernel)
set_option maxRecDepth 20000 in
theorem gX10_isTarget_X10_isState : GoodIn wsX10_isTarget (wsV RX10 99 RX10 yX10_isState wsX10_isState) := goodIn_app (goodIn_of _ (by decide +kernel)) ggX10_isTarget_X10_isState
theorem dX10_isTarget_0 : decode cX10_isTarget 0 = .ok (.aload_n 0, 1) := by decide +kernel
theorem dX10_isTarget_1 : decode cX10_isTarget 1 = .ok (.iload_n 1, 1) := by decide +kernel
theorem dX10_isTarget_2 : decode cX10_isTarget 2 = .ok (.invokevirtual 99, 3) := by decide +kernel
theorem dX10_isTarget_5 : decode cX10_isTarget 5 = .ok (.ifCond .eq 16, 3) := by decide +kernel
theorem dX10_isTarget_8 : decode cX10_isTarget 8 = .ok (.aload_n 0, 1) := by decide +kernel
theorem dX10_isTarget_9 : decode cX10_isTarget 9 = .ok (.getfield 7, 3) := by decide +kernel
theorem dX10_isTarget_12 : decode cX10_isTarget 12 = .ok (.iconst 3, 1) := by decide +kernel
theorem dX10_isTarget_13 : decode cX10_isTarget 13 = .ok (.iaload, 1) := by decide +kernel
theorem dX10_isTarget_14 : decode cX10_isTarget 14 = .ok (.iload_n 1, 1) := by decide +kernel
theorem dX10_isTarget_15 : decode cX10_isTarget 15 = .ok (.ishr, 1) := by decide +kernel
theorem dX10_isTarget_16 : decode cX10_isTarget 16 = .ok (.iconst 1, 1) := by decide +kernel
theorem dX10_isTarget_17 : decode cX10_isTarget 17 = .ok (.iand, 1) := by decide +kernel
theorem dX10_isTarget_18 : decode cX10_isTarget 18 = .ok (.goto 4, 3) := by decide +kernel
theorem dX10_isTarget_21 : decode cX10_isTarget 21 = .ok (.iconst (-1), 1) := by decide +kernel
theorem dX10_isTarget_22 : decode cX10_isTarget 22 = .ok (.ireturn, 1) := by decide +kernel
theorem dX10_presentState_0 : decode cX10_presentState 0 = .ok (.aload_n 0, 1) := by decide +kernel
theorem dX10_presentState_1 : decode cX10_presentState 1 = .ok (.getfield 7, 3) := by decide +kernel
theorem dX10_presentState_4 : decode cX10_presentState 4 = .ok (.bipush 85, 2) := by decide +kernel
theorem dX10_presentState_6 : decode cX10_presentState 6 = .ok (.iaload, 1) := by decide +kernel
theorem dX10_presentState_7 : decode cX10_presentState 7 = .ok (.ireturn, 1) := by decide +kernel
theorem dX10_stackSize_0 : decode cX10_stackSize 0 = .ok (.aload_n 0, 1) := by decide +kernel
theorem dX10_stackSize_1 : decode cX10_stackSize 1 = .ok (.getfield 7, 3) := by decide +kernel
theorem dX10_stackSize_4 : decode cX10_stackSize 4 = .ok (.bipush 86, 2) := by decide +kernel
theorem dX10_stackSize_6 : decode cX10_stackSize 6 = .ok (.iaload, 1) := by decide +kernel
theorem dX10_stackSize_7 : decode cX10_stackSize 7 = .ok (.ireturn, 1) := by decide +kernel
set_option maxRecDepth 20000 in
theorem ggX10_stackSymbol_X10_in : GoodIn wsX10_stackSymbol wsX10_in := goodIn_r _ [5] (by decide +kernel) (by decide +kernel)
set_option maxRecDepth 20000 in
theorem gX10_stackSymbol_X10_in : GoodIn wsX10_stackSymbol (va_wsS RX10 58 yX10_in wsX10_in) := goodIn_app (goodIn_of _ (by decide +kernel)) ggX10_stackSymbol_X10_in
theorem dX10_stackSymbol_0 : decode cX10_stackSymbol 0 = .ok (.iload_n 1, 1) := by decide +kernel
theorem dX10_stackSymbol_1 : decode cX10_stackSymbol 1 = .ok (.i2l, 1) := by decide +kernel
theorem dX10_stackSymbol_2 : decode cX10_stackSymbol 2 = .ok (.lconst 0, 1) := by decide +kernel
theorem dX10_stackSymbol_3 : decode cX10_stackSymbol 3 = .ok (.aload_n 0, 1) := by decide +kernel
theorem dX10_stackSymbol_4 : decode cX10_stackSymbol 4 = .ok (.getfield 7, 3) := by decide +kernel
theorem dX10_stackSymbol_7 : decode cX10_stackSymbol 7 = .ok (.bipush 86, 2) := by decide +kernel
theorem dX10_stackSymbol_9 : decode cX10_stackSymbol 9 = .ok (.iaload, 1) := by decide +kernel
theorem dX10_stackSymbol_10 : decode cX10_stackSymbol 10 = .ok (.iconst 1, 1) := by decide +kernel
theorem dX10_stackSymbol_11 : decode cX10_stackSymbol 11 = .ok (.isub, 1) := by decide +kernel
theorem dX10_stackSymbol_12 : decode cX10_stackSymbol 12 = .ok (.i2l, 1) := by decide +kernel
theorem dX10_stackSymbol_13 : decode cX10_stackSymbol 13 = .ok (.invokestatic 58, 3) := by decide +kernel
theorem dX10_stackSymbol_16 : decode cX10_stackSymbol 16 = .ok (.ifCond .eq 25, 3) := by decide +kernel
theorem dX10_stackSymbol_19 : decode cX10_stackSymbol 19 = .ok (.aload_n 0, 1) := by decide +kernel
theorem dX10_stackSymbol_20 : decode cX10_stackSymbol 20 = .ok (.getfield 7, 3) := by decide +kernel
theorem dX10_stackSymbol_23 : decode cX10_stackSymbol 23 = .ok (.bipush 87, 2) := by decide +kernel
theorem dX10_stackSymbol_25 : decode cX10_stackSymbol 25 = .ok (.aload_n 0, 1) := by decide +kernel
theorem dX10_stackSymbol_26 : decode cX10_stackSymbol 26 = .ok (.getfield 7, 3) := by decide +kernel
theorem dX10_stackSymbol_29 : decode cX10_stackSymbol 29 = .ok (.bipush 86, 2) := by decide +kernel
theorem dX10_stackSymbol_31 : decode cX10_stackSymbol 31 = .ok (.iaload, 1) := by decide +kernel
theorem dX10_stackSymbol_32 : decode cX10_stackSymbol 32 = .ok (.iadd, 1) := by decide +kernel
theorem dX10_stackSymbol_33 : decode cX10_stackSymbol 33 = .ok (.iconst 1, 1) := by decide +kernel
theorem dX10_stackSymbol_34 : decode cX10_stackSymbol 34 = .ok (.isub, 1) := by decide +kernel
theorem dX10_stackSymbol_35 : decode cX10_stackSymbol 35 = .ok (.iload_n 1, 1) := by decide +kernel
theorem dX10_stackSymbol_36 : decode cX10_stackSymbol 36 = .ok (.isub, 1) := by decide +kernel
theorem dX10_stackSymbol_37 : decode cX10_stackSymbol 37 = .ok (.iaload, 1) := by decide +kernel
theorem dX10_stackSymbol_38 : decode cX10_stackSymbol 38 = .ok (.goto 4, 3) := by decide +kernel
theorem dX10_stackSymbol_41 : decode cX10_stackSymbol 41 = .ok (.iconst (-1), 1) := by decide +kernel
theorem dX10_stackSymbol_42 : decode cX10_stackSymbol 42 = .ok (.ireturn, 1) := by decide +kernel
set_option maxRecDepth 20000 in
theorem ggX10_playableRules_X10_isPlayable : GoodIn wsX10_playableRules wsX10_isPlayable := goodIn_r _ [6, 1, 7, 8, 9, 5, 10, 11, 12, 13, 14, 15, 16, 17, 18, 19, 20, 21, 22, 23, 24, 25, 26, 27] (by decide +kernel) (by decide +kernel)
set_option maxRecDepth 20000 in
theorem gX10_playableRules_X10_isPlayable : GoodIn wsX10_playableRules (wsV RX10 116 RX10 yX10_isPlayable wsX10_isPlayable) := goodIn_app (goodIn_of _ (by decide +kernel)) ggX10_playableRules_X10_isPlayable
theorem dX10_playableRules_0 : decode cX10_playableRules 0 = .ok (.iconst 0, 1) := by decide +kernel
theorem dX10_playableRules_1 : decode cX10_playableRules 1 = .ok (.istore_n 1, 1) := by decide +kernel
theorem dX10_playableRules_2 : decode cX10_playableRules 2 = .ok (.iconst 0, 1) := by decide +kernel
theorem dX10_playableRules_3 : decode cX10_playableRules 3 = .ok (.istore_n 2, 1) := by decide +kernel
theorem dX10_playableRules_4 : decode cX10_playableRules 4 = .ok (.iload_n 2, 1) := by decide +kernel
theorem dX10_playableRules_5 : decode cX10_playableRules 5 = .ok (.aload_n 0, 1) := by decide +kernel
theorem dX10_playableRules_6 : decode cX10_playableRules 6 = .ok (.getfield 7, 3) := by decide +kernel
theorem dX10_playableRules_9 : decode cX10_playableRules 9 = .ok (.iconst 4, 1) := by decide +kernel
theorem dX10_playableRules_10 : decode cX10_playableRules 10 = .ok (.iaload, 1) := by decide +kernel
theorem dX10_playableRules_11 : decode cX10_playableRules 11 = .ok (.if_icmp .ge 25, 3) := by decide +kernel
theorem dX10_playableRules_14 : decode cX10_playableRules 14 = .ok (.iload_n 1, 1) := by decide +kernel
theorem dX10_playableRules_15 : decode cX10_playableRules 15 = .ok (.aload_n 0, 1) := by decide +kernel
theorem dX10_playableRules_16 : decode cX10_playableRules 16 = .ok (.iload_n 2, 1) := by decide +kernel
theorem dX10_playableRules_17 : decode cX10_playableRules 17 = .ok (.invokevirtual 116, 3) := by decide +kernel
theorem dX10_playableRules_20 : decode cX10_playableRules 20 = .ok (.ifCond .eq 7, 3) := by decide +kernel
theorem dX10_playableRules_23 : decode cX10_playableRules 23 = .ok (.iconst 1, 1) := by decide +kernel
theorem dX10_playableRules_24 : decode cX10_playableRules 24 = .ok (.goto 4, 3) := by decide +kernel
theorem dX10_playableRules_27 : decode cX10_playableRules 27 = .ok (.iconst 0, 1) := by decide +kernel
theorem dX10_playableRules_28 : decode cX10_playableRules 28 = .ok (.iadd, 1) := by decide +kernel
theorem dX10_playableRules_29 : decode cX10_playableRules 29 = .ok (.istore_n 1, 1) := by decide +kernel
theorem dX10_playableRules_30 : decode cX10_playableRules 30 = .ok (.iinc 2 1, 3) := by decide +kernel
theorem dX10_playableRules_33 : decode cX10_playableRules 33 = .ok (.goto (-29), 3) := by decide +kernel
theorem dX10_playableRules_36 : decode cX10_playableRules 36 = .ok (.iload_n 1, 1) := by decide +kernel
theorem dX10_playableRules_37 : decode cX10_playableRules 37 = .ok (.ireturn, 1) := by decide +kernel
set_option maxRecDepth 20000 in
theorem ggX10_minimal_X10_has : GoodIn wsX10_minimal wsX10_has := goodIn_r _ [4] (by decide +kernel) (by decide +kernel)
set_option maxRecDepth 20000 in
theorem gX10_minimal_X10_has : GoodIn wsX10_minimal (va_wsS RX10 122 yX10_has wsX10_has) := goodIn_app (goodIn_of _ (by decide +kernel)) ggX10_minimal_X10_has

theorem dX9_init_0 : decode cX9_init 0 = .ok (.aload_n 0, 1) := by decide +kernel
theorem dX9_init_1 : decode cX9_init 1 = .ok (.invokespecial 1, 3) := by decide +kernel
theorem dX9_init_4 : decode cX9_init 4 = .ok (.aload_n 0, 1) := by decide +kernel
theorem dX9_init_5 : decode cX9_init 5 = .ok (.new 7, 3) := by decide +kernel
theorem dX9_init_8 : decode cX9_init 8 = .ok (.dup, 1) := by decide +kernel
theorem dX9_init_9 : decode cX9_init 9 = .ok (.invokespecial 9, 3) := by decide +kernel
theorem dX9_init_12 : decode cX9_init 12 = .ok (.putfield 10, 3) := by decide +kernel
theorem dX9_init_15 : decode cX9_init 15 = .ok (.aload_n 0, 1) := by decide +kernel
theorem dX9_init_16 : decode cX9_init 16 = .ok (.new 16, 3) := by decide +kernel
theorem dX9_init_19 : decode cX9_init 19 = .ok (.dup, 1) := by decide +kernel
theorem dX9_init_20 : decode cX9_init 20 = .ok (.invokespecial 18, 3) := by decide +kernel
theorem dX9_init_23 : decode cX9_init 23 = .ok (.putfield 19, 3) := by decide +kernel
theorem dX9_init_26 : decode cX9_init 26 = .ok (.aload_n 0, 1) := by decide +kernel
theorem dX9_init_27 : decode cX9_init 27 = .ok (.new 16, 3) := by decide +kernel
theorem dX9_init_30 : decode cX9_init 30 = .ok (.dup, 1) := by decide +kernel
theorem dX9_init_31 : decode cX9_init 31 = .ok (.invokespecial 18, 3) := by decide +kernel
theorem dX9_init_34 : decode cX9_init 34 = .ok (.putfield 23, 3) := by decide +kernel
theorem dX9_init_37 : decode cX9_init 37 = .ok (.aload_n 0, 1) := by decide +kernel
theorem dX9_init_38 : decode cX9_init 38 = .ok (.new 26, 3) := by decide +kernel
theorem dX9_init_41 : decode cX9_init 41 = .ok (.dup, 1) := by decide +kernel
theorem dX9_init_42 : decode cX9_init 42 = .ok (.invokespecial 28, 3) := by decide +kernel
theorem dX9_init_45 : decode cX9_init 45 = .ok (.putfield 29, 3) := by decide +kernel
theorem dX9_init_48 : decode cX9_init 48 = .ok (.aload_n 0, 1) := by decide +kernel
theorem dX9_init_49 : decode cX9_init 49 = .ok (.new 33, 3) := by decide +kernel
theorem dX9_init_52 : decode cX9_init 52 = .ok (.dup, 1) := by decide +kernel
theorem dX9_init_53 : decode cX9_init 53 = .ok (.aload_n 0, 1) := by decide +kernel
theorem dX9_init_54 : decode cX9_init 54 = .ok (.getfield 19, 3) := by decide +kernel
theorem dX9_init_57 : decode cX9_init 57 = .ok (.invokespecial 35, 3) := by decide +kernel
theorem dX9_init_60 : decode cX9_init 60 = .ok (.putfield 38, 3) := by decide +kernel
theorem dX9_init_63 : decode cX9_init 63 = .ok (.aload_n 0, 1) := by decide +kernel
theorem dX9_init_64 : decode cX9_init 64 = .ok (.new 33, 3) := by decide +kernel
theorem dX9_init_67 : decode cX9_init 67 = .ok (.dup, 1) := by decide +kernel
theorem dX9_init_68 : decode cX9_init 68 = .ok (.aload_n 0, 1) := by decide +kernel
theorem dX9_init_69 : decode cX9_init 69 = .ok (.getfield 19, 3) := by decide +kernel
theorem dX9_init_72 : decode cX9_init 72 = .ok (.invokespecial 35, 3) := by decide +kernel
theorem dX9_init_75 : decode cX9_init 75 = .ok (.putfield 42, 3) := by decide +kernel
theorem dX9_init_78 : decode cX9_init 78 = .ok (.aload_n 0, 1) := by decide +kernel
theorem dX9_init_79 : decode cX9_init 79 = .ok (.new 45, 3) := by decide +kernel
theorem dX9_init_82 : decode cX9_init 82 = .ok (.dup, 1) := by decide +kernel
theorem dX9_init_83 : decode cX9_init 83 = .ok (.invokespecial 47, 3) := by decide +kernel
theorem dX9_init_86 : decode cX9_init 86 = .ok (.putfield 48, 3) := by decide +kernel
theorem dX9_init_89 : decode cX9_init 89 = .ok (.iconst 0, 1) := by decide +kernel
theorem dX9_init_90 : decode cX9_init 90 = .ok (.istore_n 1, 1) := by decide +kernel
theorem dX9_init_91 : decode cX9_init 91 = .ok (.iload_n 1, 1) := by decide +kernel
theorem dX9_init_92 : decode cX9_init 92 = .ok (.ldc 52, 2) := by decide +kernel
theorem dX9_init_94 : decode cX9_init 94 = .ok (.invokevirtual 54, 3) := by decide +kernel
theorem dX9_init_97 : decode cX9_init 97 = .ok (.if_icmp .ge 23, 3) := by decide +kernel
theorem dX9_init_100 : decode cX9_init 100 = .ok (.aload_n 0, 1) := by decide +kernel
theorem dX9_init_101 : decode cX9_init 101 = .ok (.getfield 10, 3) := by decide +kernel
theorem dX9_init_104 : decode cX9_init 104 = .ok (.ldc 52, 2) := by decide +kernel
theorem dX9_init_106 : decode cX9_init 106 = .ok (.iload_n 1, 1) := by decide +kernel
theorem dX9_init_107 : decode cX9_init 107 = .ok (.invokevirtual 60, 3) := by decide +kernel
theorem dX9_init_110 : decode cX9_init 110 = .ok (.invokevirtual 64, 3) := by decide +kernel
theorem dX9_init_113 : decode cX9_init 113 = .ok (.pop, 1) := by decide +kernel
theorem dX9_init_114 : decode cX9_init 114 = .ok (.iinc 1 1, 3) := by decide +kernel
theorem dX9_init_117 : decode cX9_init 117 = .ok (.goto (-26), 3) := by decide +kernel
theorem dX9_init_120 : decode cX9_init 120 = .ok (.aload_n 0, 1) := by decide +kernel
theorem dX9_init_121 : decode cX9_init 121 = .ok (.getfield 10, 3) := by decide +kernel
theorem dX9_init_124 : decode cX9_init 124 = .ok (.aload_n 0, 1) := by decide +kernel
theorem dX9_init_125 : decode cX9_init 125 = .ok (.getfield 23, 3) := by decide +kernel
theorem dX9_init_128 : decode cX9_init 128 = .ok (.invokevirtual 68, 3) := by decide +kernel
theorem dX9_init_131 : decode cX9_init 131 = .ok (.pop, 1) := by decide +kernel
theorem dX9_init_132 : decode cX9_init 132 = .ok (.aload_n 0, 1) := by decide +kernel
theorem dX9_init_133 : decode cX9_init 133 = .ok (.invokevirtual 72, 3) := by decide +kernel
theorem dX9_init_136 : decode cX9_init 136 = .ok (.aload_n 0, 1) := by decide +kernel
theorem dX9_init_137 : decode cX9_init 137 = .ok (.getfield 10, 3) := by decide +kernel
theorem dX9_init_140 : decode cX9_init 140 = .ok (.invokevirtual 75, 3) := by decide +kernel
theorem dX9_init_143 : decode cX9_init 143 = .ok (.pop, 1) := by decide +kernel
theorem dX9_init_144 : decode cX9_init 144 = .ok (.return_, 1) := by decide +kernel
set_option maxRecDepth 20000 in
theorem ggX9_append_X2_add : GoodIn wsX9_append wsX2_add := goodIn_r _ [6, 7, 8, 16, 17] (by decide +kernel) (by decide +kernel)
set_option maxRecDepth 20000 in
theorem gX9_append_X2_add : GoodIn wsX9_append (wsV RX9 64 RX2 yX2_add wsX2_add) := goodIn_app (goodIn_of _ (by decide +kernel)) ggX9_append_X2_add
theorem dX9_append_0 : decode cX9_append 0 = .ok (.iload_n 1, 1) := by decide +kernel
theorem dX9_append_1 : decode cX9_append 1 = .ok (.bipush 32, 2) := by decide +kernel
theorem dX9_append_3 : decode cX9_append 3 = .ok (.if_icmp .lt 9, 3) := by decide +kernel
theorem dX9_append_6 : decode cX9_append 6 = .ok (.iload_n 1, 1) := by decide +kernel
theorem dX9_append_7 : decode cX9_append 7 = .ok (.bipush 126, 2) := by decide +kernel
theorem dX9_append_9 : decode cX9_append 9 = .ok (.if_icmp .le 5, 3) := by decide +kernel
theorem dX9_append_12 : decode cX9_append 12 = .ok (.iconst (-1), 1) := by decide +kernel
theorem dX9_append_13 : decode cX9_append 13 = .ok (.ireturn, 1) := by decide +kernel
theorem dX9_append_14 : decode cX9_append 14 = .ok (.aload_n 0, 1) := by decide +kernel
theorem dX9_append_15 : decode cX9_append 15 = .ok (.getfield 10, 3) := by decide +kernel
theorem dX9_append_18 : decode cX9_append 18 = .ok (.iload_n 1, 1) := by decide +kernel
theorem dX9_append_19 : decode cX9_append 19 = .ok (.i2c, 1) := by decide +kernel
theorem dX9_append_20 : decode cX9_append 20 = .ok (.invokevirtual 64, 3) := by decide +kernel
theorem dX9_append_23 : decode cX9_append 23 = .ok (.ireturn, 1) := by decide +kernel
set_option maxRecDepth 20000 in
theorem ggX9_clearText_X2_empty : GoodIn wsX9_clearText wsX2_empty := goodIn_r _ [6, 7, 15, 16] (by decide +kernel) (by decide +kernel)
set_option maxRecDepth 20000 in
theorem gX9_clearText_X2_empty : GoodIn wsX9_clearText (wsV RX9 75 RX2 yX2_empty wsX2_empty) := goodIn_app (goodIn_of _ (by decide +kernel)) ggX9_clearText_X2_empty
theorem dX9_clearText_0 : decode cX9_clearText 0 = .ok (.aload_n 0, 1) := by decide +kernel
theorem dX9_clearText_1 : decode cX9_clearText 1 = .ok (.getfield 10, 3) := by decide +kernel
theorem dX9_clearText_4 : decode cX9_clearText 4 = .ok (.invokevirtual 75, 3) := by decide +kernel
theorem dX9_clearText_7 : decode cX9_clearText 7 = .ok (.ireturn, 1) := by decide +kernel
set_option maxRecDepth 20000 in
theorem ggX9_firstError_X2_readInto : GoodIn wsX9_firstError wsX2_readInto := goodIn_r _ [7, 8, 9, 10, 11, 12, 13, 14, 15, 16, 17, 18, 19, 20, 21, 22, 23, 24, 25, 26, 27, 28, 29, 6, 30, 31, 32, 33, 34, 35, 36, 37, 38, 39, 40, 41, 42, 43, 44, 45, 46, 47, 48, 49, 50, 51, 52, 53, 54, 55, 56, 57, 58, 59, 60, 61, 62, 63, 64, 65, 66, 67, 68, 69, 70, 71, 72, 73, 74, 75, 76, 77, 78, 79, 80, 81, 82, 83, 84, 85, 86, 87, 88, 89, 90, 91, 92, 93, 94, 102, 103, 104, 105, 106, 107, 108, 109, 110, 111, 112] (by decide +kernel) (by decide +kernel)
set_option maxRecDepth 20000 in
theorem gX9_firstError_X2_readInto : GoodIn wsX9_firstError (wsV RX9 68 RX2 yX2_readInto wsX2_readInto) := goodIn_app (goodIn_of _ (by decide +kernel)) ggX9_firstError_X2_readInto
theorem dX9_firstError_0 : decode cX9_firstError 0 = .ok (.aload_n 0, 1) := by decide +kernel
theorem dX9_firstError_1 : decode cX9_firstError 1 = .ok (.getfield 10, 3) := by decide +kernel
theorem dX9_firstError_4 : decode cX9_firstError 4 = .ok (.aload_n 0, 1) := by decide +kernel
theorem dX9_firstError_5 : decode cX9_firstError 5 = .ok (.getfield 23, 3) := by decide +kernel
theorem dX9_firstError_8 : decode cX9_firstError 8 = .ok (.invokevirtual 68, 3) := by decide +kernel
theorem dX9_firstError_11 : decode cX9_firstError 11 = .ok (.ireturn, 1) := by decide +kernel
set_option maxRecDepth 20000 in
theorem ggX9_configure_X2_readInto : GoodIn wsX9_configure wsX2_readInto := goodIn_r _ [10, 11, 12, 13, 14, 15, 16, 17, 18, 19, 20, 21, 22, 23, 24, 25, 26, 27, 28, 29, 30, 31, 32, 9, 33, 34, 35, 36, 37, 38, 39, 40, 41, 42, 43, 44, 45, 46, 47, 48, 49, 50, 51, 52, 53, 54, 55, 56, 57, 58, 59, 60, 61, 62, 63, 64, 65, 66, 67, 68, 69, 70, 71, 72, 73, 74, 75, 76, 77, 78, 79, 80, 81, 82, 83, 84, 85, 86, 87, 88, 89, 90, 91, 92, 93, 94, 95, 96, 97, 126, 127, 128, 129, 130, 131, 132, 133, 134, 135, 136] (by decide +kernel) (by decide +kernel)
set_option maxRecDepth 20000 in
theorem gX9_configure_X2_readInto : GoodIn wsX9_configure (wsV RX9 68 RX2 yX2_readInto wsX2_readInto) := goodIn_app (goodIn_of _ (by decide +kernel)) ggX9_configure_X2_readInto
set_option maxRecDepth 20000 in
theorem ggX9_configure_X9_adoptDraft : GoodIn wsX9_configure wsX9_adoptDraft := goodIn_r _ [101, 4, 3, 102, 103, 104, 105, 106, 107, 16, 108, 18, 19, 20, 21, 22, 86, 109, 110, 111, 112, 27, 28, 29, 23, 24, 25, 26, 113, 114, 115, 116, 117, 118, 119, 120, 121, 122, 123, 124, 125, 137, 138, 139, 140, 141, 128, 129, 130, 131, 132, 133, 134, 135, 136, 142, 143, 144] (by decide +kernel) (by decide +kernel)
set_option maxRecDepth 20000 in
theorem gX9_configure_X9_adoptDraft : GoodIn wsX9_configure (wsV RX9 72 RX9 yX9_adoptDraft wsX9_adoptDraft) := goodIn_app (goodIn_of _ (by decide +kernel)) ggX9_configure_X9_adoptDraft
theorem dX9_configure_0 : decode cX9_configure 0 = .ok (.aload_n 0, 1) := by decide +kernel
theorem dX9_configure_1 : decode cX9_configure 1 = .ok (.getfield 10, 3) := by decide +kernel
theorem dX9_configure_4 : decode cX9_configure 4 = .ok (.getfield 78, 3) := by decide +kernel
theorem dX9_configure_7 : decode cX9_configure 7 = .ok (.ifCond .eq 19, 3) := by decide +kernel
theorem dX9_configure_10 : decode cX9_configure 10 = .ok (.aload_n 0, 1) := by decide +kernel
theorem dX9_configure_11 : decode cX9_configure 11 = .ok (.getfield 10, 3) := by decide +kernel
theorem dX9_configure_14 : decode cX9_configure 14 = .ok (.aload_n 0, 1) := by decide +kernel
theorem dX9_configure_15 : decode cX9_configure 15 = .ok (.getfield 23, 3) := by decide +kernel
theorem dX9_configure_18 : decode cX9_configure 18 = .ok (.invokevirtual 68, 3) := by decide +kernel
theorem dX9_configure_21 : decode cX9_configure 21 = .ok (.bipush (-4), 2) := by decide +kernel
theorem dX9_configure_23 : decode cX9_configure 23 = .ok (.if_icmp .eq 6, 3) := by decide +kernel
theorem dX9_configure_26 : decode cX9_configure 26 = .ok (.bipush (-2), 2) := by decide +kernel
theorem dX9_configure_28 : decode cX9_configure 28 = .ok (.ireturn, 1) := by decide +kernel
theorem dX9_configure_29 : decode cX9_configure 29 = .ok (.aload_n 0, 1) := by decide +kernel
theorem dX9_configure_30 : decode cX9_configure 30 = .ok (.invokevirtual 72, 3) := by decide +kernel
theorem dX9_configure_33 : decode cX9_configure 33 = .ok (.aload_n 0, 1) := by decide +kernel
theorem dX9_configure_34 : decode cX9_configure 34 = .ok (.getfield 19, 3) := by decide +kernel
theorem dX9_configure_37 : decode cX9_configure 37 = .ok (.getfield 81, 3) := by decide +kernel
theorem dX9_configure_40 : decode cX9_configure 40 = .ok (.ireturn, 1) := by decide +kernel
set_option maxRecDepth 20000 in
theorem ggX9_addRule_X1_ruleError : GoodIn wsX9_addRule wsX1_ruleError := goodIn_r _ [7, 8, 9, 10, 11, 6, 12, 13, 14, 15, 16, 17, 18, 19, 20, 21, 22, 23, 24, 25, 26, 27, 28, 29, 30, 31, 32, 33, 34, 35, 87, 88, 89, 90, 91, 92, 93, 94, 95] (by decide +kernel) (by decide +kernel)
set_option maxRecDepth 20000 in
theorem gX9_addRule_X1_ruleError : GoodIn wsX9_addRule (wsV RX9 84 RX1 yX1_ruleError wsX1_ruleError) := goodIn_app (goodIn_of _ (by decide +kernel)) ggX9_addRule_X1_ruleError
set_option maxRecDepth 20000 in
theorem ggX9_addRule_X9_beginGameChange : GoodIn wsX9_addRule wsX9_beginGameChange := goodIn_r _ [40, 41, 1, 42, 43, 44, 45, 46, 47, 48, 49, 50, 51, 52, 53, 54, 55, 56, 57, 58, 6, 59, 13, 18, 60, 61, 8, 31, 62, 63, 64, 65, 66, 67, 68, 69, 70, 71, 72, 80, 81, 82, 83, 84, 85, 86, 96, 97, 98, 99, 100, 101, 102, 103, 87, 88, 89, 90, 91, 92, 93, 94, 95] (by decide +kernel) (by decide +kernel)
set_option maxRecDepth 20000 in
theorem gX9_addRule_X9_beginGameChange : GoodIn wsX9_addRule (wsV RX9 88 RX9 yX9_beginGameChange wsX9_beginGameChange) := goodIn_app (goodIn_of _ (by decide +kernel)) ggX9_addRule_X9_beginGameChange
set_option maxRecDepth 20000 in
theorem ggX9_addRule_X5_of : GoodIn wsX9_addRule wsX5_of := goodIn_r _ [75] (by decide +kernel) (by decide +kernel)
set_option maxRecDepth 20000 in
theorem gX9_addRule_X5_of : GoodIn wsX9_addRule (va_wsS RX9 91 yX5_of wsX5_of) := goodIn_app (goodIn_of _ (by decide +kernel)) ggX9_addRule_X5_of
set_option maxRecDepth 20000 in
theorem ggX9_addRule_X1_takeRule : GoodIn wsX9_addRule wsX1_takeRule := goodIn_r _ [79, 8, 31, 87, 88, 89, 90, 91, 92, 93, 94, 95] (by decide +kernel) (by decide +kernel)
set_option maxRecDepth 20000 in
theorem gX9_addRule_X1_takeRule : GoodIn wsX9_addRule (wsV RX9 96 RX1 yX1_takeRule wsX1_takeRule) := goodIn_app (goodIn_of _ (by decide +kernel)) ggX9_addRule_X1_takeRule
theorem dX9_addRule_0 : decode cX9_addRule 0 = .ok (.aload_n 0, 1) := by decide +kernel
theorem dX9_addRule_1 : decode cX9_addRule 1 = .ok (.getfield 19, 3) := by decide +kernel
theorem dX9_addRule_4 : decode cX9_addRule 4 = .ok (.iload_n 1, 1) := by decide +kernel
theorem dX9_addRule_5 : decode cX9_addRule 5 = .ok (.iload_n 2, 1) := by decide +kernel
theorem dX9_addRule_6 : decode cX9_addRule 6 = .ok (.iload_n 3, 1) := by decide +kernel
theorem dX9_addRule_7 : decode cX9_addRule 7 = .ok (.iload 4, 2) := by decide +kernel
theorem dX9_addRule_9 : decode cX9_addRule 9 = .ok (.iload 5, 2) := by decide +kernel
theorem dX9_addRule_11 : decode cX9_addRule 11 = .ok (.invokevirtual 84, 3) := by decide +kernel
theorem dX9_addRule_14 : decode cX9_addRule 14 = .ok (.istore 6, 2) := by decide +kernel
theorem dX9_addRule_16 : decode cX9_addRule 16 = .ok (.iload 6, 2) := by decide +kernel
theorem dX9_addRule_18 : decode cX9_addRule 18 = .ok (.ifCond .eq 6, 3) := by decide +kernel
theorem dX9_addRule_21 : decode cX9_addRule 21 = .ok (.iload 6, 2) := by decide +kernel
theorem dX9_addRule_23 : decode cX9_addRule 23 = .ok (.ireturn, 1) := by decide +kernel
theorem dX9_addRule_24 : decode cX9_addRule 24 = .ok (.aload_n 0, 1) := by decide +kernel
theorem dX9_addRule_25 : decode cX9_addRule 25 = .ok (.invokevirtual 88, 3) := by decide +kernel
theorem dX9_addRule_28 : decode cX9_addRule 28 = .ok (.aload_n 0, 1) := by decide +kernel
theorem dX9_addRule_29 : decode cX9_addRule 29 = .ok (.getfield 19, 3) := by decide +kernel
theorem dX9_addRule_32 : decode cX9_addRule 32 = .ok (.iload_n 1, 1) := by decide +kernel
theorem dX9_addRule_33 : decode cX9_addRule 33 = .ok (.iload_n 2, 1) := by decide +kernel
theorem dX9_addRule_34 : decode cX9_addRule 34 = .ok (.iload_n 3, 1) := by decide +kernel
theorem dX9_addRule_35 : decode cX9_addRule 35 = .ok (.iload 4, 2) := by decide +kernel
theorem dX9_addRule_37 : decode cX9_addRule 37 = .ok (.iload 5, 2) := by decide +kernel
theorem dX9_addRule_39 : decode cX9_addRule 39 = .ok (.invokestatic 91, 3) := by decide +kernel
theorem dX9_addRule_42 : decode cX9_addRule 42 = .ok (.invokevirtual 96, 3) := by decide +kernel
theorem dX9_addRule_45 : decode cX9_addRule 45 = .ok (.aload_n 0, 1) := by decide +kernel
theorem dX9_addRule_46 : decode cX9_addRule 46 = .ok (.getfield 19, 3) := by decide +kernel
theorem dX9_addRule_49 : decode cX9_addRule 49 = .ok (.getfield 81, 3) := by decide +kernel
theorem dX9_addRule_52 : decode cX9_addRule 52 = .ok (.iconst 1, 1) := by decide +kernel
theorem dX9_addRule_53 : decode cX9_addRule 53 = .ok (.isub, 1) := by decide +kernel
theorem dX9_addRule_54 : decode cX9_addRule 54 = .ok (.ireturn, 1) := by decide +kernel
set_option maxRecDepth 20000 in
theorem ggX9_removeRule_X1_hasRule : GoodIn wsX9_removeRule wsX1_hasRule := goodIn_r _ [7, 8, 60, 61, 62, 63, 64, 65, 66, 67, 68] (by decide +kernel) (by decide +kernel)
set_option maxRecDepth 20000 in
theorem gX9_removeRule_X1_hasRule : GoodIn wsX9_removeRule (wsV RX9 100 RX1 yX1_hasRule wsX1_hasRule) := goodIn_app (goodIn_of _ (by decide +kernel)) ggX9_removeRule_X1_hasRule
set_option maxRecDepth 20000 in
theorem ggX9_removeRule_X9_beginGameChange : GoodIn wsX9_removeRule wsX9_beginGameChange := goodIn_r _ [13, 14, 1, 15, 16, 17, 18, 19, 20, 21, 22, 23, 24, 25, 26, 27, 28, 29, 30, 31, 6, 32, 33, 34, 35, 36, 8, 37, 38, 39, 40, 41, 42, 43, 44, 45, 46, 47, 48, 53, 54, 55, 56, 57, 58, 59, 69, 70, 71, 72, 73, 74, 75, 76, 60, 61, 62, 63, 64, 65, 66, 67, 68] (by decide +kernel) (by decide +kernel)
set_option maxRecDepth 20000 in
theorem gX9_removeRule_X9_beginGameChange : GoodIn wsX9_removeRule (wsV RX9 88 RX9 yX9_beginGameChange wsX9_beginGameChange) := goodIn_app (goodIn_of _ (by decide +kernel)) ggX9_removeRule_X9_beginGameChange
set_option maxRecDepth 20000 in
theorem ggX9_removeRule_X1_dropRule : GoodIn wsX9_removeRule wsX1_dropRule := goodIn_r _ [52, 8, 37, 60, 61, 62, 63, 64, 65, 66, 67, 68] (by decide +kernel) (by decide +kernel)
set_option maxRecDepth 20000 in
theorem gX9_removeRule_X1_dropRule : GoodIn wsX9_removeRule (wsV RX9 104 RX1 yX1_dropRule wsX1_dropRule) := goodIn_app (goodIn_of _ (by decide +kernel)) ggX9_removeRule_X1_dropRule
theorem dX9_removeRule_0 : decode cX9_removeRule 0 = .ok (.aload_n 0, 1) := by decide +kernel
theorem dX9_removeRule_1 : decode cX9_removeRule 1 = .ok (.getfield 19, 3) := by decide +kernel
theorem dX9_removeRule_4 : decode cX9_removeRule 4 = .ok (.iload_n 1, 1) := by decide +kernel
theorem dX9_removeRule_5 : decode cX9_removeRule 5 = .ok (.invokevirtual 100, 3) := by decide +kernel
theorem dX9_removeRule_8 : decode cX9_removeRule 8 = .ok (.ifCond .ne 5, 3) := by decide +kernel
theorem dX9_removeRule_11 : decode cX9_removeRule 11 = .ok (.iconst (-1), 1) := by decide +kernel
theorem dX9_removeRule_12 : decode cX9_removeRule 12 = .ok (.ireturn, 1) := by decide +kernel
theorem dX9_removeRule_13 : decode cX9_removeRule 13 = .ok (.aload_n 0, 1) := by decide +kernel
theorem dX9_removeRule_14 : decode cX9_removeRule 14 = .ok (.invokevirtual 88, 3) := by decide +kernel
theorem dX9_removeRule_17 : decode cX9_removeRule 17 = .ok (.aload_n 0, 1) := by decide +kernel
theorem dX9_removeRule_18 : decode cX9_removeRule 18 = .ok (.getfield 19, 3) := by decide +kernel
theorem dX9_removeRule_21 : decode cX9_removeRule 21 = .ok (.iload_n 1, 1) := by decide +kernel
theorem dX9_removeRule_22 : decode cX9_removeRule 22 = .ok (.invokevirtual 104, 3) := by decide +kernel
theorem dX9_removeRule_25 : decode cX9_removeRule 25 = .ok (.aload_n 0, 1) := by decide +kernel
theorem dX9_removeRule_26 : decode cX9_removeRule 26 = .ok (.getfield 19, 3) := by decide +kernel
theorem dX9_removeRule_29 : decode cX9_removeRule 29 = .ok (.getfield 81, 3) := by decide +kernel
theorem dX9_removeRule_32 : decode cX9_removeRule 32 = .ok (.ireturn, 1) := by decide +kernel
set_option maxRecDepth 20000 in
theorem ggX9_setOwner_X1_hasState : GoodIn wsX9_setOwner wsX1_hasState := goodIn_r _ [7, 8, 65, 66, 67, 68, 69, 70, 71, 72, 73] (by decide +kernel) (by decide +kernel)
set_option maxRecDepth 20000 in
theorem gX9_setOwner_X1_hasState : GoodIn wsX9_setOwner (wsV RX9 107 RX1 yX1_hasState wsX1_hasState) := goodIn_app (goodIn_of _ (by decide +kernel)) ggX9_setOwner_X1_hasState
set_option maxRecDepth 20000 in
theorem ggX9_setOwner_X1_owner : GoodIn wsX9_setOwner wsX1_owner := goodIn_r _ [12, 13, 14, 15, 16, 65, 66, 67, 68, 69, 70, 71, 72, 73] (by decide +kernel) (by decide +kernel)
set_option maxRecDepth 20000 in
theorem gX9_setOwner_X1_owner : GoodIn wsX9_setOwner (wsV RX9 110 RX1 yX1_owner wsX1_owner) := goodIn_app (goodIn_of _ (by decide +kernel)) ggX9_setOwner_X1_owner
set_option maxRecDepth 20000 in
theorem ggX9_setOwner_X9_beginGameChange : GoodIn wsX9_setOwner wsX9_beginGameChange := goodIn_r _ [20, 21, 1, 22, 23, 24, 25, 26, 27, 28, 29, 30, 31, 32, 33, 34, 35, 36, 37, 38, 6, 39, 8, 40, 13, 41, 42, 43, 44, 45, 46, 47, 48, 49, 50, 51, 52, 53, 54, 58, 59, 60, 61, 62, 63, 64, 74, 75, 76, 77, 78, 79, 80, 81, 65, 66, 67, 68, 69, 70, 71, 72, 73] (by decide +kernel) (by decide +kernel)
set_option maxRecDepth 20000 in
theorem gX9_setOwner_X9_beginGameChange : GoodIn wsX9_setOwner (wsV RX9 88 RX9 yX9_beginGameChange wsX9_beginGameChange) := goodIn_app (goodIn_of _ (by decide +kernel)) ggX9_setOwner_X9_beginGameChange
set_option maxRecDepth 20000 in
theorem ggX9_setOwner_X9_withBit : GoodIn wsX9_setOwner wsX9_withBit := goodIn_r _ [57] (by decide +kernel) (by decide +kernel)
set_option maxRecDepth 20000 in
theorem gX9_setOwner_X9_withBit : GoodIn wsX9_setOwner (va_wsS RX9 117 yX9_withBit wsX9_withBit) := goodIn_app (goodIn_of _ (by decide +kernel)) ggX9_setOwner_X9_withBit
theorem dX9_setOwner_0 : decode cX9_setOwner 0 = .ok (.aload_n 0, 1) := by decide +kernel
theorem dX9_setOwner_1 : decode cX9_setOwner 1 = .ok (.getfield 19, 3) := by decide +kernel
theorem dX9_setOwner_4 : decode cX9_setOwner 4 = .ok (.iload_n 1, 1) := by decide +kernel
theorem dX9_setOwner_5 : decode cX9_setOwner 5 = .ok (.invokevirtual 107, 3) := by decide +kernel
theorem dX9_setOwner_8 : decode cX9_setOwner 8 = .ok (.ifCond .eq 12, 3) := by decide +kernel
theorem dX9_setOwner_11 : decode cX9_setOwner 11 = .ok (.iload_n 2, 1) := by decide +kernel
theorem dX9_setOwner_12 : decode cX9_setOwner 12 = .ok (.ifCond .eq 10, 3) := by decide +kernel
theorem dX9_setOwner_15 : decode cX9_setOwner 15 = .ok (.iload_n 2, 1) := by decide +kernel
theorem dX9_setOwner_16 : decode cX9_setOwner 16 = .ok (.iconst 1, 1) := by decide +kernel
theorem dX9_setOwner_17 : decode cX9_setOwner 17 = .ok (.if_icmp .eq 5, 3) := by decide +kernel
theorem dX9_setOwner_20 : decode cX9_setOwner 20 = .ok (.iconst (-1), 1) := by decide +kernel
theorem dX9_setOwner_21 : decode cX9_setOwner 21 = .ok (.ireturn, 1) := by decide +kernel
theorem dX9_setOwner_22 : decode cX9_setOwner 22 = .ok (.aload_n 0, 1) := by decide +kernel
theorem dX9_setOwner_23 : decode cX9_setOwner 23 = .ok (.getfield 19, 3) := by decide +kernel
theorem dX9_setOwner_26 : decode cX9_setOwner 26 = .ok (.iload_n 1, 1) := by decide +kernel
theorem dX9_setOwner_27 : decode cX9_setOwner 27 = .ok (.invokevirtual 110, 3) := by decide +kernel
theorem dX9_setOwner_30 : decode cX9_setOwner 30 = .ok (.istore_n 3, 1) := by decide +kernel
theorem dX9_setOwner_31 : decode cX9_setOwner 31 = .ok (.aload_n 0, 1) := by decide +kernel
theorem dX9_setOwner_32 : decode cX9_setOwner 32 = .ok (.invokevirtual 88, 3) := by decide +kernel
theorem dX9_setOwner_35 : decode cX9_setOwner 35 = .ok (.aload_n 0, 1) := by decide +kernel
theorem dX9_setOwner_36 : decode cX9_setOwner 36 = .ok (.getfield 19, 3) := by decide +kernel
theorem dX9_setOwner_39 : decode cX9_setOwner 39 = .ok (.aload_n 0, 1) := by decide +kernel
theorem dX9_setOwner_40 : decode cX9_setOwner 40 = .ok (.getfield 19, 3) := by decide +kernel
theorem dX9_setOwner_43 : decode cX9_setOwner 43 = .ok (.getfield 114, 3) := by decide +kernel
theorem dX9_setOwner_46 : decode cX9_setOwner 46 = .ok (.iload_n 1, 1) := by decide +kernel
theorem dX9_setOwner_47 : decode cX9_setOwner 47 = .ok (.iload_n 2, 1) := by decide +kernel
theorem dX9_setOwner_48 : decode cX9_setOwner 48 = .ok (.iconst 1, 1) := by decide +kernel
theorem dX9_setOwner_49 : decode cX9_setOwner 49 = .ok (.if_icmp .ne 7, 3) := by decide +kernel
theorem dX9_setOwner_52 : decode cX9_setOwner 52 = .ok (.iconst 1, 1) := by decide +kernel
theorem dX9_setOwner_53 : decode cX9_setOwner 53 = .ok (.goto 4, 3) := by decide +kernel
theorem dX9_setOwner_56 : decode cX9_setOwner 56 = .ok (.iconst 0, 1) := by decide +kernel
theorem dX9_setOwner_57 : decode cX9_setOwner 57 = .ok (.invokestatic 117, 3) := by decide +kernel
theorem dX9_setOwner_60 : decode cX9_setOwner 60 = .ok (.putfield 114, 3) := by decide +kernel
theorem dX9_setOwner_63 : decode cX9_setOwner 63 = .ok (.iload_n 3, 1) := by decide +kernel
theorem dX9_setOwner_64 : decode cX9_setOwner 64 = .ok (.ireturn, 1) := by decide +kernel
set_option maxRecDepth 20000 in
theorem ggX9_setTarget_X1_hasState : GoodIn wsX9_setTarget wsX1_hasState := goodIn_r _ [7, 8, 62, 63, 64, 65, 66, 67, 68, 69, 70] (by decide +kernel) (by decide +kernel)
set_option maxRecDepth 20000 in
theorem gX9_setTarget_X1_hasState : GoodIn wsX9_setTarget (wsV RX9 107 RX1 yX1_hasState wsX1_hasState) := goodIn_app (goodIn_of _ (by decide +kernel)) ggX9_setTarget_X1_hasState
set_option maxRecDepth 20000 in
theorem ggX9_setTarget_X9_bit : GoodIn wsX9_setTarget wsX9_bit := goodIn_r _ [12] (by decide +kernel) (by decide +kernel)
set_option maxRecDepth 20000 in
theorem gX9_setTarget_X9_bit : GoodIn wsX9_setTarget (va_wsS RX9 124 yX9_bit wsX9_bit) := goodIn_app (goodIn_of _ (by decide +kernel)) ggX9_setTarget_X9_bit
set_option maxRecDepth 20000 in
theorem ggX9_setTarget_X9_beginGameChange : GoodIn wsX9_setTarget wsX9_beginGameChange := goodIn_r _ [16, 17, 1, 18, 19, 20, 21, 22, 23, 24, 25, 26, 27, 28, 29, 30, 31, 32, 33, 34, 6, 35, 8, 36, 37, 38, 39, 40, 41, 42, 43, 44, 45, 46, 47, 48, 49, 50, 51, 55, 56, 57, 58, 59, 60, 61, 71, 72, 73, 74, 75, 76, 77, 78, 62, 63, 64, 65, 66, 67, 68, 69, 70] (by decide +kernel) (by decide +kernel)
set_option maxRecDepth 20000 in
theorem gX9_setTarget_X9_beginGameChange : GoodIn wsX9_setTarget (wsV RX9 88 RX9 yX9_beginGameChange wsX9_beginGameChange) := goodIn_app (goodIn_of _ (by decide +kernel)) ggX9_setTarget_X9_beginGameChange
set_option maxRecDepth 20000 in
theorem ggX9_setTarget_X9_withBit : GoodIn wsX9_setTarget wsX9_withBit := goodIn_r _ [54] (by decide +kernel) (by decide +kernel)
set_option maxRecDepth 20000 in
theorem gX9_setTarget_X9_withBit : GoodIn wsX9_setTarget (va_wsS RX9 117 yX9_withBit wsX9_withBit) := goodIn_app (goodIn_of _ (by decide +kernel)) ggX9_setTarget_X9_withBit
theorem dX9_setTarget_0 : decode cX9_setTarget 0 = .ok (.aload_n 0, 1) := by decide +kernel
theorem dX9_setTarget_1 : decode cX9_setTarget 1 = .ok (.getfield 19, 3) := by decide +kernel
theorem dX9_setTarget_4 : decode cX9_setTarget 4 = .ok (.iload_n 1, 1) := by decide +kernel
theorem dX9_setTarget_5 : decode cX9_setTarget 5 = .ok (.invokevirtual 107, 3) := by decide +kernel
theorem dX9_setTarget_8 : decode cX9_setTarget 8 = .ok (.ifCond .eq 12, 3) := by decide +kernel
theorem dX9_setTarget_11 : decode cX9_setTarget 11 = .ok (.iload_n 2, 1) := by decide +kernel
theorem dX9_setTarget_12 : decode cX9_setTarget 12 = .ok (.ifCond .eq 10, 3) := by decide +kernel
theorem dX9_setTarget_15 : decode cX9_setTarget 15 = .ok (.iload_n 2, 1) := by decide +kernel
theorem dX9_setTarget_16 : decode cX9_setTarget 16 = .ok (.iconst 1, 1) := by decide +kernel
theorem dX9_setTarget_17 : decode cX9_setTarget 17 = .ok (.if_icmp .eq 5, 3) := by decide +kernel
theorem dX9_setTarget_20 : decode cX9_setTarget 20 = .ok (.iconst (-1), 1) := by decide +kernel
theorem dX9_setTarget_21 : decode cX9_setTarget 21 = .ok (.ireturn, 1) := by decide +kernel
theorem dX9_setTarget_22 : decode cX9_setTarget 22 = .ok (.aload_n 0, 1) := by decide +kernel
theorem dX9_setTarget_23 : decode cX9_setTarget 23 = .ok (.getfield 19, 3) := by decide +kernel
theorem dX9_setTarget_26 : decode cX9_setTarget 26 = .ok (.getfield 121, 3) := by decide +kernel
theorem dX9_setTarget_29 : decode cX9_setTarget 29 = .ok (.iload_n 1, 1) := by decide +kernel
theorem dX9_setTarget_30 : decode cX9_setTarget 30 = .ok (.invokestatic 124, 3) := by decide +kernel
theorem dX9_setTarget_33 : decode cX9_setTarget 33 = .ok (.istore_n 3, 1) := by decide +kernel
theorem dX9_setTarget_34 : decode cX9_setTarget 34 = .ok (.aload_n 0, 1) := by decide +kernel
theorem dX9_setTarget_35 : decode cX9_setTarget 35 = .ok (.invokevirtual 88, 3) := by decide +kernel
theorem dX9_setTarget_38 : decode cX9_setTarget 38 = .ok (.aload_n 0, 1) := by decide +kernel
theorem dX9_setTarget_39 : decode cX9_setTarget 39 = .ok (.getfield 19, 3) := by decide +kernel
theorem dX9_setTarget_42 : decode cX9_setTarget 42 = .ok (.aload_n 0, 1) := by decide +kernel
theorem dX9_setTarget_43 : decode cX9_setTarget 43 = .ok (.getfield 19, 3) := by decide +kernel
theorem dX9_setTarget_46 : decode cX9_setTarget 46 = .ok (.getfield 121, 3) := by decide +kernel
theorem dX9_setTarget_49 : decode cX9_setTarget 49 = .ok (.iload_n 1, 1) := by decide +kernel
theorem dX9_setTarget_50 : decode cX9_setTarget 50 = .ok (.iload_n 2, 1) := by decide +kernel
theorem dX9_setTarget_51 : decode cX9_setTarget 51 = .ok (.iconst 1, 1) := by decide +kernel
theorem dX9_setTarget_52 : decode cX9_setTarget 52 = .ok (.if_icmp .ne 7, 3) := by decide +kernel
theorem dX9_setTarget_55 : decode cX9_setTarget 55 = .ok (.iconst 1, 1) := by decide +kernel
theorem dX9_setTarget_56 : decode cX9_setTarget 56 = .ok (.goto 4, 3) := by decide +kernel
theorem dX9_setTarget_59 : decode cX9_setTarget 59 = .ok (.iconst 0, 1) := by decide +kernel
theorem dX9_setTarget_60 : decode cX9_setTarget 60 = .ok (.invokestatic 117, 3) := by decide +kernel
theorem dX9_setTarget_63 : decode cX9_setTarget 63 = .ok (.putfield 121, 3) := by decide +kernel
theorem dX9_setTarget_66 : decode cX9_setTarget 66 = .ok (.iload_n 3, 1) := by decide +kernel
theorem dX9_setTarget_67 : decode cX9_setTarget 67 = .ok (.ireturn, 1) := by decide +kernel
set_option maxRecDepth 20000 in
theorem ggX9_place_X1_hasState : GoodIn wsX9_place wsX1_hasState := goodIn_r _ [8, 9, 50, 51, 52, 53, 54, 55, 56, 57, 58] (by decide +kernel) (by decide +kernel)
set_option maxRecDepth 20000 in
theorem gX9_place_X1_hasState : GoodIn wsX9_place (wsV RX9 107 RX1 yX1_hasState wsX1_hasState) := goodIn_app (goodIn_of _ (by decide +kernel)) ggX9_place_X1_hasState
set_option maxRecDepth 20000 in
theorem ggX9_place_X3_keep : GoodIn wsX9_place wsX3_keep := goodIn_r _ [14, 15, 16, 17, 18, 19, 20, 21, 22, 23, 24, 7, 25, 9, 26, 27, 28, 29, 30, 31, 32, 33, 34, 35, 36, 37, 38, 39, 40, 41, 59, 60, 61, 50, 51, 52, 53, 54, 55, 56, 57, 58] (by decide +kernel) (by decide +kernel)
set_option maxRecDepth 20000 in
theorem gX9_place_X3_keep : GoodIn wsX9_place (wsV RX9 131 RX3 yX3_keep wsX3_keep) := goodIn_app (goodIn_of _ (by decide +kernel)) ggX9_place_X3_keep
set_option maxRecDepth 20000 in
theorem ggX9_place_X1_moveTo : GoodIn wsX9_place wsX1_moveTo := goodIn_r _ [41, 35, 36, 37, 50, 51, 52, 53, 54, 55, 56, 57, 58] (by decide +kernel) (by decide +kernel)
set_option maxRecDepth 20000 in
theorem gX9_place_X1_moveTo : GoodIn wsX9_place (wsV RX9 134 RX1 yX1_moveTo wsX1_moveTo) := goodIn_app (goodIn_of _ (by decide +kernel)) ggX9_place_X1_moveTo
theorem dX9_place_0 : decode cX9_place 0 = .ok (.aload_n 0, 1) := by decide +kernel
theorem dX9_place_1 : decode cX9_place 1 = .ok (.getfield 19, 3) := by decide +kernel
theorem dX9_place_4 : decode cX9_place 4 = .ok (.iload_n 1, 1) := by decide +kernel
theorem dX9_place_5 : decode cX9_place 5 = .ok (.invokevirtual 107, 3) := by decide +kernel
theorem dX9_place_8 : decode cX9_place 8 = .ok (.ifCond .ne 5, 3) := by decide +kernel
theorem dX9_place_11 : decode cX9_place 11 = .ok (.iconst (-1), 1) := by decide +kernel
theorem dX9_place_12 : decode cX9_place 12 = .ok (.ireturn, 1) := by decide +kernel
theorem dX9_place_13 : decode cX9_place 13 = .ok (.aload_n 0, 1) := by decide +kernel
theorem dX9_place_14 : decode cX9_place 14 = .ok (.getfield 19, 3) := by decide +kernel
theorem dX9_place_17 : decode cX9_place 17 = .ok (.getfield 128, 3) := by decide +kernel
theorem dX9_place_20 : decode cX9_place 20 = .ok (.istore_n 2, 1) := by decide +kernel
theorem dX9_place_21 : decode cX9_place 21 = .ok (.aload_n 0, 1) := by decide +kernel
theorem dX9_place_22 : decode cX9_place 22 = .ok (.getfield 29, 3) := by decide +kernel
theorem dX9_place_25 : decode cX9_place 25 = .ok (.aload_n 0, 1) := by decide +kernel
theorem dX9_place_26 : decode cX9_place 26 = .ok (.getfield 19, 3) := by decide +kernel
theorem dX9_place_29 : decode cX9_place 29 = .ok (.invokevirtual 131, 3) := by decide +kernel
theorem dX9_place_32 : decode cX9_place 32 = .ok (.aload_n 0, 1) := by decide +kernel
theorem dX9_place_33 : decode cX9_place 33 = .ok (.getfield 19, 3) := by decide +kernel
theorem dX9_place_36 : decode cX9_place 36 = .ok (.iload_n 1, 1) := by decide +kernel
theorem dX9_place_37 : decode cX9_place 37 = .ok (.lconst 0, 1) := by decide +kernel
theorem dX9_place_38 : decode cX9_place 38 = .ok (.iconst 0, 1) := by decide +kernel
theorem dX9_place_39 : decode cX9_place 39 = .ok (.invokevirtual 134, 3) := by decide +kernel
theorem dX9_place_42 : decode cX9_place 42 = .ok (.iload_n 2, 1) := by decide +kernel
theorem dX9_place_43 : decode cX9_place 43 = .ok (.ireturn, 1) := by decide +kernel
set_option maxRecDepth 20000 in
theorem ggX9_push_X1_hasSymbol : GoodIn wsX9_push wsX1_hasSymbol := goodIn_r _ [10, 11, 56, 57, 58, 59, 60, 61, 62, 63, 64] (by decide +kernel) (by decide +kernel)
set_option maxRecDepth 20000 in
theorem gX9_push_X1_hasSymbol : GoodIn wsX9_push (wsV RX9 138 RX1 yX1_hasSymbol wsX1_hasSymbol) := goodIn_app (goodIn_of _ (by decide +kernel)) ggX9_push_X1_hasSymbol
set_option maxRecDepth 20000 in
theorem ggX9_push_X3_keep : GoodIn wsX9_push wsX3_keep := goodIn_r _ [16, 17, 18, 19, 20, 21, 22, 23, 24, 25, 26, 9, 27, 28, 11, 29, 30, 31, 32, 33, 34, 35, 36, 37, 38, 39, 40, 41, 42, 43, 65, 66, 67, 56, 57, 58, 59, 60, 61, 62, 63, 64] (by decide +kernel) (by decide +kernel)
set_option maxRecDepth 20000 in
theorem gX9_push_X3_keep : GoodIn wsX9_push (wsV RX9 131 RX3 yX3_keep wsX3_keep) := goodIn_app (goodIn_of _ (by decide +kernel)) ggX9_push_X3_keep
set_option maxRecDepth 20000 in
theorem ggX9_push_X7_pushed : GoodIn wsX9_push wsX7_pushed := goodIn_r _ [47] (by decide +kernel) (by decide +kernel)
set_option maxRecDepth 20000 in
theorem gX9_push_X7_pushed : GoodIn wsX9_push (va_wsS RX9 148 yX7_pushed wsX7_pushed) := goodIn_app (goodIn_of _ (by decide +kernel)) ggX9_push_X7_pushed
set_option maxRecDepth 20000 in
theorem ggX9_push_X1_moveTo : GoodIn wsX9_push wsX1_moveTo := goodIn_r _ [43, 37, 38, 39, 56, 57, 58, 59, 60, 61, 62, 63, 64] (by decide +kernel) (by decide +kernel)
set_option maxRecDepth 20000 in
theorem gX9_push_X1_moveTo : GoodIn wsX9_push (wsV RX9 134 RX1 yX1_moveTo wsX1_moveTo) := goodIn_app (goodIn_of _ (by decide +kernel)) ggX9_push_X1_moveTo
theorem dX9_push_0 : decode cX9_push 0 = .ok (.aload_n 0, 1) := by decide +kernel
theorem dX9_push_1 : decode cX9_push 1 = .ok (.getfield 19, 3) := by decide +kernel
theorem dX9_push_4 : decode cX9_push 4 = .ok (.iload_n 1, 1) := by decide +kernel
theorem dX9_push_5 : decode cX9_push 5 = .ok (.invokevirtual 138, 3) := by decide +kernel
theorem dX9_push_8 : decode cX9_push 8 = .ok (.ifCond .ne 5, 3) := by decide +kernel
theorem dX9_push_11 : decode cX9_push 11 = .ok (.iconst (-1), 1) := by decide +kernel
theorem dX9_push_12 : decode cX9_push 12 = .ok (.ireturn, 1) := by decide +kernel
theorem dX9_push_13 : decode cX9_push 13 = .ok (.aload_n 0, 1) := by decide +kernel
theorem dX9_push_14 : decode cX9_push 14 = .ok (.getfield 19, 3) := by decide +kernel
theorem dX9_push_17 : decode cX9_push 17 = .ok (.getfield 128, 3) := by decide +kernel
theorem dX9_push_20 : decode cX9_push 20 = .ok (.bipush 12, 2) := by decide +kernel
theorem dX9_push_22 : decode cX9_push 22 = .ok (.if_icmp .lt 6, 3) := by decide +kernel
theorem dX9_push_25 : decode cX9_push 25 = .ok (.bipush (-3), 2) := by decide +kernel
theorem dX9_push_27 : decode cX9_push 27 = .ok (.ireturn, 1) := by decide +kernel
theorem dX9_push_28 : decode cX9_push 28 = .ok (.aload_n 0, 1) := by decide +kernel
theorem dX9_push_29 : decode cX9_push 29 = .ok (.getfield 29, 3) := by decide +kernel
theorem dX9_push_32 : decode cX9_push 32 = .ok (.aload_n 0, 1) := by decide +kernel
theorem dX9_push_33 : decode cX9_push 33 = .ok (.getfield 19, 3) := by decide +kernel
theorem dX9_push_36 : decode cX9_push 36 = .ok (.invokevirtual 131, 3) := by decide +kernel
theorem dX9_push_39 : decode cX9_push 39 = .ok (.aload_n 0, 1) := by decide +kernel
theorem dX9_push_40 : decode cX9_push 40 = .ok (.getfield 19, 3) := by decide +kernel
theorem dX9_push_43 : decode cX9_push 43 = .ok (.aload_n 0, 1) := by decide +kernel
theorem dX9_push_44 : decode cX9_push 44 = .ok (.getfield 19, 3) := by decide +kernel
theorem dX9_push_47 : decode cX9_push 47 = .ok (.getfield 141, 3) := by decide +kernel
theorem dX9_push_50 : decode cX9_push 50 = .ok (.aload_n 0, 1) := by decide +kernel
theorem dX9_push_51 : decode cX9_push 51 = .ok (.getfield 19, 3) := by decide +kernel
theorem dX9_push_54 : decode cX9_push 54 = .ok (.getfield 144, 3) := by decide +kernel
theorem dX9_push_57 : decode cX9_push 57 = .ok (.iload_n 1, 1) := by decide +kernel
theorem dX9_push_58 : decode cX9_push 58 = .ok (.invokestatic 148, 3) := by decide +kernel
theorem dX9_push_61 : decode cX9_push 61 = .ok (.aload_n 0, 1) := by decide +kernel
theorem dX9_push_62 : decode cX9_push 62 = .ok (.getfield 19, 3) := by decide +kernel
theorem dX9_push_65 : decode cX9_push 65 = .ok (.getfield 128, 3) := by decide +kernel
theorem dX9_push_68 : decode cX9_push 68 = .ok (.iconst 1, 1) := by decide +kernel
theorem dX9_push_69 : decode cX9_push 69 = .ok (.iadd, 1) := by decide +kernel
theorem dX9_push_70 : decode cX9_push 70 = .ok (.invokevirtual 134, 3) := by decide +kernel
theorem dX9_push_73 : decode cX9_push 73 = .ok (.aload_n 0, 1) := by decide +kernel
theorem dX9_push_74 : decode cX9_push 74 = .ok (.getfield 19, 3) := by decide +kernel
theorem dX9_push_77 : decode cX9_push 77 = .ok (.getfield 128, 3) := by decide +kernel
theorem dX9_push_80 : decode cX9_push 80 = .ok (.ireturn, 1) := by decide +kernel
set_option maxRecDepth 20000 in
theorem ggX9_play_X1_hasRule : GoodIn wsX9_play wsX1_hasRule := goodIn_r _ [11, 12, 87, 88, 89, 90, 91, 92, 93, 94, 95] (by decide +kernel) (by decide +kernel)
set_option maxRecDepth 20000 in
theorem gX9_play_X1_hasRule : GoodIn wsX9_play (wsV RX9 100 RX1 yX1_hasRule wsX1_hasRule) := goodIn_app (goodIn_of _ (by decide +kernel)) ggX9_play_X1_hasRule
set_option maxRecDepth 20000 in
theorem ggX9_play_X1_isPlayable : GoodIn wsX9_play wsX1_isPlayable := goodIn_r _ [16, 17, 18, 19, 20, 21, 22, 23, 24, 25, 26, 27, 28, 29, 30, 31, 87, 88, 89, 90, 91, 92, 93, 94, 95] (by decide +kernel) (by decide +kernel)
set_option maxRecDepth 20000 in
theorem gX9_play_X1_isPlayable : GoodIn wsX9_play (wsV RX9 158 RX1 yX1_isPlayable wsX1_isPlayable) := goodIn_app (goodIn_of _ (by decide +kernel)) ggX9_play_X1_isPlayable
set_option maxRecDepth 20000 in
theorem ggX9_play_X7_heightAfter : GoodIn wsX9_play wsX7_heightAfter := goodIn_r _ [34, 35, 36, 30, 37, 38, 39, 40] (by decide +kernel) (by decide +kernel)
set_option maxRecDepth 20000 in
theorem gX9_play_X7_heightAfter : GoodIn wsX9_play (va_wsS RX9 161 yX7_heightAfter wsX7_heightAfter) := goodIn_app (goodIn_of _ (by decide +kernel)) ggX9_play_X7_heightAfter
set_option maxRecDepth 20000 in
theorem ggX9_play_X3_keep : GoodIn wsX9_play wsX3_keep := goodIn_r _ [45, 46, 47, 48, 49, 50, 51, 52, 53, 54, 55, 10, 56, 57, 58, 59, 60, 12, 61, 62, 63, 64, 65, 18, 19, 17, 66, 67, 68, 69, 96, 97, 98, 87, 88, 89, 90, 91, 92, 93, 94, 95] (by decide +kernel) (by decide +kernel)
set_option maxRecDepth 20000 in
theorem gX9_play_X3_keep : GoodIn wsX9_play (wsV RX9 131 RX3 yX3_keep wsX3_keep) := goodIn_app (goodIn_of _ (by decide +kernel)) ggX9_play_X3_keep
set_option maxRecDepth 20000 in
theorem ggX9_play_X5_next : GoodIn wsX9_play wsX5_next := goodIn_r _ [72] (by decide +kernel) (by decide +kernel)
set_option maxRecDepth 20000 in
theorem gX9_play_X5_next : GoodIn wsX9_play (va_wsS RX9 164 yX5_next wsX5_next) := goodIn_app (goodIn_of _ (by decide +kernel)) ggX9_play_X5_next
set_option maxRecDepth 20000 in
theorem ggX9_play_X7_stackAfter : GoodIn wsX9_play wsX7_stackAfter := goodIn_r _ [75, 38, 39, 30, 40, 76, 77, 22, 78, 35, 36, 37] (by decide +kernel) (by decide +kernel)
set_option maxRecDepth 20000 in
theorem gX9_play_X7_stackAfter : GoodIn wsX9_play (va_wsS RX9 167 yX7_stackAfter wsX7_stackAfter) := goodIn_app (goodIn_of _ (by decide +kernel)) ggX9_play_X7_stackAfter
set_option maxRecDepth 20000 in
theorem ggX9_play_X1_moveTo : GoodIn wsX9_play wsX1_moveTo := goodIn_r _ [69, 18, 19, 17, 87, 88, 89, 90, 91, 92, 93, 94, 95] (by decide +kernel) (by decide +kernel)
set_option maxRecDepth 20000 in
theorem gX9_play_X1_moveTo : GoodIn wsX9_play (wsV RX9 134 RX1 yX1_moveTo wsX1_moveTo) := goodIn_app (goodIn_of _ (by decide +kernel)) ggX9_play_X1_moveTo
theorem dX9_play_0 : decode cX9_play 0 = .ok (.aload_n 0, 1) := by decide +kernel
theorem dX9_play_1 : decode cX9_play 1 = .ok (.getfield 19, 3) := by decide +kernel
theorem dX9_play_4 : decode cX9_play 4 = .ok (.iload_n 1, 1) := by decide +kernel
theorem dX9_play_5 : decode cX9_play 5 = .ok (.invokevirtual 100, 3) := by decide +kernel
theorem dX9_play_8 : decode cX9_play 8 = .ok (.ifCond .ne 5, 3) := by decide +kernel
theorem dX9_play_11 : decode cX9_play 11 = .ok (.iconst (-1), 1) := by decide +kernel
theorem dX9_play_12 : decode cX9_play 12 = .ok (.ireturn, 1) := by decide +kernel
theorem dX9_play_13 : decode cX9_play 13 = .ok (.aload_n 0, 1) := by decide +kernel
theorem dX9_play_14 : decode cX9_play 14 = .ok (.getfield 19, 3) := by decide +kernel
theorem dX9_play_17 : decode cX9_play 17 = .ok (.getfield 154, 3) := by decide +kernel
theorem dX9_play_20 : decode cX9_play 20 = .ok (.iload_n 1, 1) := by decide +kernel
theorem dX9_play_21 : decode cX9_play 21 = .ok (.iaload, 1) := by decide +kernel
theorem dX9_play_22 : decode cX9_play 22 = .ok (.istore_n 2, 1) := by decide +kernel
theorem dX9_play_23 : decode cX9_play 23 = .ok (.aload_n 0, 1) := by decide +kernel
theorem dX9_play_24 : decode cX9_play 24 = .ok (.getfield 19, 3) := by decide +kernel
theorem dX9_play_27 : decode cX9_play 27 = .ok (.iload_n 2, 1) := by decide +kernel
theorem dX9_play_28 : decode cX9_play 28 = .ok (.invokevirtual 158, 3) := by decide +kernel
theorem dX9_play_31 : decode cX9_play 31 = .ok (.ifCond .ne 6, 3) := by decide +kernel
theorem dX9_play_34 : decode cX9_play 34 = .ok (.bipush (-2), 2) := by decide +kernel
theorem dX9_play_36 : decode cX9_play 36 = .ok (.ireturn, 1) := by decide +kernel
theorem dX9_play_37 : decode cX9_play 37 = .ok (.aload_n 0, 1) := by decide +kernel
theorem dX9_play_38 : decode cX9_play 38 = .ok (.getfield 19, 3) := by decide +kernel
theorem dX9_play_41 : decode cX9_play 41 = .ok (.getfield 128, 3) := by decide +kernel
theorem dX9_play_44 : decode cX9_play 44 = .ok (.iload_n 2, 1) := by decide +kernel
theorem dX9_play_45 : decode cX9_play 45 = .ok (.invokestatic 161, 3) := by decide +kernel
theorem dX9_play_48 : decode cX9_play 48 = .ok (.istore_n 3, 1) := by decide +kernel
theorem dX9_play_49 : decode cX9_play 49 = .ok (.iload_n 3, 1) := by decide +kernel
theorem dX9_play_50 : decode cX9_play 50 = .ok (.bipush 12, 2) := by decide +kernel
theorem dX9_play_52 : decode cX9_play 52 = .ok (.if_icmp .le 6, 3) := by decide +kernel
theorem dX9_play_55 : decode cX9_play 55 = .ok (.bipush (-3), 2) := by decide +kernel
theorem dX9_play_57 : decode cX9_play 57 = .ok (.ireturn, 1) := by decide +kernel
theorem dX9_play_58 : decode cX9_play 58 = .ok (.aload_n 0, 1) := by decide +kernel
theorem dX9_play_59 : decode cX9_play 59 = .ok (.getfield 29, 3) := by decide +kernel
theorem dX9_play_62 : decode cX9_play 62 = .ok (.aload_n 0, 1) := by decide +kernel
theorem dX9_play_63 : decode cX9_play 63 = .ok (.getfield 19, 3) := by decide +kernel
theorem dX9_play_66 : decode cX9_play 66 = .ok (.invokevirtual 131, 3) := by decide +kernel
theorem dX9_play_69 : decode cX9_play 69 = .ok (.aload_n 0, 1) := by decide +kernel
theorem dX9_play_70 : decode cX9_play 70 = .ok (.getfield 19, 3) := by decide +kernel
theorem dX9_play_73 : decode cX9_play 73 = .ok (.iload_n 2, 1) := by decide +kernel
theorem dX9_play_74 : decode cX9_play 74 = .ok (.invokestatic 164, 3) := by decide +kernel
theorem dX9_play_77 : decode cX9_play 77 = .ok (.aload_n 0, 1) := by decide +kernel
theorem dX9_play_78 : decode cX9_play 78 = .ok (.getfield 19, 3) := by decide +kernel
theorem dX9_play_81 : decode cX9_play 81 = .ok (.getfield 144, 3) := by decide +kernel
theorem dX9_play_84 : decode cX9_play 84 = .ok (.iload_n 2, 1) := by decide +kernel
theorem dX9_play_85 : decode cX9_play 85 = .ok (.invokestatic 167, 3) := by decide +kernel
theorem dX9_play_88 : decode cX9_play 88 = .ok (.iload_n 3, 1) := by decide +kernel
theorem dX9_play_89 : decode cX9_play 89 = .ok (.invokevirtual 134, 3) := by decide +kernel
theorem dX9_play_92 : decode cX9_play 92 = .ok (.aload_n 0, 1) := by decide +kernel
theorem dX9_play_93 : decode cX9_play 93 = .ok (.getfield 19, 3) := by decide +kernel
theorem dX9_play_96 : decode cX9_play 96 = .ok (.getfield 141, 3) := by decide +kernel
theorem dX9_play_99 : decode cX9_play 99 = .ok (.ireturn, 1) := by decide +kernel
set_option maxRecDepth 20000 in
theorem ggX9_undo_X3_restore : GoodIn wsX9_undo wsX3_restore := goodIn_r _ [10, 11, 12, 13, 14, 15, 16, 17, 18, 19, 20, 21, 22, 23, 24, 25, 26, 27, 28, 29, 30, 31, 32, 33, 34, 35, 43, 44, 45, 51, 52, 53, 54, 55, 56, 57, 58, 59] (by decide +kernel) (by decide +kernel)
set_option maxRecDepth 20000 in
theorem gX9_undo_X3_restore : GoodIn wsX9_undo (wsV RX9 173 RX3 yX3_restore wsX3_restore) := goodIn_app (goodIn_of _ (by decide +kernel)) ggX9_undo_X3_restore
theorem dX9_undo_0 : decode cX9_undo 0 = .ok (.aload_n 0, 1) := by decide +kernel
theorem dX9_undo_1 : decode cX9_undo 1 = .ok (.getfield 29, 3) := by decide +kernel
theorem dX9_undo_4 : decode cX9_undo 4 = .ok (.getfield 170, 3) := by decide +kernel
theorem dX9_undo_7 : decode cX9_undo 7 = .ok (.ifCond .ne 6, 3) := by decide +kernel
theorem dX9_undo_10 : decode cX9_undo 10 = .ok (.bipush (-2), 2) := by decide +kernel
theorem dX9_undo_12 : decode cX9_undo 12 = .ok (.ireturn, 1) := by decide +kernel
theorem dX9_undo_13 : decode cX9_undo 13 = .ok (.aload_n 0, 1) := by decide +kernel
theorem dX9_undo_14 : decode cX9_undo 14 = .ok (.getfield 29, 3) := by decide +kernel
theorem dX9_undo_17 : decode cX9_undo 17 = .ok (.aload_n 0, 1) := by decide +kernel
theorem dX9_undo_18 : decode cX9_undo 18 = .ok (.getfield 19, 3) := by decide +kernel
theorem dX9_undo_21 : decode cX9_undo 21 = .ok (.invokevirtual 173, 3) := by decide +kernel
theorem dX9_undo_24 : decode cX9_undo 24 = .ok (.aload_n 0, 1) := by decide +kernel
theorem dX9_undo_25 : decode cX9_undo 25 = .ok (.getfield 38, 3) := by decide +kernel
theorem dX9_undo_28 : decode cX9_undo 28 = .ok (.iconst 1, 1) := by decide +kernel
theorem dX9_undo_29 : decode cX9_undo 29 = .ok (.putfield 176, 3) := by decide +kernel
theorem dX9_undo_32 : decode cX9_undo 32 = .ok (.aload_n 0, 1) := by decide +kernel
theorem dX9_undo_33 : decode cX9_undo 33 = .ok (.getfield 29, 3) := by decide +kernel
theorem dX9_undo_36 : decode cX9_undo 36 = .ok (.getfield 170, 3) := by decide +kernel
theorem dX9_undo_39 : decode cX9_undo 39 = .ok (.ireturn, 1) := by decide +kernel
theorem dX9_ruleCount_0 : decode cX9_ruleCount 0 = .ok (.aload_n 0, 1) := by decide +kernel
theorem dX9_ruleCount_1 : decode cX9_ruleCount 1 = .ok (.getfield 19, 3) := by decide +kernel
theorem dX9_ruleCount_4 : decode cX9_ruleCount 4 = .ok (.getfield 81, 3) := by decide +kernel
theorem dX9_ruleCount_7 : decode cX9_ruleCount 7 = .ok (.ireturn, 1) := by decide +kernel
set_option maxRecDepth 20000 in
theorem ggX9_ruleState_X1_hasRule : GoodIn wsX9_ruleState wsX1_hasRule := goodIn_r _ [7, 8, 20, 21, 22, 23, 24, 25, 26, 27, 28] (by decide +kernel) (by decide +kernel)
set_option maxRecDepth 20000 in
theorem gX9_ruleState_X1_hasRule : GoodIn wsX9_ruleState (wsV RX9 100 RX1 yX1_hasRule wsX1_hasRule) := goodIn_app (goodIn_of _ (by decide +kernel)) ggX9_ruleState_X1_hasRule
set_option maxRecDepth 20000 in
theorem ggX9_ruleState_X5_state : GoodIn wsX9_ruleState wsX5_state := goodIn_r _ [12] (by decide +kernel) (by decide +kernel)
set_option maxRecDepth 20000 in
theorem gX9_ruleState_X5_state : GoodIn wsX9_ruleState (va_wsS RX9 180 yX5_state wsX5_state) := goodIn_app (goodIn_of _ (by decide +kernel)) ggX9_ruleState_X5_state
theorem dX9_ruleState_0 : decode cX9_ruleState 0 = .ok (.aload_n 0, 1) := by decide +kernel
theorem dX9_ruleState_1 : decode cX9_ruleState 1 = .ok (.getfield 19, 3) := by decide +kernel
theorem dX9_ruleState_4 : decode cX9_ruleState 4 = .ok (.iload_n 1, 1) := by decide +kernel
theorem dX9_ruleState_5 : decode cX9_ruleState 5 = .ok (.invokevirtual 100, 3) := by decide +kernel
theorem dX9_ruleState_8 : decode cX9_ruleState 8 = .ok (.ifCond .eq 18, 3) := by decide +kernel
theorem dX9_ruleState_11 : decode cX9_ruleState 11 = .ok (.aload_n 0, 1) := by decide +kernel
theorem dX9_ruleState_12 : decode cX9_ruleState 12 = .ok (.getfield 19, 3) := by decide +kernel
theorem dX9_ruleState_15 : decode cX9_ruleState 15 = .ok (.getfield 154, 3) := by decide +kernel
theorem dX9_ruleState_18 : decode cX9_ruleState 18 = .ok (.iload_n 1, 1) := by decide +kernel
theorem dX9_ruleState_19 : decode cX9_ruleState 19 = .ok (.iaload, 1) := by decide +kernel
theorem dX9_ruleState_20 : decode cX9_ruleState 20 = .ok (.invokestatic 180, 3) := by decide +kernel
theorem dX9_ruleState_23 : decode cX9_ruleState 23 = .ok (.goto 4, 3) := by decide +kernel
theorem dX9_ruleState_26 : decode cX9_ruleState 26 = .ok (.iconst (-1), 1) := by decide +kernel
theorem dX9_ruleState_27 : decode cX9_ruleState 27 = .ok (.ireturn, 1) := by decide +kernel
set_option maxRecDepth 20000 in
theorem ggX9_ruleTop_X1_hasRule : GoodIn wsX9_ruleTop wsX1_hasRule := goodIn_r _ [7, 8, 20, 21, 22, 23, 24, 25, 26, 27, 28] (by decide +kernel) (by decide +kernel)
set_option maxRecDepth 20000 in
theorem gX9_ruleTop_X1_hasRule : GoodIn wsX9_ruleTop (wsV RX9 100 RX1 yX1_hasRule wsX1_hasRule) := goodIn_app (goodIn_of _ (by decide +kernel)) ggX9_ruleTop_X1_hasRule
set_option maxRecDepth 20000 in
theorem ggX9_ruleTop_X5_top : GoodIn wsX9_ruleTop wsX5_top := goodIn_r _ [12] (by decide +kernel) (by decide +kernel)
set_option maxRecDepth 20000 in
theorem gX9_ruleTop_X5_top : GoodIn wsX9_ruleTop (va_wsS RX9 182 yX5_top wsX5_top) := goodIn_app (goodIn_of _ (by decide +kernel)) ggX9_ruleTop_X5_top
theorem dX9_ruleTop_0 : decode cX9_ruleTop 0 = .ok (.aload_n 0, 1) := by decide +kernel
theorem dX9_ruleTop_1 : decode cX9_ruleTop 1 = .ok (.getfield 19, 3) := by decide +kernel
theorem dX9_ruleTop_4 : decode cX9_ruleTop 4 = .ok (.iload_n 1, 1) := by decide +kernel
theorem dX9_ruleTop_5 : decode cX9_ruleTop 5 = .ok (.invokevirtual 100, 3) := by decide +kernel
theorem dX9_ruleTop_8 : decode cX9_ruleTop 8 = .ok (.ifCond .eq 18, 3) := by decide +kernel
theorem dX9_ruleTop_11 : decode cX9_ruleTop 11 = .ok (.aload_n 0, 1) := by decide +kernel
theorem dX9_ruleTop_12 : decode cX9_ruleTop 12 = .ok (.getfield 19, 3) := by decide +kernel
theorem dX9_ruleTop_15 : decode cX9_ruleTop 15 = .ok (.getfield 154, 3) := by decide +kernel
theorem dX9_ruleTop_18 : decode cX9_ruleTop 18 = .ok (.iload_n 1, 1) := by decide +kernel
theorem dX9_ruleTop_19 : decode cX9_ruleTop 19 = .ok (.iaload, 1) := by decide +kernel
theorem dX9_ruleTop_20 : decode cX9_ruleTop 20 = .ok (.invokestatic 182, 3) := by decide +kernel
theorem dX9_ruleTop_23 : decode cX9_ruleTop 23 = .ok (.goto 4, 3) := by decide +kernel
theorem dX9_ruleTop_26 : decode cX9_ruleTop 26 = .ok (.iconst (-1), 1) := by decide +kernel
theorem dX9_ruleTop_27 : decode cX9_ruleTop 27 = .ok (.ireturn, 1) := by decide +kernel
set_option maxRecDepth 20000 in
theorem ggX9_ruleNext_X1_hasRule : GoodIn wsX9_ruleNext wsX1_hasRule := goodIn_r _ [7, 8, 20, 21, 22, 23, 24, 25, 26, 27, 28] (by decide +kernel) (by decide +kernel)
set_option maxRecDepth 20000 in
theorem gX9_ruleNext_X1_hasRule : GoodIn wsX9_ruleNext (wsV RX9 100 RX1 yX1_hasRule wsX1_hasRule) := goodIn_app (goodIn_of _ (by decide +kernel)) ggX9_ruleNext_X1_hasRule
set_option maxRecDepth 20000 in
theorem ggX9_ruleNext_X5_next : GoodIn wsX9_ruleNext wsX5_next := goodIn_r _ [12] (by decide +kernel) (by decide +kernel)
set_option maxRecDepth 20000 in
theorem gX9_ruleNext_X5_next : GoodIn wsX9_ruleNext (va_wsS RX9 164 yX5_next wsX5_next) := goodIn_app (goodIn_of _ (by decide +kernel)) ggX9_ruleNext_X5_next
theorem dX9_ruleNext_0 : decode cX9_ruleNext 0 = .ok (.aload_n 0, 1) := by decide +kernel
theorem dX9_ruleNext_1 : decode cX9_ruleNext 1 = .ok (.getfield 19, 3) := by decide +kernel
theorem dX9_ruleNext_4 : decode cX9_ruleNext 4 = .ok (.iload_n 1, 1) := by decide +kernel
theorem dX9_ruleNext_5 : decode cX9_ruleNext 5 = .ok (.invokevirtual 100, 3) := by decide +kernel
theorem dX9_ruleNext_8 : decode cX9_ruleNext 8 = .ok (.ifCond .eq 18, 3) := by decide +kernel
theorem dX9_ruleNext_11 : decode cX9_ruleNext 11 = .ok (.aload_n 0, 1) := by decide +kernel
theorem dX9_ruleNext_12 : decode cX9_ruleNext 12 = .ok (.getfield 19, 3) := by decide +kernel
theorem dX9_ruleNext_15 : decode cX9_ruleNext 15 = .ok (.getfield 154, 3) := by decide +kernel
theorem dX9_ruleNext_18 : decode cX9_ruleNext 18 = .ok (.iload_n 1, 1) := by decide +kernel
theorem dX9_ruleNext_19 : decode cX9_ruleNext 19 = .ok (.iaload, 1) := by decide +kernel
theorem dX9_ruleNext_20 : decode cX9_ruleNext 20 = .ok (.invokestatic 164, 3) := by decide +kernel
theorem dX9_ruleNext_23 : decode cX9_ruleNext 23 = .ok (.goto 4, 3) := by decide +kernel
theorem dX9_ruleNext_26 : decode cX9_ruleNext 26 = .ok (.iconst (-1), 1) := by decide +kernel
theorem dX9_ruleNext_27 : decode cX9_ruleNext 27 = .ok (.ireturn, 1) := by decide +kernel
set_option maxRecDepth 20000 in
theorem ggX9_ruleSymbol_X1_hasRule : GoodIn wsX9_ruleSymbol wsX1_hasRule := goodIn_r _ [7, 8, 23, 24, 25, 26, 27, 28, 29, 30, 31] (by decide +kernel) (by decide +kernel)
set_option maxRecDepth 20000 in
theorem gX9_ruleSymbol_X1_hasRule : GoodIn wsX9_ruleSymbol (wsV RX9 100 RX1 yX1_hasRule wsX1_hasRule) := goodIn_app (goodIn_of _ (by decide +kernel)) ggX9_ruleSymbol_X1_hasRule
set_option maxRecDepth 20000 in
theorem ggX9_ruleSymbol_X5_upper : GoodIn wsX9_ruleSymbol wsX5_upper := goodIn_r _ [12] (by decide +kernel) (by decide +kernel)
set_option maxRecDepth 20000 in
theorem gX9_ruleSymbol_X5_upper : GoodIn wsX9_ruleSymbol (va_wsS RX9 185 yX5_upper wsX5_upper) := goodIn_app (goodIn_of _ (by decide +kernel)) ggX9_ruleSymbol_X5_upper
set_option maxRecDepth 20000 in
theorem ggX9_ruleSymbol_X5_lower : GoodIn wsX9_ruleSymbol wsX5_lower := goodIn_r _ [15] (by decide +kernel) (by decide +kernel)
set_option maxRecDepth 20000 in
theorem gX9_ruleSymbol_X5_lower : GoodIn wsX9_ruleSymbol (va_wsS RX9 188 yX5_lower wsX5_lower) := goodIn_app (goodIn_of _ (by decide +kernel)) ggX9_ruleSymbol_X5_lower
theorem dX9_ruleSymbol_0 : decode cX9_ruleSymbol 0 = .ok (.aload_n 0, 1) := by decide +kernel
theorem dX9_ruleSymbol_1 : decode cX9_ruleSymbol 1 = .ok (.getfield 19, 3) := by decide +kernel
theorem dX9_ruleSymbol_4 : decode cX9_ruleSymbol 4 = .ok (.iload_n 1, 1) := by decide +kernel
theorem dX9_ruleSymbol_5 : decode cX9_ruleSymbol 5 = .ok (.invokevirtual 100, 3) := by decide +kernel
theorem dX9_ruleSymbol_8 : decode cX9_ruleSymbol 8 = .ok (.ifCond .eq 12, 3) := by decide +kernel
theorem dX9_ruleSymbol_11 : decode cX9_ruleSymbol 11 = .ok (.iload_n 2, 1) := by decide +kernel
theorem dX9_ruleSymbol_12 : decode cX9_ruleSymbol 12 = .ok (.ifCond .eq 10, 3) := by decide +kernel
theorem dX9_ruleSymbol_15 : decode cX9_ruleSymbol 15 = .ok (.iload_n 2, 1) := by decide +kernel
theorem dX9_ruleSymbol_16 : decode cX9_ruleSymbol 16 = .ok (.iconst 1, 1) := by decide +kernel
theorem dX9_ruleSymbol_17 : decode cX9_ruleSymbol 17 = .ok (.if_icmp .eq 5, 3) := by decide +kernel
theorem dX9_ruleSymbol_20 : decode cX9_ruleSymbol 20 = .ok (.iconst (-1), 1) := by decide +kernel
theorem dX9_ruleSymbol_21 : decode cX9_ruleSymbol 21 = .ok (.ireturn, 1) := by decide +kernel
theorem dX9_ruleSymbol_22 : decode cX9_ruleSymbol 22 = .ok (.aload_n 0, 1) := by decide +kernel
theorem dX9_ruleSymbol_23 : decode cX9_ruleSymbol 23 = .ok (.getfield 19, 3) := by decide +kernel
theorem dX9_ruleSymbol_26 : decode cX9_ruleSymbol 26 = .ok (.getfield 154, 3) := by decide +kernel
theorem dX9_ruleSymbol_29 : decode cX9_ruleSymbol 29 = .ok (.iload_n 1, 1) := by decide +kernel
theorem dX9_ruleSymbol_30 : decode cX9_ruleSymbol 30 = .ok (.iaload, 1) := by decide +kernel
theorem dX9_ruleSymbol_31 : decode cX9_ruleSymbol 31 = .ok (.istore_n 3, 1) := by decide +kernel
theorem dX9_ruleSymbol_32 : decode cX9_ruleSymbol 32 = .ok (.iload_n 2, 1) := by decide +kernel
theorem dX9_ruleSymbol_33 : decode cX9_ruleSymbol 33 = .ok (.ifCond .ne 10, 3) := by decide +kernel
theorem dX9_ruleSymbol_36 : decode cX9_ruleSymbol 36 = .ok (.iload_n 3, 1) := by decide +kernel
theorem dX9_ruleSymbol_37 : decode cX9_ruleSymbol 37 = .ok (.invokestatic 185, 3) := by decide +kernel
theorem dX9_ruleSymbol_40 : decode cX9_ruleSymbol 40 = .ok (.goto 7, 3) := by decide +kernel
theorem dX9_ruleSymbol_43 : decode cX9_ruleSymbol 43 = .ok (.iload_n 3, 1) := by decide +kernel
theorem dX9_ruleSymbol_44 : decode cX9_ruleSymbol 44 = .ok (.invokestatic 188, 3) := by decide +kernel
theorem dX9_ruleSymbol_47 : decode cX9_ruleSymbol 47 = .ok (.istore 4, 2) := by decide +kernel
theorem dX9_ruleSymbol_49 : decode cX9_ruleSymbol 49 = .ok (.iload 4, 2) := by decide +kernel
theorem dX9_ruleSymbol_51 : decode cX9_ruleSymbol 51 = .ok (.iconst (-1), 1) := by decide +kernel
theorem dX9_ruleSymbol_52 : decode cX9_ruleSymbol 52 = .ok (.if_icmp .ne 8, 3) := by decide +kernel
theorem dX9_ruleSymbol_55 : decode cX9_ruleSymbol 55 = .ok (.bipush (-4), 2) := by decide +kernel
theorem dX9_ruleSymbol_57 : decode cX9_ruleSymbol 57 = .ok (.goto 5, 3) := by decide +kernel
theorem dX9_ruleSymbol_60 : decode cX9_ruleSymbol 60 = .ok (.iload 4, 2) := by decide +kernel
theorem dX9_ruleSymbol_62 : decode cX9_ruleSymbol 62 = .ok (.ireturn, 1) := by decide +kernel
set_option maxRecDepth 20000 in
theorem ggX9_ownerOf_X1_hasState : GoodIn wsX9_ownerOf wsX1_hasState := goodIn_r _ [6, 7, 23, 24, 25, 26, 27, 28, 29, 30, 31] (by decide +kernel) (by decide +kernel)
set_option maxRecDepth 20000 in
theorem gX9_ownerOf_X1_hasState : GoodIn wsX9_ownerOf (wsV RX9 107 RX1 yX1_hasState wsX1_hasState) := goodIn_app (goodIn_of _ (by decide +kernel)) ggX9_ownerOf_X1_hasState
set_option maxRecDepth 20000 in
theorem ggX9_ownerOf_X1_owner : GoodIn wsX9_ownerOf wsX1_owner := goodIn_r _ [11, 12, 13, 14, 15, 23, 24, 25, 26, 27, 28, 29, 30, 31] (by decide +kernel) (by decide +kernel)
set_option maxRecDepth 20000 in
theorem gX9_ownerOf_X1_owner : GoodIn wsX9_ownerOf (wsV RX9 110 RX1 yX1_owner wsX1_owner) := goodIn_app (goodIn_of _ (by decide +kernel)) ggX9_ownerOf_X1_owner
theorem dX9_ownerOf_0 : decode cX9_ownerOf 0 = .ok (.aload_n 0, 1) := by decide +kernel
theorem dX9_ownerOf_1 : decode cX9_ownerOf 1 = .ok (.getfield 19, 3) := by decide +kernel
theorem dX9_ownerOf_4 : decode cX9_ownerOf 4 = .ok (.iload_n 1, 1) := by decide +kernel
theorem dX9_ownerOf_5 : decode cX9_ownerOf 5 = .ok (.invokevirtual 107, 3) := by decide +kernel
theorem dX9_ownerOf_8 : decode cX9_ownerOf 8 = .ok (.ifCond .eq 14, 3) := by decide +kernel
theorem dX9_ownerOf_11 : decode cX9_ownerOf 11 = .ok (.aload_n 0, 1) := by decide +kernel
theorem dX9_ownerOf_12 : decode cX9_ownerOf 12 = .ok (.getfield 19, 3) := by decide +kernel
theorem dX9_ownerOf_15 : decode cX9_ownerOf 15 = .ok (.iload_n 1, 1) := by decide +kernel
theorem dX9_ownerOf_16 : decode cX9_ownerOf 16 = .ok (.invokevirtual 110, 3) := by decide +kernel
theorem dX9_ownerOf_19 : decode cX9_ownerOf 19 = .ok (.goto 4, 3) := by decide +kernel
theorem dX9_ownerOf_22 : decode cX9_ownerOf 22 = .ok (.iconst (-1), 1) := by decide +kernel
theorem dX9_ownerOf_23 : decode cX9_ownerOf 23 = .ok (.ireturn, 1) := by decide +kernel
set_option maxRecDepth 20000 in
theorem ggX9_isTarget_X1_hasState : GoodIn wsX9_isTarget wsX1_hasState := goodIn_r _ [7, 8, 20, 21, 22, 23, 24, 25, 26, 27, 28] (by decide +kernel) (by decide +kernel)
set_option maxRecDepth 20000 in
theorem gX9_isTarget_X1_hasState : GoodIn wsX9_isTarget (wsV RX9 107 RX1 yX1_hasState wsX1_hasState) := goodIn_app (goodIn_of _ (by decide +kernel)) ggX9_isTarget_X1_hasState
set_option maxRecDepth 20000 in
theorem ggX9_isTarget_X9_bit : GoodIn wsX9_isTarget wsX9_bit := goodIn_r _ [12] (by decide +kernel) (by decide +kernel)
set_option maxRecDepth 20000 in
theorem gX9_isTarget_X9_bit : GoodIn wsX9_isTarget (va_wsS RX9 124 yX9_bit wsX9_bit) := goodIn_app (goodIn_of _ (by decide +kernel)) ggX9_isTarget_X9_bit
theorem dX9_isTarget_0 : decode cX9_isTarget 0 = .ok (.aload_n 0, 1) := by decide +kernel
theorem dX9_isTarget_1 : decode cX9_isTarget 1 = .ok (.getfield 19, 3) := by decide +kernel
theorem dX9_isTarget_4 : decode cX9_isTarget 4 = .ok (.iload_n 1, 1) := by decide +kernel
theorem dX9_isTarget_5 : decode cX9_isTarget 5 = .ok (.invokevirtual 107, 3) := by decide +kernel
theorem dX9_isTarget_8 : decode cX9_isTarget 8 = .ok (.ifCond .eq 17, 3) := by decide +kernel
theorem dX9_isTarget_11 : decode cX9_isTarget 11 = .ok (.aload_n 0, 1) := by decide +kernel
theorem dX9_isTarget_12 : decode cX9_isTarget 12 = .ok (.getfield 19, 3) := by decide +kernel
theorem dX9_isTarget_15 : decode cX9_isTarget 15 = .ok (.getfield 121, 3) := by decide +kernel
theorem dX9_isTarget_18 : decode cX9_isTarget 18 = .ok (.iload_n 1, 1) := by decide +kernel
theorem dX9_isTarget_19 : decode cX9_isTarget 19 = .ok (.invokestatic 124, 3) := by decide +kernel
theorem dX9_isTarget_22 : decode cX9_isTarget 22 = .ok (.goto 4, 3) := by decide +kernel
theorem dX9_isTarget_25 : decode cX9_isTarget 25 = .ok (.iconst (-1), 1) := by decide +kernel
theorem dX9_isTarget_26 : decode cX9_isTarget 26 = .ok (.ireturn, 1) := by decide +kernel
theorem dX9_presentState_0 : decode cX9_presentState 0 = .ok (.aload_n 0, 1) := by decide +kernel
theorem dX9_presentState_1 : decode cX9_presentState 1 = .ok (.getfield 19, 3) := by decide +kernel
theorem dX9_presentState_4 : decode cX9_presentState 4 = .ok (.getfield 141, 3) := by decide +kernel
theorem dX9_presentState_7 : decode cX9_presentState 7 = .ok (.ireturn, 1) := by decide +kernel

theorem dX0_init_0 : decode cX0_init 0 = .ok (.aload_n 0, 1) := by decide +kernel
theorem dX0_init_1 : decode cX0_init 1 = .ok (.invokespecial 7, 3) := by decide +kernel
theorem dX0_init_4 : decode cX0_init 4 = .ok (.aload_n 0, 1) := by decide +kernel
theorem dX0_init_5 : decode cX0_init 5 = .ok (.bipush 16, 2) := by decide +kernel
theorem dX0_init_7 : decode cX0_init 7 = .ok (.newarray .int, 2) := by decide +kernel
theorem dX0_init_9 : decode cX0_init 9 = .ok (.putfield 13, 3) := by decide +kernel
theorem dX0_init_12 : decode cX0_init 12 = .ok (.aload_n 0, 1) := by decide +kernel
theorem dX0_init_13 : decode cX0_init 13 = .ok (.bipush 16, 2) := by decide +kernel
theorem dX0_init_15 : decode cX0_init 15 = .ok (.newarray .int, 2) := by decide +kernel
theorem dX0_init_17 : decode cX0_init 17 = .ok (.putfield 17, 3) := by decide +kernel
theorem dX0_init_20 : decode cX0_init 20 = .ok (.aload_n 0, 1) := by decide +kernel
theorem dX0_init_21 : decode cX0_init 21 = .ok (.iconst 1, 1) := by decide +kernel
theorem dX0_init_22 : decode cX0_init 22 = .ok (.putfield 20, 3) := by decide +kernel
theorem dX0_init_25 : decode cX0_init 25 = .ok (.aload_n 0, 1) := by decide +kernel
theorem dX0_init_26 : decode cX0_init 26 = .ok (.aload_n 1, 1) := by decide +kernel
theorem dX0_init_27 : decode cX0_init 27 = .ok (.putfield 24, 3) := by decide +kernel
theorem dX0_init_30 : decode cX0_init 30 = .ok (.return_, 1) := by decide +kernel
set_option maxRecDepth 20000 in
theorem ggX0_begin_X4_of : GoodIn wsX0_begin wsX4_of := goodIn_r _ [12] (by decide +kernel) (by decide +kernel)
set_option maxRecDepth 20000 in
theorem gX0_begin_X4_of : GoodIn wsX0_begin (va_wsS RX0 40 yX4_of wsX4_of) := goodIn_app (goodIn_of _ (by decide +kernel)) ggX0_begin_X4_of
set_option maxRecDepth 20000 in
theorem ggX0_begin_X9_bit : GoodIn wsX0_begin wsX9_bit := goodIn_r _ [15] (by decide +kernel) (by decide +kernel)
set_option maxRecDepth 20000 in
theorem gX0_begin_X9_bit_n47 : GoodIn wsX0_begin (wsX9_bit) := ggX0_begin_X9_bit
theorem dX0_begin_0 : decode cX0_begin 0 = .ok (.aload_n 0, 1) := by decide +kernel
theorem dX0_begin_1 : decode cX0_begin 1 = .ok (.iconst 0, 1) := by decide +kernel
theorem dX0_begin_2 : decode cX0_begin 2 = .ok (.putfield 28, 3) := by decide +kernel
theorem dX0_begin_5 : decode cX0_begin 5 = .ok (.iconst 0, 1) := by decide +kernel
theorem dX0_begin_6 : decode cX0_begin 6 = .ok (.istore_n 1, 1) := by decide +kernel
theorem dX0_begin_7 : decode cX0_begin 7 = .ok (.iload_n 1, 1) := by decide +kernel
theorem dX0_begin_8 : decode cX0_begin 8 = .ok (.bipush 16, 2) := by decide +kernel
theorem dX0_begin_10 : decode cX0_begin 10 = .ok (.if_icmp .ge 23, 3) := by decide +kernel
theorem dX0_begin_13 : decode cX0_begin 13 = .ok (.aload_n 0, 1) := by decide +kernel
theorem dX0_begin_14 : decode cX0_begin 14 = .ok (.getfield 13, 3) := by decide +kernel
theorem dX0_begin_17 : decode cX0_begin 17 = .ok (.iload_n 1, 1) := by decide +kernel
theorem dX0_begin_18 : decode cX0_begin 18 = .ok (.iconst 0, 1) := by decide +kernel
theorem dX0_begin_19 : decode cX0_begin 19 = .ok (.iastore, 1) := by decide +kernel
theorem dX0_begin_20 : decode cX0_begin 20 = .ok (.aload_n 0, 1) := by decide +kernel
theorem dX0_begin_21 : decode cX0_begin 21 = .ok (.getfield 17, 3) := by decide +kernel
theorem dX0_begin_24 : decode cX0_begin 24 = .ok (.iload_n 1, 1) := by decide +kernel
theorem dX0_begin_25 : decode cX0_begin 25 = .ok (.iconst 0, 1) := by decide +kernel
theorem dX0_begin_26 : decode cX0_begin 26 = .ok (.iastore, 1) := by decide +kernel
theorem dX0_begin_27 : decode cX0_begin 27 = .ok (.iinc 1 1, 3) := by decide +kernel
theorem dX0_begin_30 : decode cX0_begin 30 = .ok (.goto (-23), 3) := by decide +kernel
theorem dX0_begin_33 : decode cX0_begin 33 = .ok (.iconst 0, 1) := by decide +kernel
theorem dX0_begin_34 : decode cX0_begin 34 = .ok (.istore_n 1, 1) := by decide +kernel
theorem dX0_begin_35 : decode cX0_begin 35 = .ok (.iload_n 1, 1) := by decide +kernel
theorem dX0_begin_36 : decode cX0_begin 36 = .ok (.aload_n 0, 1) := by decide +kernel
theorem dX0_begin_37 : decode cX0_begin 37 = .ok (.getfield 24, 3) := by decide +kernel
theorem dX0_begin_40 : decode cX0_begin 40 = .ok (.getfield 32, 3) := by decide +kernel
theorem dX0_begin_43 : decode cX0_begin 43 = .ok (.if_icmp .ge 59, 3) := by decide +kernel
theorem dX0_begin_46 : decode cX0_begin 46 = .ok (.iconst 0, 1) := by decide +kernel
theorem dX0_begin_47 : decode cX0_begin 47 = .ok (.istore_n 2, 1) := by decide +kernel
theorem dX0_begin_48 : decode cX0_begin 48 = .ok (.iload_n 2, 1) := by decide +kernel
theorem dX0_begin_49 : decode cX0_begin 49 = .ok (.aload_n 0, 1) := by decide +kernel
theorem dX0_begin_50 : decode cX0_begin 50 = .ok (.getfield 24, 3) := by decide +kernel
theorem dX0_begin_53 : decode cX0_begin 53 = .ok (.getfield 37, 3) := by decide +kernel
theorem dX0_begin_56 : decode cX0_begin 56 = .ok (.if_icmp .ge 40, 3) := by decide +kernel
theorem dX0_begin_59 : decode cX0_begin 59 = .ok (.aload_n 0, 1) := by decide +kernel
theorem dX0_begin_60 : decode cX0_begin 60 = .ok (.getfield 13, 3) := by decide +kernel
theorem dX0_begin_63 : decode cX0_begin 63 = .ok (.iload_n 2, 1) := by decide +kernel
theorem dX0_begin_64 : decode cX0_begin 64 = .ok (.iload_n 1, 1) := by decide +kernel
theorem dX0_begin_65 : decode cX0_begin 65 = .ok (.invokestatic 40, 3) := by decide +kernel
theorem dX0_begin_68 : decode cX0_begin 68 = .ok (.aload_n 0, 1) := by decide +kernel
theorem dX0_begin_69 : decode cX0_begin 69 = .ok (.getfield 24, 3) := by decide +kernel
theorem dX0_begin_72 : decode cX0_begin 72 = .ok (.getfield 44, 3) := by decide +kernel
theorem dX0_begin_75 : decode cX0_begin 75 = .ok (.iload_n 2, 1) := by decide +kernel
theorem dX0_begin_76 : decode cX0_begin 76 = .ok (.invokestatic 47, 3) := by decide +kernel
theorem dX0_begin_79 : decode cX0_begin 79 = .ok (.iconst 1, 1) := by decide +kernel
theorem dX0_begin_80 : decode cX0_begin 80 = .ok (.if_icmp .ne 8, 3) := by decide +kernel
theorem dX0_begin_83 : decode cX0_begin 83 = .ok (.ldc 50, 2) := by decide +kernel
theorem dX0_begin_85 : decode cX0_begin 85 = .ok (.goto 4, 3) := by decide +kernel
theorem dX0_begin_88 : decode cX0_begin 88 = .ok (.iconst 0, 1) := by decide +kernel
theorem dX0_begin_89 : decode cX0_begin 89 = .ok (.iastore, 1) := by decide +kernel
theorem dX0_begin_90 : decode cX0_begin 90 = .ok (.iinc 2 1, 3) := by decide +kernel
theorem dX0_begin_93 : decode cX0_begin 93 = .ok (.goto (-45), 3) := by decide +kernel
theorem dX0_begin_96 : decode cX0_begin 96 = .ok (.iinc 1 1, 3) := by decide +kernel
theorem dX0_begin_99 : decode cX0_begin 99 = .ok (.goto (-64), 3) := by decide +kernel
theorem dX0_begin_102 : decode cX0_begin 102 = .ok (.return_, 1) := by decide +kernel
set_option maxRecDepth 20000 in
theorem ggX0_saturate_X0_begin : GoodIn wsX0_saturate wsX0_begin := goodIn_r _ [6, 7, 8, 9, 10, 11, 12, 13, 14, 15, 16, 17, 18, 19, 20, 21, 64, 65, 66, 67, 68, 69, 70, 71, 72, 73, 74, 75, 76, 77] (by decide +kernel) (by decide +kernel)
set_option maxRecDepth 20000 in
theorem gX0_saturate_X0_begin : GoodIn wsX0_saturate (wsV RX0 51 RX0 yX0_begin wsX0_begin) := goodIn_app (goodIn_of _ (by decide +kernel)) ggX0_saturate_X0_begin
set_option maxRecDepth 20000 in
theorem ggX0_saturate_X0_advance : GoodIn wsX0_saturate wsX0_advance := goodIn_r _ [25, 10, 11, 12, 9, 8, 26, 27, 28, 29, 7, 15, 16, 17, 18, 30, 31, 32, 5, 33, 13, 14, 34, 35, 19, 20, 21, 36, 37, 38, 39, 40, 41, 42, 43, 44, 45, 46, 47, 48, 49, 50, 51, 52, 53, 54, 55, 56, 57, 58, 59, 60, 61, 62, 63, 64, 65, 66, 67, 68, 69, 70, 71, 72, 73, 74, 75, 76, 77] (by decide +kernel) (by decide +kernel)
set_option maxRecDepth 20000 in
theorem gX0_saturate_X0_advance : GoodIn wsX0_saturate (wsV RX0 54 RX0 yX0_advance wsX0_advance) := goodIn_app (goodIn_of _ (by decide +kernel)) ggX0_saturate_X0_advance
theorem dX0_saturate_0 : decode cX0_saturate 0 = .ok (.aload_n 0, 1) := by decide +kernel
theorem dX0_saturate_1 : decode cX0_saturate 1 = .ok (.getfield 20, 3) := by decide +kernel
theorem dX0_saturate_4 : decode cX0_saturate 4 = .ok (.ifCond .eq 38, 3) := by decide +kernel
theorem dX0_saturate_7 : decode cX0_saturate 7 = .ok (.aload_n 0, 1) := by decide +kernel
theorem dX0_saturate_8 : decode cX0_saturate 8 = .ok (.invokevirtual 51, 3) := by decide +kernel
theorem dX0_saturate_11 : decode cX0_saturate 11 = .ok (.iconst 1, 1) := by decide +kernel
theorem dX0_saturate_12 : decode cX0_saturate 12 = .ok (.istore_n 1, 1) := by decide +kernel
theorem dX0_saturate_13 : decode cX0_saturate 13 = .ok (.iconst 0, 1) := by decide +kernel
theorem dX0_saturate_14 : decode cX0_saturate 14 = .ok (.istore_n 2, 1) := by decide +kernel
theorem dX0_saturate_15 : decode cX0_saturate 15 = .ok (.iload_n 2, 1) := by decide +kernel
theorem dX0_saturate_16 : decode cX0_saturate 16 = .ok (.sipush 256, 3) := by decide +kernel
theorem dX0_saturate_19 : decode cX0_saturate 19 = .ok (.if_icmp .ge 18, 3) := by decide +kernel
theorem dX0_saturate_22 : decode cX0_saturate 22 = .ok (.iload_n 1, 1) := by decide +kernel
theorem dX0_saturate_23 : decode cX0_saturate 23 = .ok (.ifCond .eq 14, 3) := by decide +kernel
theorem dX0_saturate_26 : decode cX0_saturate 26 = .ok (.aload_n 0, 1) := by decide +kernel
theorem dX0_saturate_27 : decode cX0_saturate 27 = .ok (.invokevirtual 54, 3) := by decide +kernel
theorem dX0_saturate_30 : decode cX0_saturate 30 = .ok (.istore_n 1, 1) := by decide +kernel
theorem dX0_saturate_31 : decode cX0_saturate 31 = .ok (.iinc 2 1, 3) := by decide +kernel
theorem dX0_saturate_34 : decode cX0_saturate 34 = .ok (.goto (-19), 3) := by decide +kernel
theorem dX0_saturate_37 : decode cX0_saturate 37 = .ok (.aload_n 0, 1) := by decide +kernel
theorem dX0_saturate_38 : decode cX0_saturate 38 = .ok (.iconst 0, 1) := by decide +kernel
theorem dX0_saturate_39 : decode cX0_saturate 39 = .ok (.putfield 20, 3) := by decide +kernel
theorem dX0_saturate_42 : decode cX0_saturate 42 = .ok (.return_, 1) := by decide +kernel
set_option maxRecDepth 20000 in
theorem ggX0_advance_X4_of : GoodIn wsX0_advance wsX4_of := goodIn_r _ [14] (by decide +kernel) (by decide +kernel)
set_option maxRecDepth 20000 in
theorem gX0_advance_X4_of : GoodIn wsX0_advance (va_wsS RX0 40 yX4_of wsX4_of) := goodIn_app (goodIn_of _ (by decide +kernel)) ggX0_advance_X4_of
set_option maxRecDepth 20000 in
theorem ggX0_advance_X0_familyInNextRound : GoodIn wsX0_advance wsX0_familyInNextRound := goodIn_r _ [19, 1, 20, 21, 22, 23, 24, 25, 26, 27, 28, 29, 30, 31, 32, 33, 18, 34, 35, 5, 36, 37, 38, 39, 40, 41, 11, 12, 13, 14, 42, 43, 44, 45, 46, 47, 48, 49, 50, 51, 52, 53, 54, 55, 56, 57, 58, 59, 60, 61, 62, 63, 64, 65, 66, 67, 68] (by decide +kernel) (by decide +kernel)
set_option maxRecDepth 20000 in
theorem gX0_advance_X0_familyInNextRound : GoodIn wsX0_advance (wsV RX0 58 RX0 yX0_familyInNextRound wsX0_familyInNextRound) := goodIn_app (goodIn_of _ (by decide +kernel)) ggX0_advance_X0_familyInNextRound
theorem dX0_advance_0 : decode cX0_advance 0 = .ok (.iconst 0, 1) := by decide +kernel
theorem dX0_advance_1 : decode cX0_advance 1 = .ok (.istore_n 1, 1) := by decide +kernel
theorem dX0_advance_2 : decode cX0_advance 2 = .ok (.iconst 0, 1) := by decide +kernel
theorem dX0_advance_3 : decode cX0_advance 3 = .ok (.istore_n 2, 1) := by decide +kernel
theorem dX0_advance_4 : decode cX0_advance 4 = .ok (.iload_n 2, 1) := by decide +kernel
theorem dX0_advance_5 : decode cX0_advance 5 = .ok (.aload_n 0, 1) := by decide +kernel
theorem dX0_advance_6 : decode cX0_advance 6 = .ok (.getfield 24, 3) := by decide +kernel
theorem dX0_advance_9 : decode cX0_advance 9 = .ok (.getfield 32, 3) := by decide +kernel
theorem dX0_advance_12 : decode cX0_advance 12 = .ok (.if_icmp .ge 76, 3) := by decide +kernel
theorem dX0_advance_15 : decode cX0_advance 15 = .ok (.iconst 0, 1) := by decide +kernel
theorem dX0_advance_16 : decode cX0_advance 16 = .ok (.istore_n 3, 1) := by decide +kernel
theorem dX0_advance_17 : decode cX0_advance 17 = .ok (.iload_n 3, 1) := by decide +kernel
theorem dX0_advance_18 : decode cX0_advance 18 = .ok (.aload_n 0, 1) := by decide +kernel
theorem dX0_advance_19 : decode cX0_advance 19 = .ok (.getfield 24, 3) := by decide +kernel
theorem dX0_advance_22 : decode cX0_advance 22 = .ok (.getfield 37, 3) := by decide +kernel
theorem dX0_advance_25 : decode cX0_advance 25 = .ok (.if_icmp .ge 57, 3) := by decide +kernel
theorem dX0_advance_28 : decode cX0_advance 28 = .ok (.iload_n 3, 1) := by decide +kernel
theorem dX0_advance_29 : decode cX0_advance 29 = .ok (.iload_n 2, 1) := by decide +kernel
theorem dX0_advance_30 : decode cX0_advance 30 = .ok (.invokestatic 40, 3) := by decide +kernel
theorem dX0_advance_33 : decode cX0_advance 33 = .ok (.istore 4, 2) := by decide +kernel
theorem dX0_advance_35 : decode cX0_advance 35 = .ok (.aload_n 0, 1) := by decide +kernel
theorem dX0_advance_36 : decode cX0_advance 36 = .ok (.getfield 17, 3) := by decide +kernel
theorem dX0_advance_39 : decode cX0_advance 39 = .ok (.iload 4, 2) := by decide +kernel
theorem dX0_advance_41 : decode cX0_advance 41 = .ok (.aload_n 0, 1) := by decide +kernel
theorem dX0_advance_42 : decode cX0_advance 42 = .ok (.iload_n 3, 1) := by decide +kernel
theorem dX0_advance_43 : decode cX0_advance 43 = .ok (.iload 4, 2) := by decide +kernel
theorem dX0_advance_45 : decode cX0_advance 45 = .ok (.invokevirtual 58, 3) := by decide +kernel
theorem dX0_advance_48 : decode cX0_advance 48 = .ok (.iastore, 1) := by decide +kernel
theorem dX0_advance_49 : decode cX0_advance 49 = .ok (.iload_n 1, 1) := by decide +kernel
theorem dX0_advance_50 : decode cX0_advance 50 = .ok (.ifCond .ne 20, 3) := by decide +kernel
theorem dX0_advance_53 : decode cX0_advance 53 = .ok (.aload_n 0, 1) := by decide +kernel
theorem dX0_advance_54 : decode cX0_advance 54 = .ok (.getfield 17, 3) := by decide +kernel
theorem dX0_advance_57 : decode cX0_advance 57 = .ok (.iload 4, 2) := by decide +kernel
theorem dX0_advance_59 : decode cX0_advance 59 = .ok (.iaload, 1) := by decide +kernel
theorem dX0_advance_60 : decode cX0_advance 60 = .ok (.aload_n 0, 1) := by decide +kernel
theorem dX0_advance_61 : decode cX0_advance 61 = .ok (.getfield 13, 3) := by decide +kernel
theorem dX0_advance_64 : decode cX0_advance 64 = .ok (.iload 4, 2) := by decide +kernel
theorem dX0_advance_66 : decode cX0_advance 66 = .ok (.iaload, 1) := by decide +kernel
theorem dX0_advance_67 : decode cX0_advance 67 = .ok (.if_icmp .eq 7, 3) := by decide +kernel
theorem dX0_advance_70 : decode cX0_advance 70 = .ok (.iconst 1, 1) := by decide +kernel
theorem dX0_advance_71 : decode cX0_advance 71 = .ok (.goto 4, 3) := by decide +kernel
theorem dX0_advance_74 : decode cX0_advance 74 = .ok (.iconst 0, 1) := by decide +kernel
theorem dX0_advance_75 : decode cX0_advance 75 = .ok (.istore_n 1, 1) := by decide +kernel
theorem dX0_advance_76 : decode cX0_advance 76 = .ok (.iinc 3 1, 3) := by decide +kernel
theorem dX0_advance_79 : decode cX0_advance 79 = .ok (.goto (-62), 3) := by decide +kernel
theorem dX0_advance_82 : decode cX0_advance 82 = .ok (.iinc 2 1, 3) := by decide +kernel
theorem dX0_advance_85 : decode cX0_advance 85 = .ok (.goto (-81), 3) := by decide +kernel
theorem dX0_advance_88 : decode cX0_advance 88 = .ok (.iload_n 1, 1) := by decide +kernel
theorem dX0_advance_89 : decode cX0_advance 89 = .ok (.ifCond .eq 28, 3) := by decide +kernel
theorem dX0_advance_92 : decode cX0_advance 92 = .ok (.aload_n 0, 1) := by decide +kernel
theorem dX0_advance_93 : decode cX0_advance 93 = .ok (.getfield 17, 3) := by decide +kernel
theorem dX0_advance_96 : decode cX0_advance 96 = .ok (.iconst 0, 1) := by decide +kernel
theorem dX0_advance_97 : decode cX0_advance 97 = .ok (.aload_n 0, 1) := by decide +kernel
theorem dX0_advance_98 : decode cX0_advance 98 = .ok (.getfield 13, 3) := by decide +kernel
theorem dX0_advance_101 : decode cX0_advance 101 = .ok (.iconst 0, 1) := by decide +kernel
theorem dX0_advance_102 : decode cX0_advance 102 = .ok (.bipush 16, 2) := by decide +kernel
theorem dX0_advance_104 : decode cX0_advance 104 = .ok (.invokestatic 61, 3) := by decide +kernel
theorem dX0_advance_107 : decode cX0_advance 107 = .ok (.aload_n 0, 1) := by decide +kernel
theorem dX0_advance_108 : decode cX0_advance 108 = .ok (.dup, 1) := by decide +kernel
theorem dX0_advance_109 : decode cX0_advance 109 = .ok (.getfield 28, 3) := by decide +kernel
theorem dX0_advance_112 : decode cX0_advance 112 = .ok (.iconst 1, 1) := by decide +kernel
theorem dX0_advance_113 : decode cX0_advance 113 = .ok (.iadd, 1) := by decide +kernel
theorem dX0_advance_114 : decode cX0_advance 114 = .ok (.putfield 28, 3) := by decide +kernel
theorem dX0_advance_117 : decode cX0_advance 117 = .ok (.iload_n 1, 1) := by decide +kernel
theorem dX0_advance_118 : decode cX0_advance 118 = .ok (.ireturn, 1) := by decide +kernel
set_option maxRecDepth 20000 in
theorem ggX0_familyInNextRound_X9_bit : GoodIn wsX0_familyInNextRound wsX9_bit := goodIn_r _ [8] (by decide +kernel) (by decide +kernel)
set_option maxRecDepth 20000 in
theorem gX0_familyInNextRound_X9_bit_n47 : GoodIn wsX0_familyInNextRound (wsX9_bit) := ggX0_familyInNextRound_X9_bit
set_option maxRecDepth 20000 in
theorem ggX0_familyInNextRound_X5_fitsPair : GoodIn wsX0_familyInNextRound wsX5_fitsPair := goodIn_r _ [12] (by decide +kernel) (by decide +kernel)
set_option maxRecDepth 20000 in
theorem gX0_familyInNextRound_X5_fitsPair : GoodIn wsX0_familyInNextRound (va_wsS RX0 73 yX5_fitsPair wsX5_fitsPair) := goodIn_app (goodIn_of _ (by decide +kernel)) ggX0_familyInNextRound_X5_fitsPair
set_option maxRecDepth 20000 in
theorem ggX0_familyInNextRound_X0_yieldedBy : GoodIn wsX0_familyInNextRound wsX0_yieldedBy := goodIn_r _ [17, 1, 2, 3, 18, 19, 20, 21, 11, 22, 6, 7, 8, 23, 24, 25, 26, 27, 28, 29, 30, 31, 32, 33, 34, 35, 16, 36, 43, 44, 45, 46, 47, 48, 49, 50, 51, 52, 53, 54, 55, 56] (by decide +kernel) (by decide +kernel)
set_option maxRecDepth 20000 in
theorem gX0_familyInNextRound_X0_yieldedBy : GoodIn wsX0_familyInNextRound (wsV RX0 79 RX0 yX0_yieldedBy wsX0_yieldedBy) := goodIn_app (goodIn_of _ (by decide +kernel)) ggX0_familyInNextRound_X0_yieldedBy
set_option maxRecDepth 20000 in
theorem ggX0_familyInNextRound_X1_owner : GoodIn wsX0_familyInNextRound wsX1_owner := goodIn_r _ [41, 42, 6, 7, 8, 48, 49, 50, 51, 52, 53, 54, 55, 56] (by decide +kernel) (by decide +kernel)
set_option maxRecDepth 20000 in
theorem gX0_familyInNextRound_X1_owner : GoodIn wsX0_familyInNextRound (wsV RX0 83 RX1 yX1_owner wsX1_owner) := goodIn_app (goodIn_of _ (by decide +kernel)) ggX0_familyInNextRound_X1_owner
theorem dX0_familyInNextRound_0 : decode cX0_familyInNextRound 0 = .ok (.aload_n 0, 1) := by decide +kernel
theorem dX0_familyInNextRound_1 : decode cX0_familyInNextRound 1 = .ok (.getfield 24, 3) := by decide +kernel
theorem dX0_familyInNextRound_4 : decode cX0_familyInNextRound 4 = .ok (.getfield 44, 3) := by decide +kernel
theorem dX0_familyInNextRound_7 : decode cX0_familyInNextRound 7 = .ok (.iload_n 1, 1) := by decide +kernel
theorem dX0_familyInNextRound_8 : decode cX0_familyInNextRound 8 = .ok (.invokestatic 47, 3) := by decide +kernel
theorem dX0_familyInNextRound_11 : decode cX0_familyInNextRound 11 = .ok (.iconst 1, 1) := by decide +kernel
theorem dX0_familyInNextRound_12 : decode cX0_familyInNextRound 12 = .ok (.if_icmp .ne 6, 3) := by decide +kernel
theorem dX0_familyInNextRound_15 : decode cX0_familyInNextRound 15 = .ok (.ldc 50, 2) := by decide +kernel
theorem dX0_familyInNextRound_17 : decode cX0_familyInNextRound 17 = .ok (.ireturn, 1) := by decide +kernel
theorem dX0_familyInNextRound_18 : decode cX0_familyInNextRound 18 = .ok (.iconst 0, 1) := by decide +kernel
theorem dX0_familyInNextRound_19 : decode cX0_familyInNextRound 19 = .ok (.istore_n 3, 1) := by decide +kernel
theorem dX0_familyInNextRound_20 : decode cX0_familyInNextRound 20 = .ok (.iconst 0, 1) := by decide +kernel
theorem dX0_familyInNextRound_21 : decode cX0_familyInNextRound 21 = .ok (.istore 4, 2) := by decide +kernel
theorem dX0_familyInNextRound_23 : decode cX0_familyInNextRound 23 = .ok (.ldc 50, 2) := by decide +kernel
theorem dX0_familyInNextRound_25 : decode cX0_familyInNextRound 25 = .ok (.istore 5, 2) := by decide +kernel
theorem dX0_familyInNextRound_27 : decode cX0_familyInNextRound 27 = .ok (.iconst 0, 1) := by decide +kernel
theorem dX0_familyInNextRound_28 : decode cX0_familyInNextRound 28 = .ok (.istore 6, 2) := by decide +kernel
theorem dX0_familyInNextRound_30 : decode cX0_familyInNextRound 30 = .ok (.iload 6, 2) := by decide +kernel
theorem dX0_familyInNextRound_32 : decode cX0_familyInNextRound 32 = .ok (.aload_n 0, 1) := by decide +kernel
theorem dX0_familyInNextRound_33 : decode cX0_familyInNextRound 33 = .ok (.getfield 24, 3) := by decide +kernel
theorem dX0_familyInNextRound_36 : decode cX0_familyInNextRound 36 = .ok (.getfield 67, 3) := by decide +kernel
theorem dX0_familyInNextRound_39 : decode cX0_familyInNextRound 39 = .ok (.if_icmp .ge 54, 3) := by decide +kernel
theorem dX0_familyInNextRound_42 : decode cX0_familyInNextRound 42 = .ok (.aload_n 0, 1) := by decide +kernel
theorem dX0_familyInNextRound_43 : decode cX0_familyInNextRound 43 = .ok (.getfield 24, 3) := by decide +kernel
theorem dX0_familyInNextRound_46 : decode cX0_familyInNextRound 46 = .ok (.getfield 70, 3) := by decide +kernel
theorem dX0_familyInNextRound_49 : decode cX0_familyInNextRound 49 = .ok (.iload 6, 2) := by decide +kernel
theorem dX0_familyInNextRound_51 : decode cX0_familyInNextRound 51 = .ok (.iaload, 1) := by decide +kernel
theorem dX0_familyInNextRound_52 : decode cX0_familyInNextRound 52 = .ok (.istore 7, 2) := by decide +kernel
theorem dX0_familyInNextRound_54 : decode cX0_familyInNextRound 54 = .ok (.iload 7, 2) := by decide +kernel
theorem dX0_familyInNextRound_56 : decode cX0_familyInNextRound 56 = .ok (.iload_n 2, 1) := by decide +kernel
theorem dX0_familyInNextRound_57 : decode cX0_familyInNextRound 57 = .ok (.invokestatic 73, 3) := by decide +kernel
theorem dX0_familyInNextRound_60 : decode cX0_familyInNextRound 60 = .ok (.ifCond .eq 27, 3) := by decide +kernel
theorem dX0_familyInNextRound_63 : decode cX0_familyInNextRound 63 = .ok (.aload_n 0, 1) := by decide +kernel
theorem dX0_familyInNextRound_64 : decode cX0_familyInNextRound 64 = .ok (.iload 7, 2) := by decide +kernel
theorem dX0_familyInNextRound_66 : decode cX0_familyInNextRound 66 = .ok (.invokevirtual 79, 3) := by decide +kernel
theorem dX0_familyInNextRound_69 : decode cX0_familyInNextRound 69 = .ok (.istore 8, 2) := by decide +kernel
theorem dX0_familyInNextRound_71 : decode cX0_familyInNextRound 71 = .ok (.iconst 1, 1) := by decide +kernel
theorem dX0_familyInNextRound_72 : decode cX0_familyInNextRound 72 = .ok (.istore_n 3, 1) := by decide +kernel
theorem dX0_familyInNextRound_73 : decode cX0_familyInNextRound 73 = .ok (.iload 4, 2) := by decide +kernel
theorem dX0_familyInNextRound_75 : decode cX0_familyInNextRound 75 = .ok (.iload 8, 2) := by decide +kernel
theorem dX0_familyInNextRound_77 : decode cX0_familyInNextRound 77 = .ok (.ior, 1) := by decide +kernel
theorem dX0_familyInNextRound_78 : decode cX0_familyInNextRound 78 = .ok (.istore 4, 2) := by decide +kernel
theorem dX0_familyInNextRound_80 : decode cX0_familyInNextRound 80 = .ok (.iload 5, 2) := by decide +kernel
theorem dX0_familyInNextRound_82 : decode cX0_familyInNextRound 82 = .ok (.iload 8, 2) := by decide +kernel
theorem dX0_familyInNextRound_84 : decode cX0_familyInNextRound 84 = .ok (.iand, 1) := by decide +kernel
theorem dX0_familyInNextRound_85 : decode cX0_familyInNextRound 85 = .ok (.istore 5, 2) := by decide +kernel
theorem dX0_familyInNextRound_87 : decode cX0_familyInNextRound 87 = .ok (.iinc 6 1, 3) := by decide +kernel
theorem dX0_familyInNextRound_90 : decode cX0_familyInNextRound 90 = .ok (.goto (-60), 3) := by decide +kernel
theorem dX0_familyInNextRound_93 : decode cX0_familyInNextRound 93 = .ok (.aload_n 0, 1) := by decide +kernel
theorem dX0_familyInNextRound_94 : decode cX0_familyInNextRound 94 = .ok (.getfield 24, 3) := by decide +kernel
theorem dX0_familyInNextRound_97 : decode cX0_familyInNextRound 97 = .ok (.iload_n 1, 1) := by decide +kernel
theorem dX0_familyInNextRound_98 : decode cX0_familyInNextRound 98 = .ok (.invokevirtual 83, 3) := by decide +kernel
theorem dX0_familyInNextRound_101 : decode cX0_familyInNextRound 101 = .ok (.iconst 1, 1) := by decide +kernel
theorem dX0_familyInNextRound_102 : decode cX0_familyInNextRound 102 = .ok (.if_icmp .ne 14, 3) := by decide +kernel
theorem dX0_familyInNextRound_105 : decode cX0_familyInNextRound 105 = .ok (.iload_n 3, 1) := by decide +kernel
theorem dX0_familyInNextRound_106 : decode cX0_familyInNextRound 106 = .ok (.ifCond .eq 8, 3) := by decide +kernel
theorem dX0_familyInNextRound_109 : decode cX0_familyInNextRound 109 = .ok (.iload 5, 2) := by decide +kernel
theorem dX0_familyInNextRound_111 : decode cX0_familyInNextRound 111 = .ok (.goto 4, 3) := by decide +kernel
theorem dX0_familyInNextRound_114 : decode cX0_familyInNextRound 114 = .ok (.iconst 0, 1) := by decide +kernel
theorem dX0_familyInNextRound_115 : decode cX0_familyInNextRound 115 = .ok (.ireturn, 1) := by decide +kernel
theorem dX0_familyInNextRound_116 : decode cX0_familyInNextRound 116 = .ok (.iload 4, 2) := by decide +kernel
theorem dX0_familyInNextRound_118 : decode cX0_familyInNextRound 118 = .ok (.ireturn, 1) := by decide +kernel
set_option maxRecDepth 20000 in
theorem ggX0_yieldedBy_X5_next : GoodIn wsX0_yieldedBy wsX5_next := goodIn_r _ [9] (by decide +kernel) (by decide +kernel)
set_option maxRecDepth 20000 in
theorem gX0_yieldedBy_X5_next : GoodIn wsX0_yieldedBy (va_wsS RX0 86 yX5_next wsX5_next) := goodIn_app (goodIn_of _ (by decide +kernel)) ggX0_yieldedBy_X5_next
set_option maxRecDepth 20000 in
theorem ggX0_yieldedBy_X9_bit : GoodIn wsX0_yieldedBy wsX9_bit := goodIn_r _ [12] (by decide +kernel) (by decide +kernel)
set_option maxRecDepth 20000 in
theorem gX0_yieldedBy_X9_bit_n47 : GoodIn wsX0_yieldedBy (wsX9_bit) := ggX0_yieldedBy_X9_bit
set_option maxRecDepth 20000 in
theorem ggX0_yieldedBy_X5_upper : GoodIn wsX0_yieldedBy wsX5_upper := goodIn_r _ [15] (by decide +kernel) (by decide +kernel)
set_option maxRecDepth 20000 in
theorem gX0_yieldedBy_X5_upper : GoodIn wsX0_yieldedBy (va_wsS RX0 89 yX5_upper wsX5_upper) := goodIn_app (goodIn_of _ (by decide +kernel)) ggX0_yieldedBy_X5_upper
set_option maxRecDepth 20000 in
theorem ggX0_yieldedBy_X4_of : GoodIn wsX0_yieldedBy wsX4_of := goodIn_r _ [19] (by decide +kernel) (by decide +kernel)
set_option maxRecDepth 20000 in
theorem gX0_yieldedBy_X4_of : GoodIn wsX0_yieldedBy (va_wsS RX0 40 yX4_of wsX4_of) := goodIn_app (goodIn_of _ (by decide +kernel)) ggX0_yieldedBy_X4_of
set_option maxRecDepth 20000 in
theorem ggX0_yieldedBy_X5_lower : GoodIn wsX0_yieldedBy wsX5_lower := goodIn_r _ [22] (by decide +kernel) (by decide +kernel)
set_option maxRecDepth 20000 in
theorem gX0_yieldedBy_X5_lower : GoodIn wsX0_yieldedBy (va_wsS RX0 95 yX5_lower wsX5_lower) := goodIn_app (goodIn_of _ (by decide +kernel)) ggX0_yieldedBy_X5_lower
set_option maxRecDepth 20000 in
theorem ggX0_yieldedBy_X0_commonFamily : GoodIn wsX0_yieldedBy wsX0_commonFamily := goodIn_r _ [27, 3, 5, 10, 11, 12, 16, 17, 18, 19, 28, 29, 30, 31, 32] (by decide +kernel) (by decide +kernel)
set_option maxRecDepth 20000 in
theorem gX0_yieldedBy_X0_commonFamily : GoodIn wsX0_yieldedBy (wsV RX0 98 RX0 yX0_commonFamily wsX0_commonFamily) := goodIn_app (goodIn_of _ (by decide +kernel)) ggX0_yieldedBy_X0_commonFamily
theorem dX0_yieldedBy_0 : decode cX0_yieldedBy 0 = .ok (.iload_n 1, 1) := by decide +kernel
theorem dX0_yieldedBy_1 : decode cX0_yieldedBy 1 = .ok (.invokestatic 86, 3) := by decide +kernel
theorem dX0_yieldedBy_4 : decode cX0_yieldedBy 4 = .ok (.istore_n 2, 1) := by decide +kernel
theorem dX0_yieldedBy_5 : decode cX0_yieldedBy 5 = .ok (.aload_n 0, 1) := by decide +kernel
theorem dX0_yieldedBy_6 : decode cX0_yieldedBy 6 = .ok (.getfield 24, 3) := by decide +kernel
theorem dX0_yieldedBy_9 : decode cX0_yieldedBy 9 = .ok (.getfield 44, 3) := by decide +kernel
theorem dX0_yieldedBy_12 : decode cX0_yieldedBy 12 = .ok (.iload_n 2, 1) := by decide +kernel
theorem dX0_yieldedBy_13 : decode cX0_yieldedBy 13 = .ok (.invokestatic 47, 3) := by decide +kernel
theorem dX0_yieldedBy_16 : decode cX0_yieldedBy 16 = .ok (.iconst 1, 1) := by decide +kernel
theorem dX0_yieldedBy_17 : decode cX0_yieldedBy 17 = .ok (.if_icmp .ne 6, 3) := by decide +kernel
theorem dX0_yieldedBy_20 : decode cX0_yieldedBy 20 = .ok (.ldc 50, 2) := by decide +kernel
theorem dX0_yieldedBy_22 : decode cX0_yieldedBy 22 = .ok (.ireturn, 1) := by decide +kernel
theorem dX0_yieldedBy_23 : decode cX0_yieldedBy 23 = .ok (.iload_n 1, 1) := by decide +kernel
theorem dX0_yieldedBy_24 : decode cX0_yieldedBy 24 = .ok (.invokestatic 89, 3) := by decide +kernel
theorem dX0_yieldedBy_27 : decode cX0_yieldedBy 27 = .ok (.iconst (-1), 1) := by decide +kernel
theorem dX0_yieldedBy_28 : decode cX0_yieldedBy 28 = .ok (.if_icmp .ne 9, 3) := by decide +kernel
theorem dX0_yieldedBy_31 : decode cX0_yieldedBy 31 = .ok (.getstatic 92, 3) := by decide +kernel
theorem dX0_yieldedBy_34 : decode cX0_yieldedBy 34 = .ok (.iload_n 2, 1) := by decide +kernel
theorem dX0_yieldedBy_35 : decode cX0_yieldedBy 35 = .ok (.iaload, 1) := by decide +kernel
theorem dX0_yieldedBy_36 : decode cX0_yieldedBy 36 = .ok (.ireturn, 1) := by decide +kernel
theorem dX0_yieldedBy_37 : decode cX0_yieldedBy 37 = .ok (.aload_n 0, 1) := by decide +kernel
theorem dX0_yieldedBy_38 : decode cX0_yieldedBy 38 = .ok (.getfield 13, 3) := by decide +kernel
theorem dX0_yieldedBy_41 : decode cX0_yieldedBy 41 = .ok (.iload_n 2, 1) := by decide +kernel
theorem dX0_yieldedBy_42 : decode cX0_yieldedBy 42 = .ok (.iload_n 1, 1) := by decide +kernel
theorem dX0_yieldedBy_43 : decode cX0_yieldedBy 43 = .ok (.invokestatic 89, 3) := by decide +kernel
theorem dX0_yieldedBy_46 : decode cX0_yieldedBy 46 = .ok (.invokestatic 40, 3) := by decide +kernel
theorem dX0_yieldedBy_49 : decode cX0_yieldedBy 49 = .ok (.iaload, 1) := by decide +kernel
theorem dX0_yieldedBy_50 : decode cX0_yieldedBy 50 = .ok (.istore_n 3, 1) := by decide +kernel
theorem dX0_yieldedBy_51 : decode cX0_yieldedBy 51 = .ok (.iload_n 1, 1) := by decide +kernel
theorem dX0_yieldedBy_52 : decode cX0_yieldedBy 52 = .ok (.invokestatic 95, 3) := by decide +kernel
theorem dX0_yieldedBy_55 : decode cX0_yieldedBy 55 = .ok (.iconst (-1), 1) := by decide +kernel
theorem dX0_yieldedBy_56 : decode cX0_yieldedBy 56 = .ok (.if_icmp .ne 5, 3) := by decide +kernel
theorem dX0_yieldedBy_59 : decode cX0_yieldedBy 59 = .ok (.iload_n 3, 1) := by decide +kernel
theorem dX0_yieldedBy_60 : decode cX0_yieldedBy 60 = .ok (.ireturn, 1) := by decide +kernel
theorem dX0_yieldedBy_61 : decode cX0_yieldedBy 61 = .ok (.iconst 0, 1) := by decide +kernel
theorem dX0_yieldedBy_62 : decode cX0_yieldedBy 62 = .ok (.istore 4, 2) := by decide +kernel
theorem dX0_yieldedBy_64 : decode cX0_yieldedBy 64 = .ok (.iconst 0, 1) := by decide +kernel
theorem dX0_yieldedBy_65 : decode cX0_yieldedBy 65 = .ok (.istore 5, 2) := by decide +kernel
theorem dX0_yieldedBy_67 : decode cX0_yieldedBy 67 = .ok (.iload 5, 2) := by decide +kernel
theorem dX0_yieldedBy_69 : decode cX0_yieldedBy 69 = .ok (.bipush 16, 2) := by decide +kernel
theorem dX0_yieldedBy_71 : decode cX0_yieldedBy 71 = .ok (.if_icmp .ge 34, 3) := by decide +kernel
theorem dX0_yieldedBy_74 : decode cX0_yieldedBy 74 = .ok (.iload_n 3, 1) := by decide +kernel
theorem dX0_yieldedBy_75 : decode cX0_yieldedBy 75 = .ok (.iload 5, 2) := by decide +kernel
theorem dX0_yieldedBy_77 : decode cX0_yieldedBy 77 = .ok (.invokestatic 47, 3) := by decide +kernel
theorem dX0_yieldedBy_80 : decode cX0_yieldedBy 80 = .ok (.iconst 1, 1) := by decide +kernel
theorem dX0_yieldedBy_81 : decode cX0_yieldedBy 81 = .ok (.if_icmp .ne 18, 3) := by decide +kernel
theorem dX0_yieldedBy_84 : decode cX0_yieldedBy 84 = .ok (.iload 4, 2) := by decide +kernel
theorem dX0_yieldedBy_86 : decode cX0_yieldedBy 86 = .ok (.aload_n 0, 1) := by decide +kernel
theorem dX0_yieldedBy_87 : decode cX0_yieldedBy 87 = .ok (.iload 5, 2) := by decide +kernel
theorem dX0_yieldedBy_89 : decode cX0_yieldedBy 89 = .ok (.iload_n 1, 1) := by decide +kernel
theorem dX0_yieldedBy_90 : decode cX0_yieldedBy 90 = .ok (.invokestatic 95, 3) := by decide +kernel
theorem dX0_yieldedBy_93 : decode cX0_yieldedBy 93 = .ok (.invokevirtual 98, 3) := by decide +kernel
theorem dX0_yieldedBy_96 : decode cX0_yieldedBy 96 = .ok (.ior, 1) := by decide +kernel
theorem dX0_yieldedBy_97 : decode cX0_yieldedBy 97 = .ok (.istore 4, 2) := by decide +kernel
theorem dX0_yieldedBy_99 : decode cX0_yieldedBy 99 = .ok (.iinc 5 1, 3) := by decide +kernel
theorem dX0_yieldedBy_102 : decode cX0_yieldedBy 102 = .ok (.goto (-35), 3) := by decide +kernel
theorem dX0_yieldedBy_105 : decode cX0_yieldedBy 105 = .ok (.iload 4, 2) := by decide +kernel
theorem dX0_yieldedBy_107 : decode cX0_yieldedBy 107 = .ok (.ireturn, 1) := by decide +kernel
set_option maxRecDepth 20000 in
theorem ggX0_commonFamily_X9_bit : GoodIn wsX0_commonFamily wsX9_bit := goodIn_r _ [5] (by decide +kernel) (by decide +kernel)
set_option maxRecDepth 20000 in
theorem gX0_commonFamily_X9_bit_n47 : GoodIn wsX0_commonFamily (wsX9_bit) := ggX0_commonFamily_X9_bit
set_option maxRecDepth 20000 in
theorem ggX0_commonFamily_X4_of : GoodIn wsX0_commonFamily wsX4_of := goodIn_r _ [9] (by decide +kernel) (by decide +kernel)
set_option maxRecDepth 20000 in
theorem gX0_commonFamily_X4_of : GoodIn wsX0_commonFamily (va_wsS RX0 40 yX4_of wsX4_of) := goodIn_app (goodIn_of _ (by decide +kernel)) ggX0_commonFamily_X4_of
theorem dX0_commonFamily_0 : decode cX0_commonFamily 0 = .ok (.ldc 50, 2) := by decide +kernel
theorem dX0_commonFamily_2 : decode cX0_commonFamily 2 = .ok (.istore_n 3, 1) := by decide +kernel
theorem dX0_commonFamily_3 : decode cX0_commonFamily 3 = .ok (.iconst 0, 1) := by decide +kernel
theorem dX0_commonFamily_4 : decode cX0_commonFamily 4 = .ok (.istore 4, 2) := by decide +kernel
theorem dX0_commonFamily_6 : decode cX0_commonFamily 6 = .ok (.iload 4, 2) := by decide +kernel
theorem dX0_commonFamily_8 : decode cX0_commonFamily 8 = .ok (.iconst 4, 1) := by decide +kernel
theorem dX0_commonFamily_9 : decode cX0_commonFamily 9 = .ok (.if_icmp .ge 33, 3) := by decide +kernel
theorem dX0_commonFamily_12 : decode cX0_commonFamily 12 = .ok (.iload_n 1, 1) := by decide +kernel
theorem dX0_commonFamily_13 : decode cX0_commonFamily 13 = .ok (.iload 4, 2) := by decide +kernel
theorem dX0_commonFamily_15 : decode cX0_commonFamily 15 = .ok (.invokestatic 47, 3) := by decide +kernel
theorem dX0_commonFamily_18 : decode cX0_commonFamily 18 = .ok (.iconst 1, 1) := by decide +kernel
theorem dX0_commonFamily_19 : decode cX0_commonFamily 19 = .ok (.if_icmp .ne 17, 3) := by decide +kernel
theorem dX0_commonFamily_22 : decode cX0_commonFamily 22 = .ok (.iload_n 3, 1) := by decide +kernel
theorem dX0_commonFamily_23 : decode cX0_commonFamily 23 = .ok (.aload_n 0, 1) := by decide +kernel
theorem dX0_commonFamily_24 : decode cX0_commonFamily 24 = .ok (.getfield 13, 3) := by decide +kernel
theorem dX0_commonFamily_27 : decode cX0_commonFamily 27 = .ok (.iload 4, 2) := by decide +kernel
theorem dX0_commonFamily_29 : decode cX0_commonFamily 29 = .ok (.iload_n 2, 1) := by decide +kernel
theorem dX0_commonFamily_30 : decode cX0_commonFamily 30 = .ok (.invokestatic 40, 3) := by decide +kernel
theorem dX0_commonFamily_33 : decode cX0_commonFamily 33 = .ok (.iaload, 1) := by decide +kernel
theorem dX0_commonFamily_34 : decode cX0_commonFamily 34 = .ok (.iand, 1) := by decide +kernel
theorem dX0_commonFamily_35 : decode cX0_commonFamily 35 = .ok (.istore_n 3, 1) := by decide +kernel
theorem dX0_commonFamily_36 : decode cX0_commonFamily 36 = .ok (.iinc 4 1, 3) := by decide +kernel
theorem dX0_commonFamily_39 : decode cX0_commonFamily 39 = .ok (.goto (-33), 3) := by decide +kernel
theorem dX0_commonFamily_42 : decode cX0_commonFamily 42 = .ok (.iload_n 3, 1) := by decide +kernel
theorem dX0_commonFamily_43 : decode cX0_commonFamily 43 = .ok (.ireturn, 1) := by decide +kernel
set_option maxRecDepth 20000 in
theorem ggX0_accepts_X7_symbolAt : GoodIn wsX0_accepts wsX7_symbolAt := goodIn_r _ [6] (by decide +kernel) (by decide +kernel)
set_option maxRecDepth 20000 in
theorem gX0_accepts_X7_symbolAt : GoodIn wsX0_accepts (va_wsS RX0 101 yX7_symbolAt wsX7_symbolAt) := goodIn_app (goodIn_of _ (by decide +kernel)) ggX0_accepts_X7_symbolAt
set_option maxRecDepth 20000 in
theorem ggX0_accepts_X0_acceptedAbove : GoodIn wsX0_accepts wsX0_acceptedAbove := goodIn_r _ [11, 1, 2, 12, 13, 14, 15, 16, 17, 18, 19, 20, 21, 22, 23, 24, 25, 26, 27, 28, 29, 30, 31, 32, 33, 34, 35, 36] (by decide +kernel) (by decide +kernel)
set_option maxRecDepth 20000 in
theorem gX0_accepts_X0_acceptedAbove : GoodIn wsX0_accepts (wsV RX0 107 RX0 yX0_acceptedAbove wsX0_acceptedAbove) := goodIn_app (goodIn_of _ (by decide +kernel)) ggX0_accepts_X0_acceptedAbove
set_option maxRecDepth 20000 in
theorem ggX0_accepts_X9_bit : GoodIn wsX0_accepts wsX9_bit := goodIn_r _ [20] (by decide +kernel) (by decide +kernel)
set_option maxRecDepth 20000 in
theorem gX0_accepts_X9_bit_n47 : GoodIn wsX0_accepts (wsX9_bit) := ggX0_accepts_X9_bit
theorem dX0_accepts_0 : decode cX0_accepts 0 = .ok (.aload_n 0, 1) := by decide +kernel
theorem dX0_accepts_1 : decode cX0_accepts 1 = .ok (.getfield 24, 3) := by decide +kernel
theorem dX0_accepts_4 : decode cX0_accepts 4 = .ok (.getfield 44, 3) := by decide +kernel
theorem dX0_accepts_7 : decode cX0_accepts 7 = .ok (.istore 5, 2) := by decide +kernel
theorem dX0_accepts_9 : decode cX0_accepts 9 = .ok (.iload 4, 2) := by decide +kernel
theorem dX0_accepts_11 : decode cX0_accepts 11 = .ok (.iconst 1, 1) := by decide +kernel
theorem dX0_accepts_12 : decode cX0_accepts 12 = .ok (.isub, 1) := by decide +kernel
theorem dX0_accepts_13 : decode cX0_accepts 13 = .ok (.istore 6, 2) := by decide +kernel
theorem dX0_accepts_15 : decode cX0_accepts 15 = .ok (.iload 6, 2) := by decide +kernel
theorem dX0_accepts_17 : decode cX0_accepts 17 = .ok (.ifCond .lt 23, 3) := by decide +kernel
theorem dX0_accepts_20 : decode cX0_accepts 20 = .ok (.aload_n 0, 1) := by decide +kernel
theorem dX0_accepts_21 : decode cX0_accepts 21 = .ok (.iload 5, 2) := by decide +kernel
theorem dX0_accepts_23 : decode cX0_accepts 23 = .ok (.lload_n 2, 1) := by decide +kernel
theorem dX0_accepts_24 : decode cX0_accepts 24 = .ok (.iload 6, 2) := by decide +kernel
theorem dX0_accepts_26 : decode cX0_accepts 26 = .ok (.invokestatic 101, 3) := by decide +kernel
theorem dX0_accepts_29 : decode cX0_accepts 29 = .ok (.invokevirtual 107, 3) := by decide +kernel
theorem dX0_accepts_32 : decode cX0_accepts 32 = .ok (.istore 5, 2) := by decide +kernel
theorem dX0_accepts_34 : decode cX0_accepts 34 = .ok (.iinc 6 (-1), 3) := by decide +kernel
theorem dX0_accepts_37 : decode cX0_accepts 37 = .ok (.goto (-22), 3) := by decide +kernel
theorem dX0_accepts_40 : decode cX0_accepts 40 = .ok (.iload 5, 2) := by decide +kernel
theorem dX0_accepts_42 : decode cX0_accepts 42 = .ok (.iload_n 1, 1) := by decide +kernel
theorem dX0_accepts_43 : decode cX0_accepts 43 = .ok (.invokestatic 47, 3) := by decide +kernel
theorem dX0_accepts_46 : decode cX0_accepts 46 = .ok (.iconst 1, 1) := by decide +kernel
theorem dX0_accepts_47 : decode cX0_accepts 47 = .ok (.if_icmp .ne 7, 3) := by decide +kernel
theorem dX0_accepts_50 : decode cX0_accepts 50 = .ok (.iconst 1, 1) := by decide +kernel
theorem dX0_accepts_51 : decode cX0_accepts 51 = .ok (.goto 4, 3) := by decide +kernel
theorem dX0_accepts_54 : decode cX0_accepts 54 = .ok (.iconst 0, 1) := by decide +kernel
theorem dX0_accepts_55 : decode cX0_accepts 55 = .ok (.ireturn, 1) := by decide +kernel
set_option maxRecDepth 20000 in
theorem ggX0_acceptedAbove_X4_of : GoodIn wsX0_acceptedAbove wsX4_of := goodIn_r _ [8] (by decide +kernel) (by decide +kernel)
set_option maxRecDepth 20000 in
theorem gX0_acceptedAbove_X4_of : GoodIn wsX0_acceptedAbove (va_wsS RX0 40 yX4_of wsX4_of) := goodIn_app (goodIn_of _ (by decide +kernel)) ggX0_acceptedAbove_X4_of
set_option maxRecDepth 20000 in
theorem ggX0_acceptedAbove_X9_bit : GoodIn wsX0_acceptedAbove wsX9_bit := goodIn_r _ [11] (by decide +kernel) (by decide +kernel)
set_option maxRecDepth 20000 in
theorem gX0_acceptedAbove_X9_bit_n47 : GoodIn wsX0_acceptedAbove (wsX9_bit) := ggX0_acceptedAbove_X9_bit
set_option maxRecDepth 20000 in
theorem ggX0_acceptedAbove_X9_withBit : GoodIn wsX0_acceptedAbove wsX9_withBit := goodIn_r _ [13] (by decide +kernel) (by decide +kernel)
set_option maxRecDepth 20000 in
theorem gX0_acceptedAbove_X9_withBit_n110 : GoodIn wsX0_acceptedAbove (wsX9_withBit) := ggX0_acceptedAbove_X9_withBit
theorem dX0_acceptedAbove_0 : decode cX0_acceptedAbove 0 = .ok (.aload_n 0, 1) := by decide +kernel
theorem dX0_acceptedAbove_1 : decode cX0_acceptedAbove 1 = .ok (.getfield 24, 3) := by decide +kernel
theorem dX0_acceptedAbove_4 : decode cX0_acceptedAbove 4 = .ok (.getfield 44, 3) := by decide +kernel
theorem dX0_acceptedAbove_7 : decode cX0_acceptedAbove 7 = .ok (.istore_n 3, 1) := by decide +kernel
theorem dX0_acceptedAbove_8 : decode cX0_acceptedAbove 8 = .ok (.iconst 0, 1) := by decide +kernel
theorem dX0_acceptedAbove_9 : decode cX0_acceptedAbove 9 = .ok (.istore 4, 2) := by decide +kernel
theorem dX0_acceptedAbove_11 : decode cX0_acceptedAbove 11 = .ok (.iload 4, 2) := by decide +kernel
theorem dX0_acceptedAbove_13 : decode cX0_acceptedAbove 13 = .ok (.aload_n 0, 1) := by decide +kernel
theorem dX0_acceptedAbove_14 : decode cX0_acceptedAbove 14 = .ok (.getfield 24, 3) := by decide +kernel
theorem dX0_acceptedAbove_17 : decode cX0_acceptedAbove 17 = .ok (.getfield 37, 3) := by decide +kernel
theorem dX0_acceptedAbove_20 : decode cX0_acceptedAbove 20 = .ok (.if_icmp .ge 36, 3) := by decide +kernel
theorem dX0_acceptedAbove_23 : decode cX0_acceptedAbove 23 = .ok (.aload_n 0, 1) := by decide +kernel
theorem dX0_acceptedAbove_24 : decode cX0_acceptedAbove 24 = .ok (.getfield 13, 3) := by decide +kernel
theorem dX0_acceptedAbove_27 : decode cX0_acceptedAbove 27 = .ok (.iload 4, 2) := by decide +kernel
theorem dX0_acceptedAbove_29 : decode cX0_acceptedAbove 29 = .ok (.iload_n 2, 1) := by decide +kernel
theorem dX0_acceptedAbove_30 : decode cX0_acceptedAbove 30 = .ok (.invokestatic 40, 3) := by decide +kernel
theorem dX0_acceptedAbove_33 : decode cX0_acceptedAbove 33 = .ok (.iaload, 1) := by decide +kernel
theorem dX0_acceptedAbove_34 : decode cX0_acceptedAbove 34 = .ok (.iload_n 1, 1) := by decide +kernel
theorem dX0_acceptedAbove_35 : decode cX0_acceptedAbove 35 = .ok (.invokestatic 47, 3) := by decide +kernel
theorem dX0_acceptedAbove_38 : decode cX0_acceptedAbove 38 = .ok (.iconst 1, 1) := by decide +kernel
theorem dX0_acceptedAbove_39 : decode cX0_acceptedAbove 39 = .ok (.if_icmp .ne 11, 3) := by decide +kernel
theorem dX0_acceptedAbove_42 : decode cX0_acceptedAbove 42 = .ok (.iload_n 3, 1) := by decide +kernel
theorem dX0_acceptedAbove_43 : decode cX0_acceptedAbove 43 = .ok (.iload 4, 2) := by decide +kernel
theorem dX0_acceptedAbove_45 : decode cX0_acceptedAbove 45 = .ok (.iconst 1, 1) := by decide +kernel
theorem dX0_acceptedAbove_46 : decode cX0_acceptedAbove 46 = .ok (.invokestatic 110, 3) := by decide +kernel
theorem dX0_acceptedAbove_49 : decode cX0_acceptedAbove 49 = .ok (.istore_n 3, 1) := by decide +kernel
theorem dX0_acceptedAbove_50 : decode cX0_acceptedAbove 50 = .ok (.iinc 4 1, 3) := by decide +kernel
theorem dX0_acceptedAbove_53 : decode cX0_acceptedAbove 53 = .ok (.goto (-42), 3) := by decide +kernel
theorem dX0_acceptedAbove_56 : decode cX0_acceptedAbove 56 = .ok (.iload_n 3, 1) := by decide +kernel
theorem dX0_acceptedAbove_57 : decode cX0_acceptedAbove 57 = .ok (.ireturn, 1) := by decide +kernel
set_option maxRecDepth 20000 in
theorem ggX0_minimalSets_X4_of : GoodIn wsX0_minimalSets wsX4_of := goodIn_r _ [5] (by decide +kernel) (by decide +kernel)
set_option maxRecDepth 20000 in
theorem gX0_minimalSets_X4_of : GoodIn wsX0_minimalSets (va_wsS RX0 40 yX4_of wsX4_of) := goodIn_app (goodIn_of _ (by decide +kernel)) ggX0_minimalSets_X4_of
set_option maxRecDepth 20000 in
theorem ggX0_minimalSets_X0_isMinimal : GoodIn wsX0_minimalSets wsX0_isMinimal := goodIn_r _ [9, 10, 11, 12, 13, 14] (by decide +kernel) (by decide +kernel)
set_option maxRecDepth 20000 in
theorem gX0_minimalSets_X0_isMinimal : GoodIn wsX0_minimalSets (va_wsS RX0 114 yX0_isMinimal wsX0_isMinimal) := goodIn_app (goodIn_of _ (by decide +kernel)) ggX0_minimalSets_X0_isMinimal
theorem dX0_minimalSets_0 : decode cX0_minimalSets 0 = .ok (.aload_n 0, 1) := by decide +kernel
theorem dX0_minimalSets_1 : decode cX0_minimalSets 1 = .ok (.getfield 13, 3) := by decide +kernel
theorem dX0_minimalSets_4 : decode cX0_minimalSets 4 = .ok (.iload_n 1, 1) := by decide +kernel
theorem dX0_minimalSets_5 : decode cX0_minimalSets 5 = .ok (.iload_n 2, 1) := by decide +kernel
theorem dX0_minimalSets_6 : decode cX0_minimalSets 6 = .ok (.invokestatic 40, 3) := by decide +kernel
theorem dX0_minimalSets_9 : decode cX0_minimalSets 9 = .ok (.iaload, 1) := by decide +kernel
theorem dX0_minimalSets_10 : decode cX0_minimalSets 10 = .ok (.istore_n 3, 1) := by decide +kernel
theorem dX0_minimalSets_11 : decode cX0_minimalSets 11 = .ok (.iconst 0, 1) := by decide +kernel
theorem dX0_minimalSets_12 : decode cX0_minimalSets 12 = .ok (.istore 4, 2) := by decide +kernel
theorem dX0_minimalSets_14 : decode cX0_minimalSets 14 = .ok (.iconst 0, 1) := by decide +kernel
theorem dX0_minimalSets_15 : decode cX0_minimalSets 15 = .ok (.istore 5, 2) := by decide +kernel
theorem dX0_minimalSets_17 : decode cX0_minimalSets 17 = .ok (.iload 5, 2) := by decide +kernel
theorem dX0_minimalSets_19 : decode cX0_minimalSets 19 = .ok (.bipush 16, 2) := by decide +kernel
theorem dX0_minimalSets_21 : decode cX0_minimalSets 21 = .ok (.if_icmp .ge 21, 3) := by decide +kernel
theorem dX0_minimalSets_24 : decode cX0_minimalSets 24 = .ok (.iload_n 3, 1) := by decide +kernel
theorem dX0_minimalSets_25 : decode cX0_minimalSets 25 = .ok (.iload 5, 2) := by decide +kernel
theorem dX0_minimalSets_27 : decode cX0_minimalSets 27 = .ok (.invokestatic 114, 3) := by decide +kernel
theorem dX0_minimalSets_30 : decode cX0_minimalSets 30 = .ok (.ifCond .eq 6, 3) := by decide +kernel
theorem dX0_minimalSets_33 : decode cX0_minimalSets 33 = .ok (.iinc 4 1, 3) := by decide +kernel
theorem dX0_minimalSets_36 : decode cX0_minimalSets 36 = .ok (.iinc 5 1, 3) := by decide +kernel
theorem dX0_minimalSets_39 : decode cX0_minimalSets 39 = .ok (.goto (-22), 3) := by decide +kernel
theorem dX0_minimalSets_42 : decode cX0_minimalSets 42 = .ok (.iload 4, 2) := by decide +kernel
theorem dX0_minimalSets_44 : decode cX0_minimalSets 44 = .ok (.ireturn, 1) := by decide +kernel
set_option maxRecDepth 20000 in
theorem ggX0_minimalSet_X4_of : GoodIn wsX0_minimalSet wsX4_of := goodIn_r _ [5] (by decide +kernel) (by decide +kernel)
set_option maxRecDepth 20000 in
theorem gX0_minimalSet_X4_of : GoodIn wsX0_minimalSet (va_wsS RX0 40 yX4_of wsX4_of) := goodIn_app (goodIn_of _ (by decide +kernel)) ggX0_minimalSet_X4_of
set_option maxRecDepth 20000 in
theorem ggX0_minimalSet_X0_isMinimal : GoodIn wsX0_minimalSet wsX0_isMinimal := goodIn_r _ [9, 10, 11, 12, 13, 14] (by decide +kernel) (by decide +kernel)
set_option maxRecDepth 20000 in
theorem gX0_minimalSet_X0_isMinimal : GoodIn wsX0_minimalSet (va_wsS RX0 114 yX0_isMinimal wsX0_isMinimal) := goodIn_app (goodIn_of _ (by decide +kernel)) ggX0_minimalSet_X0_isMinimal
theorem dX0_minimalSet_0 : decode cX0_minimalSet 0 = .ok (.aload_n 0, 1) := by decide +kernel
theorem dX0_minimalSet_1 : decode cX0_minimalSet 1 = .ok (.getfield 13, 3) := by decide +kernel
theorem dX0_minimalSet_4 : decode cX0_minimalSet 4 = .ok (.iload_n 1, 1) := by decide +kernel
theorem dX0_minimalSet_5 : decode cX0_minimalSet 5 = .ok (.iload_n 2, 1) := by decide +kernel
theorem dX0_minimalSet_6 : decode cX0_minimalSet 6 = .ok (.invokestatic 40, 3) := by decide +kernel
theorem dX0_minimalSet_9 : decode cX0_minimalSet 9 = .ok (.iaload, 1) := by decide +kernel
theorem dX0_minimalSet_10 : decode cX0_minimalSet 10 = .ok (.istore 4, 2) := by decide +kernel
theorem dX0_minimalSet_12 : decode cX0_minimalSet 12 = .ok (.iconst 0, 1) := by decide +kernel
theorem dX0_minimalSet_13 : decode cX0_minimalSet 13 = .ok (.istore 5, 2) := by decide +kernel
theorem dX0_minimalSet_15 : decode cX0_minimalSet 15 = .ok (.iconst 0, 1) := by decide +kernel
theorem dX0_minimalSet_16 : decode cX0_minimalSet 16 = .ok (.istore 6, 2) := by decide +kernel
theorem dX0_minimalSet_18 : decode cX0_minimalSet 18 = .ok (.iload 6, 2) := by decide +kernel
theorem dX0_minimalSet_20 : decode cX0_minimalSet 20 = .ok (.bipush 16, 2) := by decide +kernel
theorem dX0_minimalSet_22 : decode cX0_minimalSet 22 = .ok (.if_icmp .ge 31, 3) := by decide +kernel
theorem dX0_minimalSet_25 : decode cX0_minimalSet 25 = .ok (.iload 4, 2) := by decide +kernel
theorem dX0_minimalSet_27 : decode cX0_minimalSet 27 = .ok (.iload 6, 2) := by decide +kernel
theorem dX0_minimalSet_29 : decode cX0_minimalSet 29 = .ok (.invokestatic 114, 3) := by decide +kernel
theorem dX0_minimalSet_32 : decode cX0_minimalSet 32 = .ok (.ifCond .eq 15, 3) := by decide +kernel
theorem dX0_minimalSet_35 : decode cX0_minimalSet 35 = .ok (.iload 5, 2) := by decide +kernel
theorem dX0_minimalSet_37 : decode cX0_minimalSet 37 = .ok (.iload_n 3, 1) := by decide +kernel
theorem dX0_minimalSet_38 : decode cX0_minimalSet 38 = .ok (.if_icmp .ne 6, 3) := by decide +kernel
theorem dX0_minimalSet_41 : decode cX0_minimalSet 41 = .ok (.iload 6, 2) := by decide +kernel
theorem dX0_minimalSet_43 : decode cX0_minimalSet 43 = .ok (.ireturn, 1) := by decide +kernel
theorem dX0_minimalSet_44 : decode cX0_minimalSet 44 = .ok (.iinc 5 1, 3) := by decide +kernel
theorem dX0_minimalSet_47 : decode cX0_minimalSet 47 = .ok (.iinc 6 1, 3) := by decide +kernel
theorem dX0_minimalSet_50 : decode cX0_minimalSet 50 = .ok (.goto (-32), 3) := by decide +kernel
theorem dX0_minimalSet_53 : decode cX0_minimalSet 53 = .ok (.bipush (-4), 2) := by decide +kernel
theorem dX0_minimalSet_55 : decode cX0_minimalSet 55 = .ok (.ireturn, 1) := by decide +kernel
set_option maxRecDepth 20000 in
theorem ggX0_isMinimal_X9_bit : GoodIn wsX0_isMinimal wsX9_bit := goodIn_r _ [3] (by decide +kernel) (by decide +kernel)
set_option maxRecDepth 20000 in
theorem gX0_isMinimal_X9_bit_n47 : GoodIn wsX0_isMinimal (wsX9_bit) := ggX0_isMinimal_X9_bit
set_option maxRecDepth 20000 in
theorem ggX0_isMinimal_X9_withBit : GoodIn wsX0_isMinimal wsX9_withBit := goodIn_r _ [5] (by decide +kernel) (by decide +kernel)
set_option maxRecDepth 20000 in
theorem gX0_isMinimal_X9_withBit_n110 : GoodIn wsX0_isMinimal (wsX9_withBit) := ggX0_isMinimal_X9_withBit
theorem dX0_isMinimal_0 : decode cX0_isMinimal 0 = .ok (.iload_n 0, 1) := by decide +kernel
theorem dX0_isMinimal_1 : decode cX0_isMinimal 1 = .ok (.iload_n 1, 1) := by decide +kernel
theorem dX0_isMinimal_2 : decode cX0_isMinimal 2 = .ok (.invokestatic 47, 3) := by decide +kernel
theorem dX0_isMinimal_5 : decode cX0_isMinimal 5 = .ok (.ifCond .ne 5, 3) := by decide +kernel
theorem dX0_isMinimal_8 : decode cX0_isMinimal 8 = .ok (.iconst 0, 1) := by decide +kernel
theorem dX0_isMinimal_9 : decode cX0_isMinimal 9 = .ok (.ireturn, 1) := by decide +kernel
theorem dX0_isMinimal_10 : decode cX0_isMinimal 10 = .ok (.iconst 0, 1) := by decide +kernel
theorem dX0_isMinimal_11 : decode cX0_isMinimal 11 = .ok (.istore_n 2, 1) := by decide +kernel
theorem dX0_isMinimal_12 : decode cX0_isMinimal 12 = .ok (.iload_n 2, 1) := by decide +kernel
theorem dX0_isMinimal_13 : decode cX0_isMinimal 13 = .ok (.iconst 4, 1) := by decide +kernel
theorem dX0_isMinimal_14 : decode cX0_isMinimal 14 = .ok (.if_icmp .ge 34, 3) := by decide +kernel
theorem dX0_isMinimal_17 : decode cX0_isMinimal 17 = .ok (.iload_n 1, 1) := by decide +kernel
theorem dX0_isMinimal_18 : decode cX0_isMinimal 18 = .ok (.iload_n 2, 1) := by decide +kernel
theorem dX0_isMinimal_19 : decode cX0_isMinimal 19 = .ok (.invokestatic 47, 3) := by decide +kernel
theorem dX0_isMinimal_22 : decode cX0_isMinimal 22 = .ok (.iconst 1, 1) := by decide +kernel
theorem dX0_isMinimal_23 : decode cX0_isMinimal 23 = .ok (.if_icmp .ne 19, 3) := by decide +kernel
theorem dX0_isMinimal_26 : decode cX0_isMinimal 26 = .ok (.iload_n 0, 1) := by decide +kernel
theorem dX0_isMinimal_27 : decode cX0_isMinimal 27 = .ok (.iload_n 1, 1) := by decide +kernel
theorem dX0_isMinimal_28 : decode cX0_isMinimal 28 = .ok (.iload_n 2, 1) := by decide +kernel
theorem dX0_isMinimal_29 : decode cX0_isMinimal 29 = .ok (.iconst 0, 1) := by decide +kernel
theorem dX0_isMinimal_30 : decode cX0_isMinimal 30 = .ok (.invokestatic 110, 3) := by decide +kernel
theorem dX0_isMinimal_33 : decode cX0_isMinimal 33 = .ok (.invokestatic 47, 3) := by decide +kernel
theorem dX0_isMinimal_36 : decode cX0_isMinimal 36 = .ok (.iconst 1, 1) := by decide +kernel
theorem dX0_isMinimal_37 : decode cX0_isMinimal 37 = .ok (.if_icmp .ne 5, 3) := by decide +kernel
theorem dX0_isMinimal_40 : decode cX0_isMinimal 40 = .ok (.iconst 0, 1) := by decide +kernel
theorem dX0_isMinimal_41 : decode cX0_isMinimal 41 = .ok (.ireturn, 1) := by decide +kernel
theorem dX0_isMinimal_42 : decode cX0_isMinimal 42 = .ok (.iinc 2 1, 3) := by decide +kernel
theorem dX0_isMinimal_45 : decode cX0_isMinimal 45 = .ok (.goto (-33), 3) := by decide +kernel
theorem dX0_isMinimal_48 : decode cX0_isMinimal 48 = .ok (.iconst 1, 1) := by decide +kernel
theorem dX0_isMinimal_49 : decode cX0_isMinimal 49 = .ok (.ireturn, 1) := by decide +kernel
theorem dX1_init_0 : decode cX1_init 0 = .ok (.aload_n 0, 1) := by decide +kernel
theorem dX1_init_1 : decode cX1_init 1 = .ok (.invokespecial 3, 3) := by decide +kernel
theorem dX1_init_4 : decode cX1_init 4 = .ok (.aload_n 0, 1) := by decide +kernel
theorem dX1_init_5 : decode cX1_init 5 = .ok (.bipush 16, 2) := by decide +kernel
theorem dX1_init_7 : decode cX1_init 7 = .ok (.newarray .int, 2) := by decide +kernel
theorem dX1_init_9 : decode cX1_init 9 = .ok (.putfield 11, 3) := by decide +kernel
theorem dX1_init_12 : decode cX1_init 12 = .ok (.return_, 1) := by decide +kernel
set_option maxRecDepth 20000 in
theorem ggX1_start_X1_moveTo : GoodIn wsX1_start wsX1_moveTo := goodIn_r _ [10, 11, 12, 13, 14, 15, 16, 17, 18, 19, 20, 21, 22] (by decide +kernel) (by decide +kernel)
set_option maxRecDepth 20000 in
theorem gX1_start_X1_moveTo : GoodIn wsX1_start (wsV RX1 31 RX1 yX1_moveTo wsX1_moveTo) := goodIn_app (goodIn_of _ (by decide +kernel)) ggX1_start_X1_moveTo
theorem dX1_start_0 : decode cX1_start 0 = .ok (.aload_n 0, 1) := by decide +kernel
theorem dX1_start_1 : decode cX1_start 1 = .ok (.iconst 0, 1) := by decide +kernel
theorem dX1_start_2 : decode cX1_start 2 = .ok (.putfield 15, 3) := by decide +kernel
theorem dX1_start_5 : decode cX1_start 5 = .ok (.aload_n 0, 1) := by decide +kernel
theorem dX1_start_6 : decode cX1_start 6 = .ok (.iconst 0, 1) := by decide +kernel
theorem dX1_start_7 : decode cX1_start 7 = .ok (.putfield 19, 3) := by decide +kernel
theorem dX1_start_10 : decode cX1_start 10 = .ok (.aload_n 0, 1) := by decide +kernel
theorem dX1_start_11 : decode cX1_start 11 = .ok (.iconst 0, 1) := by decide +kernel
theorem dX1_start_12 : decode cX1_start 12 = .ok (.putfield 22, 3) := by decide +kernel
theorem dX1_start_15 : decode cX1_start 15 = .ok (.aload_n 0, 1) := by decide +kernel
theorem dX1_start_16 : decode cX1_start 16 = .ok (.iconst 0, 1) := by decide +kernel
theorem dX1_start_17 : decode cX1_start 17 = .ok (.putfield 25, 3) := by decide +kernel
theorem dX1_start_20 : decode cX1_start 20 = .ok (.aload_n 0, 1) := by decide +kernel
theorem dX1_start_21 : decode cX1_start 21 = .ok (.iconst 0, 1) := by decide +kernel
theorem dX1_start_22 : decode cX1_start 22 = .ok (.putfield 28, 3) := by decide +kernel
theorem dX1_start_25 : decode cX1_start 25 = .ok (.aload_n 0, 1) := by decide +kernel
theorem dX1_start_26 : decode cX1_start 26 = .ok (.iconst 0, 1) := by decide +kernel
theorem dX1_start_27 : decode cX1_start 27 = .ok (.lconst 0, 1) := by decide +kernel
theorem dX1_start_28 : decode cX1_start 28 = .ok (.iconst 1, 1) := by decide +kernel
theorem dX1_start_29 : decode cX1_start 29 = .ok (.invokevirtual 31, 3) := by decide +kernel
theorem dX1_start_32 : decode cX1_start 32 = .ok (.return_, 1) := by decide +kernel
set_option maxRecDepth 20000 in
theorem ggX1_copyFrom_X1_moveTo : GoodIn wsX1_copyFrom wsX1_moveTo := goodIn_r _ [18, 11, 12, 13, 19, 20, 21, 22, 23, 24, 25, 26, 27] (by decide +kernel) (by decide +kernel)
set_option maxRecDepth 20000 in
theorem gX1_copyFrom_X1_moveTo : GoodIn wsX1_copyFrom (wsV RX1 31 RX1 yX1_moveTo wsX1_moveTo) := goodIn_app (goodIn_of _ (by decide +kernel)) ggX1_copyFrom_X1_moveTo
theorem dX1_copyFrom_0 : decode cX1_copyFrom 0 = .ok (.aload_n 0, 1) := by decide +kernel
theorem dX1_copyFrom_1 : decode cX1_copyFrom 1 = .ok (.aload_n 1, 1) := by decide +kernel
theorem dX1_copyFrom_2 : decode cX1_copyFrom 2 = .ok (.getfield 15, 3) := by decide +kernel
theorem dX1_copyFrom_5 : decode cX1_copyFrom 5 = .ok (.putfield 15, 3) := by decide +kernel
theorem dX1_copyFrom_8 : decode cX1_copyFrom 8 = .ok (.aload_n 0, 1) := by decide +kernel
theorem dX1_copyFrom_9 : decode cX1_copyFrom 9 = .ok (.aload_n 1, 1) := by decide +kernel
theorem dX1_copyFrom_10 : decode cX1_copyFrom 10 = .ok (.getfield 19, 3) := by decide +kernel
theorem dX1_copyFrom_13 : decode cX1_copyFrom 13 = .ok (.putfield 19, 3) := by decide +kernel
theorem dX1_copyFrom_16 : decode cX1_copyFrom 16 = .ok (.aload_n 0, 1) := by decide +kernel
theorem dX1_copyFrom_17 : decode cX1_copyFrom 17 = .ok (.aload_n 1, 1) := by decide +kernel
theorem dX1_copyFrom_18 : decode cX1_copyFrom 18 = .ok (.getfield 22, 3) := by decide +kernel
theorem dX1_copyFrom_21 : decode cX1_copyFrom 21 = .ok (.putfield 22, 3) := by decide +kernel
theorem dX1_copyFrom_24 : decode cX1_copyFrom 24 = .ok (.aload_n 0, 1) := by decide +kernel
theorem dX1_copyFrom_25 : decode cX1_copyFrom 25 = .ok (.aload_n 1, 1) := by decide +kernel
theorem dX1_copyFrom_26 : decode cX1_copyFrom 26 = .ok (.getfield 25, 3) := by decide +kernel
theorem dX1_copyFrom_29 : decode cX1_copyFrom 29 = .ok (.putfield 25, 3) := by decide +kernel
theorem dX1_copyFrom_32 : decode cX1_copyFrom 32 = .ok (.aload_n 0, 1) := by decide +kernel
theorem dX1_copyFrom_33 : decode cX1_copyFrom 33 = .ok (.aload_n 1, 1) := by decide +kernel
theorem dX1_copyFrom_34 : decode cX1_copyFrom 34 = .ok (.getfield 28, 3) := by decide +kernel
theorem dX1_copyFrom_37 : decode cX1_copyFrom 37 = .ok (.putfield 28, 3) := by decide +kernel
theorem dX1_copyFrom_40 : decode cX1_copyFrom 40 = .ok (.aload_n 1, 1) := by decide +kernel
theorem dX1_copyFrom_41 : decode cX1_copyFrom 41 = .ok (.getfield 11, 3) := by decide +kernel
theorem dX1_copyFrom_44 : decode cX1_copyFrom 44 = .ok (.iconst 0, 1) := by decide +kernel
theorem dX1_copyFrom_45 : decode cX1_copyFrom 45 = .ok (.aload_n 0, 1) := by decide +kernel
theorem dX1_copyFrom_46 : decode cX1_copyFrom 46 = .ok (.getfield 11, 3) := by decide +kernel
theorem dX1_copyFrom_49 : decode cX1_copyFrom 49 = .ok (.iconst 0, 1) := by decide +kernel
theorem dX1_copyFrom_50 : decode cX1_copyFrom 50 = .ok (.bipush 16, 2) := by decide +kernel
theorem dX1_copyFrom_52 : decode cX1_copyFrom 52 = .ok (.invokestatic 35, 3) := by decide +kernel
theorem dX1_copyFrom_55 : decode cX1_copyFrom 55 = .ok (.aload_n 0, 1) := by decide +kernel
theorem dX1_copyFrom_56 : decode cX1_copyFrom 56 = .ok (.aload_n 1, 1) := by decide +kernel
theorem dX1_copyFrom_57 : decode cX1_copyFrom 57 = .ok (.getfield 41, 3) := by decide +kernel
theorem dX1_copyFrom_60 : decode cX1_copyFrom 60 = .ok (.aload_n 1, 1) := by decide +kernel
theorem dX1_copyFrom_61 : decode cX1_copyFrom 61 = .ok (.getfield 44, 3) := by decide +kernel
theorem dX1_copyFrom_64 : decode cX1_copyFrom 64 = .ok (.aload_n 1, 1) := by decide +kernel
theorem dX1_copyFrom_65 : decode cX1_copyFrom 65 = .ok (.getfield 48, 3) := by decide +kernel
theorem dX1_copyFrom_68 : decode cX1_copyFrom 68 = .ok (.invokevirtual 31, 3) := by decide +kernel
theorem dX1_copyFrom_71 : decode cX1_copyFrom 71 = .ok (.return_, 1) := by decide +kernel
theorem dX1_moveTo_0 : decode cX1_moveTo 0 = .ok (.aload_n 0, 1) := by decide +kernel
theorem dX1_moveTo_1 : decode cX1_moveTo 1 = .ok (.iload_n 1, 1) := by decide +kernel
theorem dX1_moveTo_2 : decode cX1_moveTo 2 = .ok (.putfield 41, 3) := by decide +kernel
theorem dX1_moveTo_5 : decode cX1_moveTo 5 = .ok (.aload_n 0, 1) := by decide +kernel
theorem dX1_moveTo_6 : decode cX1_moveTo 6 = .ok (.lload_n 2, 1) := by decide +kernel
theorem dX1_moveTo_7 : decode cX1_moveTo 7 = .ok (.putfield 44, 3) := by decide +kernel
theorem dX1_moveTo_10 : decode cX1_moveTo 10 = .ok (.aload_n 0, 1) := by decide +kernel
theorem dX1_moveTo_11 : decode cX1_moveTo 11 = .ok (.iload 4, 2) := by decide +kernel
theorem dX1_moveTo_13 : decode cX1_moveTo 13 = .ok (.putfield 48, 3) := by decide +kernel
theorem dX1_moveTo_16 : decode cX1_moveTo 16 = .ok (.return_, 1) := by decide +kernel
theorem dX1_hasState_0 : decode cX1_hasState 0 = .ok (.iload_n 1, 1) := by decide +kernel
theorem dX1_hasState_1 : decode cX1_hasState 1 = .ok (.ifCond .lt 15, 3) := by decide +kernel
theorem dX1_hasState_4 : decode cX1_hasState 4 = .ok (.iload_n 1, 1) := by decide +kernel
theorem dX1_hasState_5 : decode cX1_hasState 5 = .ok (.aload_n 0, 1) := by decide +kernel
theorem dX1_hasState_6 : decode cX1_hasState 6 = .ok (.getfield 15, 3) := by decide +kernel
theorem dX1_hasState_9 : decode cX1_hasState 9 = .ok (.if_icmp .ge 7, 3) := by decide +kernel
theorem dX1_hasState_12 : decode cX1_hasState 12 = .ok (.iconst 1, 1) := by decide +kernel
theorem dX1_hasState_13 : decode cX1_hasState 13 = .ok (.goto 4, 3) := by decide +kernel
theorem dX1_hasState_16 : decode cX1_hasState 16 = .ok (.iconst 0, 1) := by decide +kernel
theorem dX1_hasState_17 : decode cX1_hasState 17 = .ok (.ireturn, 1) := by decide +kernel
theorem dX1_hasSymbol_0 : decode cX1_hasSymbol 0 = .ok (.iload_n 1, 1) := by decide +kernel
theorem dX1_hasSymbol_1 : decode cX1_hasSymbol 1 = .ok (.ifCond .lt 15, 3) := by decide +kernel
theorem dX1_hasSymbol_4 : decode cX1_hasSymbol 4 = .ok (.iload_n 1, 1) := by decide +kernel
theorem dX1_hasSymbol_5 : decode cX1_hasSymbol 5 = .ok (.aload_n 0, 1) := by decide +kernel
theorem dX1_hasSymbol_6 : decode cX1_hasSymbol 6 = .ok (.getfield 19, 3) := by decide +kernel
theorem dX1_hasSymbol_9 : decode cX1_hasSymbol 9 = .ok (.if_icmp .ge 7, 3) := by decide +kernel
theorem dX1_hasSymbol_12 : decode cX1_hasSymbol 12 = .ok (.iconst 1, 1) := by decide +kernel
theorem dX1_hasSymbol_13 : decode cX1_hasSymbol 13 = .ok (.goto 4, 3) := by decide +kernel
theorem dX1_hasSymbol_16 : decode cX1_hasSymbol 16 = .ok (.iconst 0, 1) := by decide +kernel
theorem dX1_hasSymbol_17 : decode cX1_hasSymbol 17 = .ok (.ireturn, 1) := by decide +kernel
theorem dX1_hasRule_0 : decode cX1_hasRule 0 = .ok (.iload_n 1, 1) := by decide +kernel
theorem dX1_hasRule_1 : decode cX1_hasRule 1 = .ok (.ifCond .lt 15, 3) := by decide +kernel
theorem dX1_hasRule_4 : decode cX1_hasRule 4 = .ok (.iload_n 1, 1) := by decide +kernel
theorem dX1_hasRule_5 : decode cX1_hasRule 5 = .ok (.aload_n 0, 1) := by decide +kernel
theorem dX1_hasRule_6 : decode cX1_hasRule 6 = .ok (.getfield 28, 3) := by decide +kernel
theorem dX1_hasRule_9 : decode cX1_hasRule 9 = .ok (.if_icmp .ge 7, 3) := by decide +kernel
theorem dX1_hasRule_12 : decode cX1_hasRule 12 = .ok (.iconst 1, 1) := by decide +kernel
theorem dX1_hasRule_13 : decode cX1_hasRule 13 = .ok (.goto 4, 3) := by decide +kernel
theorem dX1_hasRule_16 : decode cX1_hasRule 16 = .ok (.iconst 0, 1) := by decide +kernel
theorem dX1_hasRule_17 : decode cX1_hasRule 17 = .ok (.ireturn, 1) := by decide +kernel
set_option maxRecDepth 20000 in
theorem ggX1_owner_X9_bit : GoodIn wsX1_owner wsX9_bit := goodIn_r _ [4] (by decide +kernel) (by decide +kernel)
set_option maxRecDepth 20000 in
theorem gX1_owner_X9_bit_n51 : GoodIn wsX1_owner (wsX9_bit) := ggX1_owner_X9_bit
theorem dX1_owner_0 : decode cX1_owner 0 = .ok (.aload_n 0, 1) := by decide +kernel
theorem dX1_owner_1 : decode cX1_owner 1 = .ok (.getfield 22, 3) := by decide +kernel
theorem dX1_owner_4 : decode cX1_owner 4 = .ok (.iload_n 1, 1) := by decide +kernel
theorem dX1_owner_5 : decode cX1_owner 5 = .ok (.invokestatic 51, 3) := by decide +kernel
theorem dX1_owner_8 : decode cX1_owner 8 = .ok (.iconst 1, 1) := by decide +kernel
theorem dX1_owner_9 : decode cX1_owner 9 = .ok (.if_icmp .ne 7, 3) := by decide +kernel
theorem dX1_owner_12 : decode cX1_owner 12 = .ok (.iconst 1, 1) := by decide +kernel
theorem dX1_owner_13 : decode cX1_owner 13 = .ok (.goto 4, 3) := by decide +kernel
theorem dX1_owner_16 : decode cX1_owner 16 = .ok (.iconst 0, 1) := by decide +kernel
theorem dX1_owner_17 : decode cX1_owner 17 = .ok (.ireturn, 1) := by decide +kernel
set_option maxRecDepth 20000 in
theorem ggX1_isPlayable_X7_symbolAt : GoodIn wsX1_isPlayable wsX7_symbolAt := goodIn_r _ [7] (by decide +kernel) (by decide +kernel)
set_option maxRecDepth 20000 in
theorem gX1_isPlayable_X7_symbolAt : GoodIn wsX1_isPlayable (va_wsS RX1 55 yX7_symbolAt wsX7_symbolAt) := goodIn_app (goodIn_of _ (by decide +kernel)) ggX1_isPlayable_X7_symbolAt
set_option maxRecDepth 20000 in
theorem ggX1_isPlayable_X4_of : GoodIn wsX1_isPlayable wsX4_of := goodIn_r _ [11] (by decide +kernel) (by decide +kernel)
set_option maxRecDepth 20000 in
theorem gX1_isPlayable_X4_of : GoodIn wsX1_isPlayable (va_wsS RX1 61 yX4_of wsX4_of) := goodIn_app (goodIn_of _ (by decide +kernel)) ggX1_isPlayable_X4_of
set_option maxRecDepth 20000 in
theorem ggX1_isPlayable_X5_fitsPair : GoodIn wsX1_isPlayable wsX5_fitsPair := goodIn_r _ [15] (by decide +kernel) (by decide +kernel)
set_option maxRecDepth 20000 in
theorem gX1_isPlayable_X5_fitsPair : GoodIn wsX1_isPlayable (va_wsS RX1 66 yX5_fitsPair wsX5_fitsPair) := goodIn_app (goodIn_of _ (by decide +kernel)) ggX1_isPlayable_X5_fitsPair
theorem dX1_isPlayable_0 : decode cX1_isPlayable 0 = .ok (.aload_n 0, 1) := by decide +kernel
theorem dX1_isPlayable_1 : decode cX1_isPlayable 1 = .ok (.getfield 48, 3) := by decide +kernel
theorem dX1_isPlayable_4 : decode cX1_isPlayable 4 = .ok (.ifCond .le 29, 3) := by decide +kernel
theorem dX1_isPlayable_7 : decode cX1_isPlayable 7 = .ok (.iload_n 1, 1) := by decide +kernel
theorem dX1_isPlayable_8 : decode cX1_isPlayable 8 = .ok (.aload_n 0, 1) := by decide +kernel
theorem dX1_isPlayable_9 : decode cX1_isPlayable 9 = .ok (.getfield 41, 3) := by decide +kernel
theorem dX1_isPlayable_12 : decode cX1_isPlayable 12 = .ok (.aload_n 0, 1) := by decide +kernel
theorem dX1_isPlayable_13 : decode cX1_isPlayable 13 = .ok (.getfield 44, 3) := by decide +kernel
theorem dX1_isPlayable_16 : decode cX1_isPlayable 16 = .ok (.iconst 0, 1) := by decide +kernel
theorem dX1_isPlayable_17 : decode cX1_isPlayable 17 = .ok (.invokestatic 55, 3) := by decide +kernel
theorem dX1_isPlayable_20 : decode cX1_isPlayable 20 = .ok (.invokestatic 61, 3) := by decide +kernel
theorem dX1_isPlayable_23 : decode cX1_isPlayable 23 = .ok (.invokestatic 66, 3) := by decide +kernel
theorem dX1_isPlayable_26 : decode cX1_isPlayable 26 = .ok (.ifCond .eq 7, 3) := by decide +kernel
theorem dX1_isPlayable_29 : decode cX1_isPlayable 29 = .ok (.iconst 1, 1) := by decide +kernel
theorem dX1_isPlayable_30 : decode cX1_isPlayable 30 = .ok (.goto 4, 3) := by decide +kernel
theorem dX1_isPlayable_33 : decode cX1_isPlayable 33 = .ok (.iconst 0, 1) := by decide +kernel
theorem dX1_isPlayable_34 : decode cX1_isPlayable 34 = .ok (.ireturn, 1) := by decide +kernel
set_option maxRecDepth 20000 in
theorem ggX1_ruleError_X1_hasState : GoodIn wsX1_ruleError wsX1_hasState := goodIn_r _ [6, 7, 30, 31, 32, 33, 34, 35, 36, 37, 38] (by decide +kernel) (by decide +kernel)
set_option maxRecDepth 20000 in
theorem gX1_ruleError_X1_hasState : GoodIn wsX1_ruleError (wsV RX1 72 RX1 yX1_hasState wsX1_hasState) := goodIn_app (goodIn_of _ (by decide +kernel)) ggX1_ruleError_X1_hasState
set_option maxRecDepth 20000 in
theorem ggX1_ruleError_X1_hasSymbol : GoodIn wsX1_ruleError wsX1_hasSymbol := goodIn_r _ [11, 12, 30, 31, 32, 33, 34, 35, 36, 37, 38] (by decide +kernel) (by decide +kernel)
set_option maxRecDepth 20000 in
theorem gX1_ruleError_X1_hasSymbol : GoodIn wsX1_ruleError (wsV RX1 76 RX1 yX1_hasSymbol wsX1_hasSymbol) := goodIn_app (goodIn_of _ (by decide +kernel)) ggX1_ruleError_X1_hasSymbol
set_option maxRecDepth 20000 in
theorem ggX1_ruleError_X1_isWord : GoodIn wsX1_ruleError wsX1_isWord := goodIn_r _ [16, 8, 9, 10, 5, 11, 12, 30, 31, 32, 33, 34, 35, 36, 37, 38] (by decide +kernel) (by decide +kernel)
set_option maxRecDepth 20000 in
theorem gX1_ruleError_X1_isWord : GoodIn wsX1_ruleError (wsV RX1 79 RX1 yX1_isWord wsX1_isWord) := goodIn_app (goodIn_of _ (by decide +kernel)) ggX1_ruleError_X1_isWord
set_option maxRecDepth 20000 in
theorem ggX1_ruleError_X4_of : GoodIn wsX1_ruleError wsX4_of := goodIn_r _ [20] (by decide +kernel) (by decide +kernel)
set_option maxRecDepth 20000 in
theorem gX1_ruleError_X4_of : GoodIn wsX1_ruleError (va_wsS RX1 61 yX4_of wsX4_of) := goodIn_app (goodIn_of _ (by decide +kernel)) ggX1_ruleError_X4_of
set_option maxRecDepth 20000 in
theorem ggX1_ruleError_X1_rulesOf : GoodIn wsX1_ruleError wsX1_rulesOf := goodIn_r _ [24, 1, 25, 26, 27, 28, 29, 30, 31, 32, 33, 34, 35, 36, 37, 38] (by decide +kernel) (by decide +kernel)
set_option maxRecDepth 20000 in
theorem gX1_ruleError_X1_rulesOf : GoodIn wsX1_ruleError (wsV RX1 82 RX1 yX1_rulesOf wsX1_rulesOf) := goodIn_app (goodIn_of _ (by decide +kernel)) ggX1_ruleError_X1_rulesOf
theorem dX1_ruleError_0 : decode cX1_ruleError 0 = .ok (.aload_n 0, 1) := by decide +kernel
theorem dX1_ruleError_1 : decode cX1_ruleError 1 = .ok (.iload_n 1, 1) := by decide +kernel
theorem dX1_ruleError_2 : decode cX1_ruleError 2 = .ok (.invokevirtual 72, 3) := by decide +kernel
theorem dX1_ruleError_5 : decode cX1_ruleError 5 = .ok (.ifCond .eq 30, 3) := by decide +kernel
theorem dX1_ruleError_8 : decode cX1_ruleError 8 = .ok (.aload_n 0, 1) := by decide +kernel
theorem dX1_ruleError_9 : decode cX1_ruleError 9 = .ok (.iload_n 2, 1) := by decide +kernel
theorem dX1_ruleError_10 : decode cX1_ruleError 10 = .ok (.invokevirtual 76, 3) := by decide +kernel
theorem dX1_ruleError_13 : decode cX1_ruleError 13 = .ok (.ifCond .eq 22, 3) := by decide +kernel
theorem dX1_ruleError_16 : decode cX1_ruleError 16 = .ok (.aload_n 0, 1) := by decide +kernel
theorem dX1_ruleError_17 : decode cX1_ruleError 17 = .ok (.iload_n 3, 1) := by decide +kernel
theorem dX1_ruleError_18 : decode cX1_ruleError 18 = .ok (.invokevirtual 72, 3) := by decide +kernel
theorem dX1_ruleError_21 : decode cX1_ruleError 21 = .ok (.ifCond .eq 14, 3) := by decide +kernel
theorem dX1_ruleError_24 : decode cX1_ruleError 24 = .ok (.aload_n 0, 1) := by decide +kernel
theorem dX1_ruleError_25 : decode cX1_ruleError 25 = .ok (.iload 4, 2) := by decide +kernel
theorem dX1_ruleError_27 : decode cX1_ruleError 27 = .ok (.iload 5, 2) := by decide +kernel
theorem dX1_ruleError_29 : decode cX1_ruleError 29 = .ok (.invokevirtual 79, 3) := by decide +kernel
theorem dX1_ruleError_32 : decode cX1_ruleError 32 = .ok (.ifCond .ne 5, 3) := by decide +kernel
theorem dX1_ruleError_35 : decode cX1_ruleError 35 = .ok (.iconst (-1), 1) := by decide +kernel
theorem dX1_ruleError_36 : decode cX1_ruleError 36 = .ok (.ireturn, 1) := by decide +kernel
theorem dX1_ruleError_37 : decode cX1_ruleError 37 = .ok (.aload_n 0, 1) := by decide +kernel
theorem dX1_ruleError_38 : decode cX1_ruleError 38 = .ok (.getfield 28, 3) := by decide +kernel
theorem dX1_ruleError_41 : decode cX1_ruleError 41 = .ok (.bipush 16, 2) := by decide +kernel
theorem dX1_ruleError_43 : decode cX1_ruleError 43 = .ok (.if_icmp .ge 16, 3) := by decide +kernel
theorem dX1_ruleError_46 : decode cX1_ruleError 46 = .ok (.aload_n 0, 1) := by decide +kernel
theorem dX1_ruleError_47 : decode cX1_ruleError 47 = .ok (.iload_n 1, 1) := by decide +kernel
theorem dX1_ruleError_48 : decode cX1_ruleError 48 = .ok (.iload_n 2, 1) := by decide +kernel
theorem dX1_ruleError_49 : decode cX1_ruleError 49 = .ok (.invokestatic 61, 3) := by decide +kernel
theorem dX1_ruleError_52 : decode cX1_ruleError 52 = .ok (.invokevirtual 82, 3) := by decide +kernel
theorem dX1_ruleError_55 : decode cX1_ruleError 55 = .ok (.iconst 3, 1) := by decide +kernel
theorem dX1_ruleError_56 : decode cX1_ruleError 56 = .ok (.if_icmp .lt 6, 3) := by decide +kernel
theorem dX1_ruleError_59 : decode cX1_ruleError 59 = .ok (.bipush (-3), 2) := by decide +kernel
theorem dX1_ruleError_61 : decode cX1_ruleError 61 = .ok (.ireturn, 1) := by decide +kernel
theorem dX1_ruleError_62 : decode cX1_ruleError 62 = .ok (.iconst 0, 1) := by decide +kernel
theorem dX1_ruleError_63 : decode cX1_ruleError 63 = .ok (.ireturn, 1) := by decide +kernel
set_option maxRecDepth 20000 in
theorem ggX1_isWord_X1_hasSymbol : GoodIn wsX1_isWord wsX1_hasSymbol := goodIn_r _ [5, 6, 7, 8, 9, 10, 11, 12, 13, 14, 15] (by decide +kernel) (by decide +kernel)
set_option maxRecDepth 20000 in
theorem gX1_isWord_X1_hasSymbol : GoodIn wsX1_isWord (wsV RX1 76 RX1 yX1_hasSymbol wsX1_hasSymbol) := goodIn_app (goodIn_of _ (by decide +kernel)) ggX1_isWord_X1_hasSymbol
theorem dX1_isWord_0 : decode cX1_isWord 0 = .ok (.iload_n 1, 1) := by decide +kernel
theorem dX1_isWord_1 : decode cX1_isWord 1 = .ok (.iconst (-1), 1) := by decide +kernel
theorem dX1_isWord_2 : decode cX1_isWord 2 = .ok (.if_icmp .ne 14, 3) := by decide +kernel
theorem dX1_isWord_5 : decode cX1_isWord 5 = .ok (.iload_n 2, 1) := by decide +kernel
theorem dX1_isWord_6 : decode cX1_isWord 6 = .ok (.iconst (-1), 1) := by decide +kernel
theorem dX1_isWord_7 : decode cX1_isWord 7 = .ok (.if_icmp .ne 7, 3) := by decide +kernel
theorem dX1_isWord_10 : decode cX1_isWord 10 = .ok (.iconst 1, 1) := by decide +kernel
theorem dX1_isWord_11 : decode cX1_isWord 11 = .ok (.goto 4, 3) := by decide +kernel
theorem dX1_isWord_14 : decode cX1_isWord 14 = .ok (.iconst 0, 1) := by decide +kernel
theorem dX1_isWord_15 : decode cX1_isWord 15 = .ok (.ireturn, 1) := by decide +kernel
theorem dX1_isWord_16 : decode cX1_isWord 16 = .ok (.aload_n 0, 1) := by decide +kernel
theorem dX1_isWord_17 : decode cX1_isWord 17 = .ok (.iload_n 1, 1) := by decide +kernel
theorem dX1_isWord_18 : decode cX1_isWord 18 = .ok (.invokevirtual 76, 3) := by decide +kernel
theorem dX1_isWord_21 : decode cX1_isWord 21 = .ok (.ifCond .eq 20, 3) := by decide +kernel
theorem dX1_isWord_24 : decode cX1_isWord 24 = .ok (.iload_n 2, 1) := by decide +kernel
theorem dX1_isWord_25 : decode cX1_isWord 25 = .ok (.iconst (-1), 1) := by decide +kernel
theorem dX1_isWord_26 : decode cX1_isWord 26 = .ok (.if_icmp .eq 11, 3) := by decide +kernel
theorem dX1_isWord_29 : decode cX1_isWord 29 = .ok (.aload_n 0, 1) := by decide +kernel
theorem dX1_isWord_30 : decode cX1_isWord 30 = .ok (.iload_n 2, 1) := by decide +kernel
theorem dX1_isWord_31 : decode cX1_isWord 31 = .ok (.invokevirtual 76, 3) := by decide +kernel
theorem dX1_isWord_34 : decode cX1_isWord 34 = .ok (.ifCond .eq 7, 3) := by decide +kernel
theorem dX1_isWord_37 : decode cX1_isWord 37 = .ok (.iconst 1, 1) := by decide +kernel
theorem dX1_isWord_38 : decode cX1_isWord 38 = .ok (.goto 4, 3) := by decide +kernel
theorem dX1_isWord_41 : decode cX1_isWord 41 = .ok (.iconst 0, 1) := by decide +kernel
theorem dX1_isWord_42 : decode cX1_isWord 42 = .ok (.ireturn, 1) := by decide +kernel
set_option maxRecDepth 20000 in
theorem ggX1_rulesOf_X5_fitsPair : GoodIn wsX1_rulesOf wsX5_fitsPair := goodIn_r _ [6] (by decide +kernel) (by decide +kernel)
set_option maxRecDepth 20000 in
theorem gX1_rulesOf_X5_fitsPair : GoodIn wsX1_rulesOf (va_wsS RX1 66 yX5_fitsPair wsX5_fitsPair) := goodIn_app (goodIn_of _ (by decide +kernel)) ggX1_rulesOf_X5_fitsPair
theorem dX1_rulesOf_0 : decode cX1_rulesOf 0 = .ok (.iconst 0, 1) := by decide +kernel
theorem dX1_rulesOf_1 : decode cX1_rulesOf 1 = .ok (.istore_n 2, 1) := by decide +kernel
theorem dX1_rulesOf_2 : decode cX1_rulesOf 2 = .ok (.iconst 0, 1) := by decide +kernel
theorem dX1_rulesOf_3 : decode cX1_rulesOf 3 = .ok (.istore_n 3, 1) := by decide +kernel
theorem dX1_rulesOf_4 : decode cX1_rulesOf 4 = .ok (.iload_n 3, 1) := by decide +kernel
theorem dX1_rulesOf_5 : decode cX1_rulesOf 5 = .ok (.aload_n 0, 1) := by decide +kernel
theorem dX1_rulesOf_6 : decode cX1_rulesOf 6 = .ok (.getfield 28, 3) := by decide +kernel
theorem dX1_rulesOf_9 : decode cX1_rulesOf 9 = .ok (.if_icmp .ge 25, 3) := by decide +kernel
theorem dX1_rulesOf_12 : decode cX1_rulesOf 12 = .ok (.aload_n 0, 1) := by decide +kernel
theorem dX1_rulesOf_13 : decode cX1_rulesOf 13 = .ok (.getfield 11, 3) := by decide +kernel
theorem dX1_rulesOf_16 : decode cX1_rulesOf 16 = .ok (.iload_n 3, 1) := by decide +kernel
theorem dX1_rulesOf_17 : decode cX1_rulesOf 17 = .ok (.iaload, 1) := by decide +kernel
theorem dX1_rulesOf_18 : decode cX1_rulesOf 18 = .ok (.iload_n 1, 1) := by decide +kernel
theorem dX1_rulesOf_19 : decode cX1_rulesOf 19 = .ok (.invokestatic 66, 3) := by decide +kernel
theorem dX1_rulesOf_22 : decode cX1_rulesOf 22 = .ok (.ifCond .eq 6, 3) := by decide +kernel
theorem dX1_rulesOf_25 : decode cX1_rulesOf 25 = .ok (.iinc 2 1, 3) := by decide +kernel
theorem dX1_rulesOf_28 : decode cX1_rulesOf 28 = .ok (.iinc 3 1, 3) := by decide +kernel
theorem dX1_rulesOf_31 : decode cX1_rulesOf 31 = .ok (.goto (-27), 3) := by decide +kernel
theorem dX1_rulesOf_34 : decode cX1_rulesOf 34 = .ok (.iload_n 2, 1) := by decide +kernel
theorem dX1_rulesOf_35 : decode cX1_rulesOf 35 = .ok (.ireturn, 1) := by decide +kernel
theorem dX1_takeRule_0 : decode cX1_takeRule 0 = .ok (.aload_n 0, 1) := by decide +kernel
theorem dX1_takeRule_1 : decode cX1_takeRule 1 = .ok (.getfield 28, 3) := by decide +kernel
theorem dX1_takeRule_4 : decode cX1_takeRule 4 = .ok (.bipush 16, 2) := by decide +kernel
theorem dX1_takeRule_6 : decode cX1_takeRule 6 = .ok (.if_icmp .ge 23, 3) := by decide +kernel
theorem dX1_takeRule_9 : decode cX1_takeRule 9 = .ok (.aload_n 0, 1) := by decide +kernel
theorem dX1_takeRule_10 : decode cX1_takeRule 10 = .ok (.getfield 11, 3) := by decide +kernel
theorem dX1_takeRule_13 : decode cX1_takeRule 13 = .ok (.aload_n 0, 1) := by decide +kernel
theorem dX1_takeRule_14 : decode cX1_takeRule 14 = .ok (.getfield 28, 3) := by decide +kernel
theorem dX1_takeRule_17 : decode cX1_takeRule 17 = .ok (.iload_n 1, 1) := by decide +kernel
theorem dX1_takeRule_18 : decode cX1_takeRule 18 = .ok (.iastore, 1) := by decide +kernel
theorem dX1_takeRule_19 : decode cX1_takeRule 19 = .ok (.aload_n 0, 1) := by decide +kernel
theorem dX1_takeRule_20 : decode cX1_takeRule 20 = .ok (.dup, 1) := by decide +kernel
theorem dX1_takeRule_21 : decode cX1_takeRule 21 = .ok (.getfield 28, 3) := by decide +kernel
theorem dX1_takeRule_24 : decode cX1_takeRule 24 = .ok (.iconst 1, 1) := by decide +kernel
theorem dX1_takeRule_25 : decode cX1_takeRule 25 = .ok (.iadd, 1) := by decide +kernel
theorem dX1_takeRule_26 : decode cX1_takeRule 26 = .ok (.putfield 28, 3) := by decide +kernel
theorem dX1_takeRule_29 : decode cX1_takeRule 29 = .ok (.return_, 1) := by decide +kernel
theorem dX1_dropRule_0 : decode cX1_dropRule 0 = .ok (.iload_n 1, 1) := by decide +kernel
theorem dX1_dropRule_1 : decode cX1_dropRule 1 = .ok (.iconst 1, 1) := by decide +kernel
theorem dX1_dropRule_2 : decode cX1_dropRule 2 = .ok (.iadd, 1) := by decide +kernel
theorem dX1_dropRule_3 : decode cX1_dropRule 3 = .ok (.istore_n 2, 1) := by decide +kernel
theorem dX1_dropRule_4 : decode cX1_dropRule 4 = .ok (.iload_n 2, 1) := by decide +kernel
theorem dX1_dropRule_5 : decode cX1_dropRule 5 = .ok (.aload_n 0, 1) := by decide +kernel
theorem dX1_dropRule_6 : decode cX1_dropRule 6 = .ok (.getfield 28, 3) := by decide +kernel
theorem dX1_dropRule_9 : decode cX1_dropRule 9 = .ok (.if_icmp .ge 23, 3) := by decide +kernel
theorem dX1_dropRule_12 : decode cX1_dropRule 12 = .ok (.aload_n 0, 1) := by decide +kernel
theorem dX1_dropRule_13 : decode cX1_dropRule 13 = .ok (.getfield 11, 3) := by decide +kernel
theorem dX1_dropRule_16 : decode cX1_dropRule 16 = .ok (.iload_n 2, 1) := by decide +kernel
theorem dX1_dropRule_17 : decode cX1_dropRule 17 = .ok (.iconst 1, 1) := by decide +kernel
theorem dX1_dropRule_18 : decode cX1_dropRule 18 = .ok (.isub, 1) := by decide +kernel
theorem dX1_dropRule_19 : decode cX1_dropRule 19 = .ok (.aload_n 0, 1) := by decide +kernel
theorem dX1_dropRule_20 : decode cX1_dropRule 20 = .ok (.getfield 11, 3) := by decide +kernel
theorem dX1_dropRule_23 : decode cX1_dropRule 23 = .ok (.iload_n 2, 1) := by decide +kernel
theorem dX1_dropRule_24 : decode cX1_dropRule 24 = .ok (.iaload, 1) := by decide +kernel
theorem dX1_dropRule_25 : decode cX1_dropRule 25 = .ok (.iastore, 1) := by decide +kernel
theorem dX1_dropRule_26 : decode cX1_dropRule 26 = .ok (.iinc 2 1, 3) := by decide +kernel
theorem dX1_dropRule_29 : decode cX1_dropRule 29 = .ok (.goto (-25), 3) := by decide +kernel
theorem dX1_dropRule_32 : decode cX1_dropRule 32 = .ok (.aload_n 0, 1) := by decide +kernel
theorem dX1_dropRule_33 : decode cX1_dropRule 33 = .ok (.dup, 1) := by decide +kernel
theorem dX1_dropRule_34 : decode cX1_dropRule 34 = .ok (.getfield 28, 3) := by decide +kernel
theorem dX1_dropRule_37 : decode cX1_dropRule 37 = .ok (.iconst 1, 1) := by decide +kernel
theorem dX1_dropRule_38 : decode cX1_dropRule 38 = .ok (.isub, 1) := by decide +kernel
theorem dX1_dropRule_39 : decode cX1_dropRule 39 = .ok (.putfield 28, 3) := by decide +kernel
theorem dX1_dropRule_42 : decode cX1_dropRule 42 = .ok (.return_, 1) := by decide +kernel

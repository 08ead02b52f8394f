theorem dX9_stackSize_0 : decode cX9_stackSize 0 = .ok (.aload_n 0, 1) := by decide +kernel
theorem dX9_stackSize_1 : decode cX9_stackSize 1 = .ok (.getfield 19, 3) := by decide +kernel
theorem dX9_stackSize_4 : decode cX9_stackSize 4 = .ok (.getfield 128, 3) := by decide +kernel
theorem dX9_stackSize_7 : decode cX9_stackSize 7 = .ok (.ireturn, 1) := by decide +kernel
set_option maxRecDepth 20000 in
theorem ggX9_stackSymbol_X7_symbolAt : GoodIn wsX9_stackSymbol wsX7_symbolAt := goodIn_r _ [7] (by decide +kernel) (by decide +kernel)
set_option maxRecDepth 20000 in
theorem gX9_stackSymbol_X7_symbolAt : GoodIn wsX9_stackSymbol (va_wsS RX9 191 yX7_symbolAt wsX7_symbolAt) := goodIn_app (goodIn_of _ (by decide +kernel)) ggX9_stackSymbol_X7_symbolAt
theorem dX9_stackSymbol_0 : decode cX9_stackSymbol 0 = .ok (.iload_n 1, 1) := by decide +kernel
theorem dX9_stackSymbol_1 : decode cX9_stackSymbol 1 = .ok (.ifCond .lt 14, 3) := by decide +kernel
theorem dX9_stackSymbol_4 : decode cX9_stackSymbol 4 = .ok (.iload_n 1, 1) := by decide +kernel
theorem dX9_stackSymbol_5 : decode cX9_stackSymbol 5 = .ok (.aload_n 0, 1) := by decide +kernel
theorem dX9_stackSymbol_6 : decode cX9_stackSymbol 6 = .ok (.getfield 19, 3) := by decide +kernel
theorem dX9_stackSymbol_9 : decode cX9_stackSymbol 9 = .ok (.getfield 128, 3) := by decide +kernel
theorem dX9_stackSymbol_12 : decode cX9_stackSymbol 12 = .ok (.if_icmp .lt 5, 3) := by decide +kernel
theorem dX9_stackSymbol_15 : decode cX9_stackSymbol 15 = .ok (.iconst (-1), 1) := by decide +kernel
theorem dX9_stackSymbol_16 : decode cX9_stackSymbol 16 = .ok (.ireturn, 1) := by decide +kernel
theorem dX9_stackSymbol_17 : decode cX9_stackSymbol 17 = .ok (.aload_n 0, 1) := by decide +kernel
theorem dX9_stackSymbol_18 : decode cX9_stackSymbol 18 = .ok (.getfield 19, 3) := by decide +kernel
theorem dX9_stackSymbol_21 : decode cX9_stackSymbol 21 = .ok (.getfield 144, 3) := by decide +kernel
theorem dX9_stackSymbol_24 : decode cX9_stackSymbol 24 = .ok (.iload_n 1, 1) := by decide +kernel
theorem dX9_stackSymbol_25 : decode cX9_stackSymbol 25 = .ok (.invokestatic 191, 3) := by decide +kernel
theorem dX9_stackSymbol_28 : decode cX9_stackSymbol 28 = .ok (.ireturn, 1) := by decide +kernel
set_option maxRecDepth 20000 in
theorem ggX9_playableRules_X1_isPlayable : GoodIn wsX9_playableRules wsX1_isPlayable := goodIn_r _ [8, 9, 10, 11, 12, 13, 14, 15, 16, 17, 18, 19, 20, 21, 22, 23, 31, 32, 33, 34, 35, 36, 37, 38, 39] (by decide +kernel) (by decide +kernel)
set_option maxRecDepth 20000 in
theorem gX9_playableRules_X1_isPlayable : GoodIn wsX9_playableRules (wsV RX9 158 RX1 yX1_isPlayable wsX1_isPlayable) := goodIn_app (goodIn_of _ (by decide +kernel)) ggX9_playableRules_X1_isPlayable
theorem dX9_playableRules_0 : decode cX9_playableRules 0 = .ok (.iconst 0, 1) := by decide +kernel
theorem dX9_playableRules_1 : decode cX9_playableRules 1 = .ok (.istore_n 1, 1) := by decide +kernel
theorem dX9_playableRules_2 : decode cX9_playableRules 2 = .ok (.iconst 0, 1) := by decide +kernel
theorem dX9_playableRules_3 : decode cX9_playableRules 3 = .ok (.istore_n 2, 1) := by decide +kernel
theorem dX9_playableRules_4 : decode cX9_playableRules 4 = .ok (.iload_n 2, 1) := by decide +kernel
theorem dX9_playableRules_5 : decode cX9_playableRules 5 = .ok (.aload_n 0, 1) := by decide +kernel
theorem dX9_playableRules_6 : decode cX9_playableRules 6 = .ok (.getfield 19, 3) := by decide +kernel
theorem dX9_playableRules_9 : decode cX9_playableRules 9 = .ok (.getfield 81, 3) := by decide +kernel
theorem dX9_playableRules_12 : decode cX9_playableRules 12 = .ok (.if_icmp .ge 31, 3) := by decide +kernel
theorem dX9_playableRules_15 : decode cX9_playableRules 15 = .ok (.aload_n 0, 1) := by decide +kernel
theorem dX9_playableRules_16 : decode cX9_playableRules 16 = .ok (.getfield 19, 3) := by decide +kernel
theorem dX9_playableRules_19 : decode cX9_playableRules 19 = .ok (.aload_n 0, 1) := by decide +kernel
theorem dX9_playableRules_20 : decode cX9_playableRules 20 = .ok (.getfield 19, 3) := by decide +kernel
theorem dX9_playableRules_23 : decode cX9_playableRules 23 = .ok (.getfield 154, 3) := by decide +kernel
theorem dX9_playableRules_26 : decode cX9_playableRules 26 = .ok (.iload_n 2, 1) := by decide +kernel
theorem dX9_playableRules_27 : decode cX9_playableRules 27 = .ok (.iaload, 1) := by decide +kernel
theorem dX9_playableRules_28 : decode cX9_playableRules 28 = .ok (.invokevirtual 158, 3) := by decide +kernel
theorem dX9_playableRules_31 : decode cX9_playableRules 31 = .ok (.ifCond .eq 6, 3) := by decide +kernel
theorem dX9_playableRules_34 : decode cX9_playableRules 34 = .ok (.iinc 1 1, 3) := by decide +kernel
theorem dX9_playableRules_37 : decode cX9_playableRules 37 = .ok (.iinc 2 1, 3) := by decide +kernel
theorem dX9_playableRules_40 : decode cX9_playableRules 40 = .ok (.goto (-36), 3) := by decide +kernel
theorem dX9_playableRules_43 : decode cX9_playableRules 43 = .ok (.iload_n 1, 1) := by decide +kernel
theorem dX9_playableRules_44 : decode cX9_playableRules 44 = .ok (.ireturn, 1) := by decide +kernel
set_option maxRecDepth 20000 in
theorem ggX9_winner_X0_saturate : GoodIn wsX9_winner wsX0_saturate := goodIn_r _ [10, 11, 12, 13, 14, 9, 15, 16, 17, 18, 19, 20, 21, 22, 23, 24, 25, 26, 27, 28, 29, 30, 31, 32, 33, 34, 35, 36, 37, 38, 39, 40, 41, 42, 43, 44, 45, 46, 47, 48, 49, 50, 51, 52, 53, 54, 55, 56, 57, 58, 59, 60, 61, 62, 63, 64, 65, 66, 67, 68, 69, 70, 71, 72, 103, 104, 105, 106, 107, 94, 95, 96, 97, 98, 99, 100, 101, 102] (by decide +kernel) (by decide +kernel)
set_option maxRecDepth 20000 in
theorem gX9_winner_X0_saturate : GoodIn wsX9_winner (wsV RX9 195 RX0 yX0_saturate wsX0_saturate) := goodIn_app (goodIn_of _ (by decide +kernel)) ggX9_winner_X0_saturate
set_option maxRecDepth 20000 in
theorem ggX9_winner_X0_accepts : GoodIn wsX9_winner wsX0_accepts := goodIn_r _ [76, 19, 22, 77, 78, 79, 80, 81, 82, 83, 9, 84, 21, 17, 24, 25, 26, 27, 28, 29, 30, 85, 86, 103, 104, 105, 106, 107, 94, 95, 96, 97, 98, 99, 100, 101, 102] (by decide +kernel) (by decide +kernel)
set_option maxRecDepth 20000 in
theorem gX9_winner_X0_accepts : GoodIn wsX9_winner (wsV RX9 198 RX0 yX0_accepts wsX0_accepts) := goodIn_app (goodIn_of _ (by decide +kernel)) ggX9_winner_X0_accepts
theorem dX9_winner_0 : decode cX9_winner 0 = .ok (.aload_n 0, 1) := by decide +kernel
theorem dX9_winner_1 : decode cX9_winner 1 = .ok (.getfield 38, 3) := by decide +kernel
theorem dX9_winner_4 : decode cX9_winner 4 = .ok (.invokevirtual 195, 3) := by decide +kernel
theorem dX9_winner_7 : decode cX9_winner 7 = .ok (.aload_n 0, 1) := by decide +kernel
theorem dX9_winner_8 : decode cX9_winner 8 = .ok (.getfield 38, 3) := by decide +kernel
theorem dX9_winner_11 : decode cX9_winner 11 = .ok (.aload_n 0, 1) := by decide +kernel
theorem dX9_winner_12 : decode cX9_winner 12 = .ok (.getfield 19, 3) := by decide +kernel
theorem dX9_winner_15 : decode cX9_winner 15 = .ok (.getfield 141, 3) := by decide +kernel
theorem dX9_winner_18 : decode cX9_winner 18 = .ok (.aload_n 0, 1) := by decide +kernel
theorem dX9_winner_19 : decode cX9_winner 19 = .ok (.getfield 19, 3) := by decide +kernel
theorem dX9_winner_22 : decode cX9_winner 22 = .ok (.getfield 144, 3) := by decide +kernel
theorem dX9_winner_25 : decode cX9_winner 25 = .ok (.aload_n 0, 1) := by decide +kernel
theorem dX9_winner_26 : decode cX9_winner 26 = .ok (.getfield 19, 3) := by decide +kernel
theorem dX9_winner_29 : decode cX9_winner 29 = .ok (.getfield 128, 3) := by decide +kernel
theorem dX9_winner_32 : decode cX9_winner 32 = .ok (.invokevirtual 198, 3) := by decide +kernel
theorem dX9_winner_35 : decode cX9_winner 35 = .ok (.ifCond .eq 7, 3) := by decide +kernel
theorem dX9_winner_38 : decode cX9_winner 38 = .ok (.iconst 0, 1) := by decide +kernel
theorem dX9_winner_39 : decode cX9_winner 39 = .ok (.goto 4, 3) := by decide +kernel
theorem dX9_winner_42 : decode cX9_winner 42 = .ok (.iconst 1, 1) := by decide +kernel
theorem dX9_winner_43 : decode cX9_winner 43 = .ok (.ireturn, 1) := by decide +kernel
set_option maxRecDepth 20000 in
theorem ggX9_winningRound_X0_saturate : GoodIn wsX9_winningRound wsX0_saturate := goodIn_r _ [12, 13, 14, 15, 16, 11, 17, 18, 19, 20, 21, 22, 23, 24, 25, 26, 27, 28, 29, 30, 31, 32, 33, 34, 35, 36, 37, 38, 39, 40, 41, 42, 43, 44, 45, 46, 47, 48, 49, 50, 51, 52, 53, 54, 55, 56, 57, 58, 59, 60, 61, 62, 63, 64, 65, 66, 67, 68, 69, 70, 71, 72, 73, 74, 98, 99, 100, 101, 102, 103, 104, 105, 106, 107, 108, 109, 110, 111] (by decide +kernel) (by decide +kernel)
set_option maxRecDepth 20000 in
theorem gX9_winningRound_X0_saturate : GoodIn wsX9_winningRound (wsV RX9 195 RX0 yX0_saturate wsX0_saturate) := goodIn_app (goodIn_of _ (by decide +kernel)) ggX9_winningRound_X0_saturate
set_option maxRecDepth 20000 in
theorem ggX9_winningRound_X0_begin : GoodIn wsX9_winningRound wsX0_begin := goodIn_r _ [17, 18, 19, 20, 21, 22, 23, 24, 25, 26, 27, 28, 29, 30, 31, 32, 98, 99, 100, 101, 102, 103, 104, 105, 106, 107, 108, 109, 110, 111] (by decide +kernel) (by decide +kernel)
set_option maxRecDepth 20000 in
theorem gX9_winningRound_X0_begin : GoodIn wsX9_winningRound (wsV RX9 202 RX0 yX0_begin wsX0_begin) := goodIn_app (goodIn_of _ (by decide +kernel)) ggX9_winningRound_X0_begin
set_option maxRecDepth 20000 in
theorem ggX9_winningRound_X0_accepts : GoodIn wsX9_winningRound wsX0_accepts := goodIn_r _ [79, 21, 24, 80, 81, 82, 83, 84, 85, 86, 11, 87, 23, 19, 26, 27, 28, 29, 30, 31, 32, 88, 89, 98, 99, 100, 101, 102, 103, 104, 105, 106, 107, 108, 109, 110, 111] (by decide +kernel) (by decide +kernel)
set_option maxRecDepth 20000 in
theorem gX9_winningRound_X0_accepts : GoodIn wsX9_winningRound (wsV RX9 198 RX0 yX0_accepts wsX0_accepts) := goodIn_app (goodIn_of _ (by decide +kernel)) ggX9_winningRound_X0_accepts
set_option maxRecDepth 20000 in
theorem ggX9_winningRound_X0_advance : GoodIn wsX9_winningRound wsX0_advance := goodIn_r _ [36, 21, 22, 23, 20, 19, 37, 38, 39, 40, 18, 26, 27, 28, 29, 41, 42, 43, 11, 44, 24, 25, 45, 46, 30, 31, 32, 47, 48, 49, 50, 51, 52, 53, 54, 55, 56, 57, 58, 59, 60, 61, 62, 63, 64, 65, 66, 67, 68, 69, 70, 71, 72, 73, 74, 98, 99, 100, 101, 102, 103, 104, 105, 106, 107, 108, 109, 110, 111] (by decide +kernel) (by decide +kernel)
set_option maxRecDepth 20000 in
theorem gX9_winningRound_X0_advance : GoodIn wsX9_winningRound (wsV RX9 208 RX0 yX0_advance wsX0_advance) := goodIn_app (goodIn_of _ (by decide +kernel)) ggX9_winningRound_X0_advance
theorem dX9_winningRound_0 : decode cX9_winningRound 0 = .ok (.aload_n 0, 1) := by decide +kernel
theorem dX9_winningRound_1 : decode cX9_winningRound 1 = .ok (.getfield 38, 3) := by decide +kernel
theorem dX9_winningRound_4 : decode cX9_winningRound 4 = .ok (.invokevirtual 195, 3) := by decide +kernel
theorem dX9_winningRound_7 : decode cX9_winningRound 7 = .ok (.aload_n 0, 1) := by decide +kernel
theorem dX9_winningRound_8 : decode cX9_winningRound 8 = .ok (.getfield 42, 3) := by decide +kernel
theorem dX9_winningRound_11 : decode cX9_winningRound 11 = .ok (.invokevirtual 202, 3) := by decide +kernel
theorem dX9_winningRound_14 : decode cX9_winningRound 14 = .ok (.iconst 0, 1) := by decide +kernel
theorem dX9_winningRound_15 : decode cX9_winningRound 15 = .ok (.istore_n 1, 1) := by decide +kernel
theorem dX9_winningRound_16 : decode cX9_winningRound 16 = .ok (.iload_n 1, 1) := by decide +kernel
theorem dX9_winningRound_17 : decode cX9_winningRound 17 = .ok (.aload_n 0, 1) := by decide +kernel
theorem dX9_winningRound_18 : decode cX9_winningRound 18 = .ok (.getfield 38, 3) := by decide +kernel
theorem dX9_winningRound_21 : decode cX9_winningRound 21 = .ok (.getfield 205, 3) := by decide +kernel
theorem dX9_winningRound_24 : decode cX9_winningRound 24 = .ok (.if_icmp .gt 50, 3) := by decide +kernel
theorem dX9_winningRound_27 : decode cX9_winningRound 27 = .ok (.aload_n 0, 1) := by decide +kernel
theorem dX9_winningRound_28 : decode cX9_winningRound 28 = .ok (.getfield 42, 3) := by decide +kernel
theorem dX9_winningRound_31 : decode cX9_winningRound 31 = .ok (.aload_n 0, 1) := by decide +kernel
theorem dX9_winningRound_32 : decode cX9_winningRound 32 = .ok (.getfield 19, 3) := by decide +kernel
theorem dX9_winningRound_35 : decode cX9_winningRound 35 = .ok (.getfield 141, 3) := by decide +kernel
theorem dX9_winningRound_38 : decode cX9_winningRound 38 = .ok (.aload_n 0, 1) := by decide +kernel
theorem dX9_winningRound_39 : decode cX9_winningRound 39 = .ok (.getfield 19, 3) := by decide +kernel
theorem dX9_winningRound_42 : decode cX9_winningRound 42 = .ok (.getfield 144, 3) := by decide +kernel
theorem dX9_winningRound_45 : decode cX9_winningRound 45 = .ok (.aload_n 0, 1) := by decide +kernel
theorem dX9_winningRound_46 : decode cX9_winningRound 46 = .ok (.getfield 19, 3) := by decide +kernel
theorem dX9_winningRound_49 : decode cX9_winningRound 49 = .ok (.getfield 128, 3) := by decide +kernel
theorem dX9_winningRound_52 : decode cX9_winningRound 52 = .ok (.invokevirtual 198, 3) := by decide +kernel
theorem dX9_winningRound_55 : decode cX9_winningRound 55 = .ok (.ifCond .eq 5, 3) := by decide +kernel
theorem dX9_winningRound_58 : decode cX9_winningRound 58 = .ok (.iload_n 1, 1) := by decide +kernel
theorem dX9_winningRound_59 : decode cX9_winningRound 59 = .ok (.ireturn, 1) := by decide +kernel
theorem dX9_winningRound_60 : decode cX9_winningRound 60 = .ok (.aload_n 0, 1) := by decide +kernel
theorem dX9_winningRound_61 : decode cX9_winningRound 61 = .ok (.getfield 42, 3) := by decide +kernel
theorem dX9_winningRound_64 : decode cX9_winningRound 64 = .ok (.invokevirtual 208, 3) := by decide +kernel
theorem dX9_winningRound_67 : decode cX9_winningRound 67 = .ok (.pop, 1) := by decide +kernel
theorem dX9_winningRound_68 : decode cX9_winningRound 68 = .ok (.iinc 1 1, 3) := by decide +kernel
theorem dX9_winningRound_71 : decode cX9_winningRound 71 = .ok (.goto (-55), 3) := by decide +kernel
theorem dX9_winningRound_74 : decode cX9_winningRound 74 = .ok (.bipush (-4), 2) := by decide +kernel
theorem dX9_winningRound_76 : decode cX9_winningRound 76 = .ok (.ireturn, 1) := by decide +kernel
set_option maxRecDepth 20000 in
theorem ggX9_distance_X0_saturate : GoodIn wsX9_distance wsX0_saturate := goodIn_r _ [10, 11, 12, 13, 14, 9, 15, 16, 17, 18, 19, 20, 21, 22, 23, 24, 25, 26, 27, 28, 29, 30, 31, 32, 33, 34, 35, 36, 37, 38, 39, 40, 41, 42, 43, 44, 45, 46, 47, 48, 49, 50, 51, 52, 53, 54, 55, 56, 57, 58, 59, 60, 61, 62, 63, 64, 65, 66, 67, 68, 69, 70, 71, 72, 143, 144, 145, 146, 147, 134, 135, 136, 137, 138, 139, 140, 141, 142] (by decide +kernel) (by decide +kernel)
set_option maxRecDepth 20000 in
theorem gX9_distance_X0_saturate : GoodIn wsX9_distance (wsV RX9 195 RX0 yX0_saturate wsX0_saturate) := goodIn_app (goodIn_of _ (by decide +kernel)) ggX9_distance_X0_saturate
set_option maxRecDepth 20000 in
theorem ggX9_distance_X9_soonestTarget : GoodIn wsX9_distance wsX9_soonestTarget := goodIn_r _ [76, 1, 2, 77, 78, 79, 9, 80, 19, 22, 81, 82, 83, 84, 85, 86, 87, 88, 21, 17, 24, 25, 26, 27, 28, 29, 30, 89, 90, 91, 92, 93, 94, 95, 96, 97, 68, 69, 70, 71, 72, 98, 99, 100, 101, 102, 103, 104, 105, 106, 107, 108, 109, 46, 47, 48, 110, 111, 112, 113, 55, 56, 114, 115, 116, 117, 61, 62, 118, 119, 120, 121, 58, 59, 122, 123, 124, 125, 126, 127, 128, 129, 130, 131, 132, 133, 143, 144, 145, 146, 147, 134, 135, 136, 137, 138, 139, 140, 141, 142] (by decide +kernel) (by decide +kernel)
set_option maxRecDepth 20000 in
theorem gX9_distance_X9_soonestTarget : GoodIn wsX9_distance (wsV RX9 212 RX9 yX9_soonestTarget wsX9_soonestTarget) := goodIn_app (goodIn_of _ (by decide +kernel)) ggX9_distance_X9_soonestTarget
theorem dX9_distance_0 : decode cX9_distance 0 = .ok (.aload_n 0, 1) := by decide +kernel
theorem dX9_distance_1 : decode cX9_distance 1 = .ok (.getfield 38, 3) := by decide +kernel
theorem dX9_distance_4 : decode cX9_distance 4 = .ok (.invokevirtual 195, 3) := by decide +kernel
theorem dX9_distance_7 : decode cX9_distance 7 = .ok (.aload_n 0, 1) := by decide +kernel
theorem dX9_distance_8 : decode cX9_distance 8 = .ok (.aload_n 0, 1) := by decide +kernel
theorem dX9_distance_9 : decode cX9_distance 9 = .ok (.getfield 19, 3) := by decide +kernel
theorem dX9_distance_12 : decode cX9_distance 12 = .ok (.getfield 141, 3) := by decide +kernel
theorem dX9_distance_15 : decode cX9_distance 15 = .ok (.aload_n 0, 1) := by decide +kernel
theorem dX9_distance_16 : decode cX9_distance 16 = .ok (.getfield 19, 3) := by decide +kernel
theorem dX9_distance_19 : decode cX9_distance 19 = .ok (.getfield 144, 3) := by decide +kernel
theorem dX9_distance_22 : decode cX9_distance 22 = .ok (.aload_n 0, 1) := by decide +kernel
theorem dX9_distance_23 : decode cX9_distance 23 = .ok (.getfield 19, 3) := by decide +kernel
theorem dX9_distance_26 : decode cX9_distance 26 = .ok (.getfield 128, 3) := by decide +kernel
theorem dX9_distance_29 : decode cX9_distance 29 = .ok (.bipush 7, 2) := by decide +kernel
theorem dX9_distance_31 : decode cX9_distance 31 = .ok (.invokevirtual 212, 3) := by decide +kernel
theorem dX9_distance_34 : decode cX9_distance 34 = .ok (.ireturn, 1) := by decide +kernel
set_option maxRecDepth 20000 in
theorem ggX9_bestRule_X1_owner : GoodIn wsX9_bestRule wsX1_owner := goodIn_r _ [12, 13, 14, 15, 16, 150, 151, 152, 153, 154, 155, 156, 157, 158] (by decide +kernel) (by decide +kernel)
set_option maxRecDepth 20000 in
theorem gX9_bestRule_X1_owner : GoodIn wsX9_bestRule (wsV RX9 110 RX1 yX1_owner wsX1_owner) := goodIn_app (goodIn_of _ (by decide +kernel)) ggX9_bestRule_X1_owner
set_option maxRecDepth 20000 in
theorem ggX9_bestRule_X0_saturate : GoodIn wsX9_bestRule wsX0_saturate := goodIn_r _ [21, 22, 23, 24, 25, 20, 26, 27, 28, 29, 30, 31, 32, 33, 34, 35, 36, 37, 38, 14, 15, 16, 39, 40, 41, 42, 43, 44, 45, 46, 47, 48, 49, 50, 51, 52, 53, 54, 55, 56, 57, 58, 59, 60, 61, 62, 63, 64, 65, 66, 67, 68, 69, 70, 71, 72, 73, 74, 75, 9, 10, 11, 12, 13, 159, 160, 161, 162, 163, 150, 151, 152, 153, 154, 155, 156, 157, 158] (by decide +kernel) (by decide +kernel)
set_option maxRecDepth 20000 in
theorem gX9_bestRule_X0_saturate : GoodIn wsX9_bestRule (wsV RX9 195 RX0 yX0_saturate wsX0_saturate) := goodIn_app (goodIn_of _ (by decide +kernel)) ggX9_bestRule_X0_saturate
set_option maxRecDepth 20000 in
theorem ggX9_bestRule_X1_isPlayable : GoodIn wsX9_bestRule wsX1_isPlayable := goodIn_r _ [79, 80, 81, 82, 83, 84, 85, 86, 87, 36, 37, 38, 88, 54, 55, 56, 150, 151, 152, 153, 154, 155, 156, 157, 158] (by decide +kernel) (by decide +kernel)
set_option maxRecDepth 20000 in
theorem gX9_bestRule_X1_isPlayable : GoodIn wsX9_bestRule (wsV RX9 158 RX1 yX1_isPlayable wsX1_isPlayable) := goodIn_app (goodIn_of _ (by decide +kernel)) ggX9_bestRule_X1_isPlayable
set_option maxRecDepth 20000 in
theorem ggX9_bestRule_X5_next : GoodIn wsX9_bestRule wsX5_next := goodIn_r _ [64] (by decide +kernel) (by decide +kernel)
set_option maxRecDepth 20000 in
theorem gX9_bestRule_X5_next : GoodIn wsX9_bestRule (va_wsS RX9 164 yX5_next wsX5_next) := goodIn_app (goodIn_of _ (by decide +kernel)) ggX9_bestRule_X5_next
set_option maxRecDepth 20000 in
theorem ggX9_bestRule_X7_stackAfter : GoodIn wsX9_bestRule wsX7_stackAfter := goodIn_r _ [92, 93, 69, 55, 70, 94, 95, 85, 96, 97, 66, 67] (by decide +kernel) (by decide +kernel)
set_option maxRecDepth 20000 in
theorem gX9_bestRule_X7_stackAfter : GoodIn wsX9_bestRule (va_wsS RX9 167 yX7_stackAfter wsX7_stackAfter) := goodIn_app (goodIn_of _ (by decide +kernel)) ggX9_bestRule_X7_stackAfter
set_option maxRecDepth 20000 in
theorem ggX9_bestRule_X7_heightAfter : GoodIn wsX9_bestRule wsX7_heightAfter := goodIn_r _ [100, 97, 66, 55, 67, 93, 69, 70] (by decide +kernel) (by decide +kernel)
set_option maxRecDepth 20000 in
theorem gX9_bestRule_X7_heightAfter : GoodIn wsX9_bestRule (va_wsS RX9 161 yX7_heightAfter wsX7_heightAfter) := goodIn_app (goodIn_of _ (by decide +kernel)) ggX9_bestRule_X7_heightAfter
set_option maxRecDepth 20000 in
theorem ggX9_bestRule_X9_soonestTarget : GoodIn wsX9_bestRule wsX9_soonestTarget := goodIn_r _ [104, 3, 1, 105, 106, 107, 20, 108, 30, 33, 109, 84, 85, 86, 110, 111, 112, 113, 32, 28, 35, 36, 37, 38, 14, 15, 16, 114, 115, 116, 117, 118, 119, 120, 121, 122, 9, 10, 11, 12, 13, 123, 124, 125, 126, 127, 128, 129, 130, 131, 132, 133, 134, 54, 55, 56, 135, 136, 137, 138, 63, 64, 139, 91, 92, 93, 69, 70, 94, 95, 96, 97, 66, 67, 140, 99, 100, 141, 142, 143, 144, 145, 146, 147, 148, 149, 159, 160, 161, 162, 163, 150, 151, 152, 153, 154, 155, 156, 157, 158] (by decide +kernel) (by decide +kernel)
set_option maxRecDepth 20000 in
theorem gX9_bestRule_X9_soonestTarget : GoodIn wsX9_bestRule (wsV RX9 212 RX9 yX9_soonestTarget wsX9_soonestTarget) := goodIn_app (goodIn_of _ (by decide +kernel)) ggX9_bestRule_X9_soonestTarget
theorem dX9_bestRule_0 : decode cX9_bestRule 0 = .ok (.aload_n 0, 1) := by decide +kernel
theorem dX9_bestRule_1 : decode cX9_bestRule 1 = .ok (.getfield 19, 3) := by decide +kernel
theorem dX9_bestRule_4 : decode cX9_bestRule 4 = .ok (.aload_n 0, 1) := by decide +kernel
theorem dX9_bestRule_5 : decode cX9_bestRule 5 = .ok (.getfield 19, 3) := by decide +kernel
theorem dX9_bestRule_8 : decode cX9_bestRule 8 = .ok (.getfield 141, 3) := by decide +kernel
theorem dX9_bestRule_11 : decode cX9_bestRule 11 = .ok (.invokevirtual 110, 3) := by decide +kernel
theorem dX9_bestRule_14 : decode cX9_bestRule 14 = .ok (.iconst 1, 1) := by decide +kernel
theorem dX9_bestRule_15 : decode cX9_bestRule 15 = .ok (.if_icmp .ne 6, 3) := by decide +kernel
theorem dX9_bestRule_18 : decode cX9_bestRule 18 = .ok (.bipush (-2), 2) := by decide +kernel
theorem dX9_bestRule_20 : decode cX9_bestRule 20 = .ok (.ireturn, 1) := by decide +kernel
theorem dX9_bestRule_21 : decode cX9_bestRule 21 = .ok (.aload_n 0, 1) := by decide +kernel
theorem dX9_bestRule_22 : decode cX9_bestRule 22 = .ok (.getfield 38, 3) := by decide +kernel
theorem dX9_bestRule_25 : decode cX9_bestRule 25 = .ok (.invokevirtual 195, 3) := by decide +kernel
theorem dX9_bestRule_28 : decode cX9_bestRule 28 = .ok (.bipush (-4), 2) := by decide +kernel
theorem dX9_bestRule_30 : decode cX9_bestRule 30 = .ok (.istore_n 1, 1) := by decide +kernel
theorem dX9_bestRule_31 : decode cX9_bestRule 31 = .ok (.bipush 7, 2) := by decide +kernel
theorem dX9_bestRule_33 : decode cX9_bestRule 33 = .ok (.istore_n 2, 1) := by decide +kernel
theorem dX9_bestRule_34 : decode cX9_bestRule 34 = .ok (.iconst 0, 1) := by decide +kernel
theorem dX9_bestRule_35 : decode cX9_bestRule 35 = .ok (.istore_n 3, 1) := by decide +kernel
theorem dX9_bestRule_36 : decode cX9_bestRule 36 = .ok (.iload_n 3, 1) := by decide +kernel
theorem dX9_bestRule_37 : decode cX9_bestRule 37 = .ok (.aload_n 0, 1) := by decide +kernel
theorem dX9_bestRule_38 : decode cX9_bestRule 38 = .ok (.getfield 19, 3) := by decide +kernel
theorem dX9_bestRule_41 : decode cX9_bestRule 41 = .ok (.getfield 81, 3) := by decide +kernel
theorem dX9_bestRule_44 : decode cX9_bestRule 44 = .ok (.if_icmp .ge 86, 3) := by decide +kernel
theorem dX9_bestRule_47 : decode cX9_bestRule 47 = .ok (.iload_n 2, 1) := by decide +kernel
theorem dX9_bestRule_48 : decode cX9_bestRule 48 = .ok (.ifCond .lt 82, 3) := by decide +kernel
theorem dX9_bestRule_51 : decode cX9_bestRule 51 = .ok (.aload_n 0, 1) := by decide +kernel
theorem dX9_bestRule_52 : decode cX9_bestRule 52 = .ok (.getfield 19, 3) := by decide +kernel
theorem dX9_bestRule_55 : decode cX9_bestRule 55 = .ok (.getfield 154, 3) := by decide +kernel
theorem dX9_bestRule_58 : decode cX9_bestRule 58 = .ok (.iload_n 3, 1) := by decide +kernel
theorem dX9_bestRule_59 : decode cX9_bestRule 59 = .ok (.iaload, 1) := by decide +kernel
theorem dX9_bestRule_60 : decode cX9_bestRule 60 = .ok (.istore 4, 2) := by decide +kernel
theorem dX9_bestRule_62 : decode cX9_bestRule 62 = .ok (.aload_n 0, 1) := by decide +kernel
theorem dX9_bestRule_63 : decode cX9_bestRule 63 = .ok (.getfield 19, 3) := by decide +kernel
theorem dX9_bestRule_66 : decode cX9_bestRule 66 = .ok (.iload 4, 2) := by decide +kernel
theorem dX9_bestRule_68 : decode cX9_bestRule 68 = .ok (.invokevirtual 158, 3) := by decide +kernel
theorem dX9_bestRule_71 : decode cX9_bestRule 71 = .ok (.ifCond .eq 53, 3) := by decide +kernel
theorem dX9_bestRule_74 : decode cX9_bestRule 74 = .ok (.aload_n 0, 1) := by decide +kernel
theorem dX9_bestRule_75 : decode cX9_bestRule 75 = .ok (.iload 4, 2) := by decide +kernel
theorem dX9_bestRule_77 : decode cX9_bestRule 77 = .ok (.invokestatic 164, 3) := by decide +kernel
theorem dX9_bestRule_80 : decode cX9_bestRule 80 = .ok (.aload_n 0, 1) := by decide +kernel
theorem dX9_bestRule_81 : decode cX9_bestRule 81 = .ok (.getfield 19, 3) := by decide +kernel
theorem dX9_bestRule_84 : decode cX9_bestRule 84 = .ok (.getfield 144, 3) := by decide +kernel
theorem dX9_bestRule_87 : decode cX9_bestRule 87 = .ok (.iload 4, 2) := by decide +kernel
theorem dX9_bestRule_89 : decode cX9_bestRule 89 = .ok (.invokestatic 167, 3) := by decide +kernel
theorem dX9_bestRule_92 : decode cX9_bestRule 92 = .ok (.aload_n 0, 1) := by decide +kernel
theorem dX9_bestRule_93 : decode cX9_bestRule 93 = .ok (.getfield 19, 3) := by decide +kernel
theorem dX9_bestRule_96 : decode cX9_bestRule 96 = .ok (.getfield 128, 3) := by decide +kernel
theorem dX9_bestRule_99 : decode cX9_bestRule 99 = .ok (.iload 4, 2) := by decide +kernel
theorem dX9_bestRule_101 : decode cX9_bestRule 101 = .ok (.invokestatic 161, 3) := by decide +kernel
theorem dX9_bestRule_104 : decode cX9_bestRule 104 = .ok (.iload_n 2, 1) := by decide +kernel
theorem dX9_bestRule_105 : decode cX9_bestRule 105 = .ok (.invokevirtual 212, 3) := by decide +kernel
theorem dX9_bestRule_108 : decode cX9_bestRule 108 = .ok (.istore 5, 2) := by decide +kernel
theorem dX9_bestRule_110 : decode cX9_bestRule 110 = .ok (.iload 5, 2) := by decide +kernel
theorem dX9_bestRule_112 : decode cX9_bestRule 112 = .ok (.bipush (-4), 2) := by decide +kernel
theorem dX9_bestRule_114 : decode cX9_bestRule 114 = .ok (.if_icmp .eq 10, 3) := by decide +kernel
theorem dX9_bestRule_117 : decode cX9_bestRule 117 = .ok (.iload_n 3, 1) := by decide +kernel
theorem dX9_bestRule_118 : decode cX9_bestRule 118 = .ok (.istore_n 1, 1) := by decide +kernel
theorem dX9_bestRule_119 : decode cX9_bestRule 119 = .ok (.iload 5, 2) := by decide +kernel
theorem dX9_bestRule_121 : decode cX9_bestRule 121 = .ok (.iconst 1, 1) := by decide +kernel
theorem dX9_bestRule_122 : decode cX9_bestRule 122 = .ok (.isub, 1) := by decide +kernel
theorem dX9_bestRule_123 : decode cX9_bestRule 123 = .ok (.istore_n 2, 1) := by decide +kernel
theorem dX9_bestRule_124 : decode cX9_bestRule 124 = .ok (.iinc 3 1, 3) := by decide +kernel
theorem dX9_bestRule_127 : decode cX9_bestRule 127 = .ok (.goto (-91), 3) := by decide +kernel
theorem dX9_bestRule_130 : decode cX9_bestRule 130 = .ok (.iload_n 1, 1) := by decide +kernel
theorem dX9_bestRule_131 : decode cX9_bestRule 131 = .ok (.ireturn, 1) := by decide +kernel
set_option maxRecDepth 20000 in
theorem ggX9_rounds_X0_saturate : GoodIn wsX9_rounds wsX0_saturate := goodIn_r _ [7, 8, 9, 10, 11, 6, 12, 13, 14, 15, 16, 17, 18, 19, 20, 21, 22, 23, 24, 25, 26, 27, 28, 29, 30, 31, 32, 33, 34, 35, 36, 37, 38, 39, 40, 41, 42, 43, 44, 45, 46, 47, 48, 49, 50, 51, 52, 53, 54, 55, 56, 57, 58, 59, 60, 61, 62, 63, 64, 65, 66, 67, 68, 69, 77, 78, 79, 80, 81, 82, 83, 84, 85, 86, 87, 88, 89, 90] (by decide +kernel) (by decide +kernel)
set_option maxRecDepth 20000 in
theorem gX9_rounds_X0_saturate : GoodIn wsX9_rounds (wsV RX9 195 RX0 yX0_saturate wsX0_saturate) := goodIn_app (goodIn_of _ (by decide +kernel)) ggX9_rounds_X0_saturate
theorem dX9_rounds_0 : decode cX9_rounds 0 = .ok (.aload_n 0, 1) := by decide +kernel
theorem dX9_rounds_1 : decode cX9_rounds 1 = .ok (.getfield 38, 3) := by decide +kernel
theorem dX9_rounds_4 : decode cX9_rounds 4 = .ok (.invokevirtual 195, 3) := by decide +kernel
theorem dX9_rounds_7 : decode cX9_rounds 7 = .ok (.aload_n 0, 1) := by decide +kernel
theorem dX9_rounds_8 : decode cX9_rounds 8 = .ok (.getfield 38, 3) := by decide +kernel
theorem dX9_rounds_11 : decode cX9_rounds 11 = .ok (.getfield 205, 3) := by decide +kernel
theorem dX9_rounds_14 : decode cX9_rounds 14 = .ok (.ireturn, 1) := by decide +kernel
set_option maxRecDepth 20000 in
theorem ggX9_forcingSetCount_X1_hasState : GoodIn wsX9_forcingSetCount wsX1_hasState := goodIn_r _ [7, 8, 96, 97, 98, 99, 100, 101, 102, 103, 104] (by decide +kernel) (by decide +kernel)
set_option maxRecDepth 20000 in
theorem gX9_forcingSetCount_X1_hasState : GoodIn wsX9_forcingSetCount (wsV RX9 107 RX1 yX1_hasState wsX1_hasState) := goodIn_app (goodIn_of _ (by decide +kernel)) ggX9_forcingSetCount_X1_hasState
set_option maxRecDepth 20000 in
theorem ggX9_forcingSetCount_X1_hasSymbol : GoodIn wsX9_forcingSetCount wsX1_hasSymbol := goodIn_r _ [12, 13, 96, 97, 98, 99, 100, 101, 102, 103, 104] (by decide +kernel) (by decide +kernel)
set_option maxRecDepth 20000 in
theorem gX9_forcingSetCount_X1_hasSymbol : GoodIn wsX9_forcingSetCount (wsV RX9 138 RX1 yX1_hasSymbol wsX1_hasSymbol) := goodIn_app (goodIn_of _ (by decide +kernel)) ggX9_forcingSetCount_X1_hasSymbol
set_option maxRecDepth 20000 in
theorem ggX9_forcingSetCount_X0_saturate : GoodIn wsX9_forcingSetCount wsX0_saturate := goodIn_r _ [18, 19, 20, 21, 22, 17, 23, 24, 25, 26, 27, 28, 29, 30, 31, 32, 33, 34, 35, 36, 37, 38, 39, 40, 41, 42, 43, 44, 45, 46, 47, 48, 49, 50, 51, 52, 53, 54, 55, 56, 57, 58, 59, 60, 61, 62, 63, 64, 65, 66, 67, 68, 69, 70, 71, 72, 73, 74, 75, 76, 77, 6, 78, 79, 105, 106, 107, 108, 109, 96, 97, 98, 99, 100, 101, 102, 103, 104] (by decide +kernel) (by decide +kernel)
set_option maxRecDepth 20000 in
theorem gX9_forcingSetCount_X0_saturate : GoodIn wsX9_forcingSetCount (wsV RX9 195 RX0 yX0_saturate wsX0_saturate) := goodIn_app (goodIn_of _ (by decide +kernel)) ggX9_forcingSetCount_X0_saturate
set_option maxRecDepth 20000 in
theorem ggX9_forcingSetCount_X0_minimalSets : GoodIn wsX9_forcingSetCount wsX0_minimalSets := goodIn_r _ [83, 25, 32, 33, 34, 35, 84, 85, 17, 86, 36, 37, 38, 87, 88, 105, 106, 107, 108, 109] (by decide +kernel) (by decide +kernel)
set_option maxRecDepth 20000 in
theorem gX9_forcingSetCount_X0_minimalSets : GoodIn wsX9_forcingSetCount (wsV RX9 216 RX0 yX0_minimalSets wsX0_minimalSets) := goodIn_app (goodIn_of _ (by decide +kernel)) ggX9_forcingSetCount_X0_minimalSets
theorem dX9_forcingSetCount_0 : decode cX9_forcingSetCount 0 = .ok (.aload_n 0, 1) := by decide +kernel
theorem dX9_forcingSetCount_1 : decode cX9_forcingSetCount 1 = .ok (.getfield 19, 3) := by decide +kernel
theorem dX9_forcingSetCount_4 : decode cX9_forcingSetCount 4 = .ok (.iload_n 1, 1) := by decide +kernel
theorem dX9_forcingSetCount_5 : decode cX9_forcingSetCount 5 = .ok (.invokevirtual 107, 3) := by decide +kernel
theorem dX9_forcingSetCount_8 : decode cX9_forcingSetCount 8 = .ok (.ifCond .eq 14, 3) := by decide +kernel
theorem dX9_forcingSetCount_11 : decode cX9_forcingSetCount 11 = .ok (.aload_n 0, 1) := by decide +kernel
theorem dX9_forcingSetCount_12 : decode cX9_forcingSetCount 12 = .ok (.getfield 19, 3) := by decide +kernel
theorem dX9_forcingSetCount_15 : decode cX9_forcingSetCount 15 = .ok (.iload_n 2, 1) := by decide +kernel
theorem dX9_forcingSetCount_16 : decode cX9_forcingSetCount 16 = .ok (.invokevirtual 138, 3) := by decide +kernel
theorem dX9_forcingSetCount_19 : decode cX9_forcingSetCount 19 = .ok (.ifCond .ne 5, 3) := by decide +kernel
theorem dX9_forcingSetCount_22 : decode cX9_forcingSetCount 22 = .ok (.iconst (-1), 1) := by decide +kernel
theorem dX9_forcingSetCount_23 : decode cX9_forcingSetCount 23 = .ok (.ireturn, 1) := by decide +kernel
theorem dX9_forcingSetCount_24 : decode cX9_forcingSetCount 24 = .ok (.aload_n 0, 1) := by decide +kernel
theorem dX9_forcingSetCount_25 : decode cX9_forcingSetCount 25 = .ok (.getfield 38, 3) := by decide +kernel
theorem dX9_forcingSetCount_28 : decode cX9_forcingSetCount 28 = .ok (.invokevirtual 195, 3) := by decide +kernel
theorem dX9_forcingSetCount_31 : decode cX9_forcingSetCount 31 = .ok (.aload_n 0, 1) := by decide +kernel
theorem dX9_forcingSetCount_32 : decode cX9_forcingSetCount 32 = .ok (.getfield 38, 3) := by decide +kernel
theorem dX9_forcingSetCount_35 : decode cX9_forcingSetCount 35 = .ok (.iload_n 1, 1) := by decide +kernel
theorem dX9_forcingSetCount_36 : decode cX9_forcingSetCount 36 = .ok (.iload_n 2, 1) := by decide +kernel
theorem dX9_forcingSetCount_37 : decode cX9_forcingSetCount 37 = .ok (.invokevirtual 216, 3) := by decide +kernel
theorem dX9_forcingSetCount_40 : decode cX9_forcingSetCount 40 = .ok (.ireturn, 1) := by decide +kernel
set_option maxRecDepth 20000 in
theorem ggX9_forcingSet_X1_hasState : GoodIn wsX9_forcingSet wsX1_hasState := goodIn_r _ [7, 8, 96, 97, 98, 99, 100, 101, 102, 103, 104] (by decide +kernel) (by decide +kernel)
set_option maxRecDepth 20000 in
theorem gX9_forcingSet_X1_hasState : GoodIn wsX9_forcingSet (wsV RX9 107 RX1 yX1_hasState wsX1_hasState) := goodIn_app (goodIn_of _ (by decide +kernel)) ggX9_forcingSet_X1_hasState
set_option maxRecDepth 20000 in
theorem ggX9_forcingSet_X1_hasSymbol : GoodIn wsX9_forcingSet wsX1_hasSymbol := goodIn_r _ [12, 13, 96, 97, 98, 99, 100, 101, 102, 103, 104] (by decide +kernel) (by decide +kernel)
set_option maxRecDepth 20000 in
theorem gX9_forcingSet_X1_hasSymbol : GoodIn wsX9_forcingSet (wsV RX9 138 RX1 yX1_hasSymbol wsX1_hasSymbol) := goodIn_app (goodIn_of _ (by decide +kernel)) ggX9_forcingSet_X1_hasSymbol
set_option maxRecDepth 20000 in
theorem ggX9_forcingSet_X0_saturate : GoodIn wsX9_forcingSet wsX0_saturate := goodIn_r _ [18, 19, 20, 21, 22, 17, 23, 24, 25, 26, 27, 28, 29, 30, 31, 32, 33, 34, 35, 36, 37, 38, 39, 40, 41, 42, 43, 44, 45, 46, 47, 48, 49, 50, 51, 52, 53, 54, 55, 56, 57, 58, 59, 60, 61, 62, 63, 64, 65, 66, 67, 68, 69, 70, 71, 72, 73, 74, 75, 76, 77, 6, 78, 79, 105, 106, 107, 108, 109, 96, 97, 98, 99, 100, 101, 102, 103, 104] (by decide +kernel) (by decide +kernel)
set_option maxRecDepth 20000 in
theorem gX9_forcingSet_X0_saturate : GoodIn wsX9_forcingSet (wsV RX9 195 RX0 yX0_saturate wsX0_saturate) := goodIn_app (goodIn_of _ (by decide +kernel)) ggX9_forcingSet_X0_saturate
set_option maxRecDepth 20000 in
theorem ggX9_forcingSet_X0_minimalSet : GoodIn wsX9_forcingSet wsX0_minimalSet := goodIn_r _ [83, 25, 32, 33, 34, 35, 84, 85, 17, 86, 36, 37, 38, 87, 88, 105, 106, 107, 108, 109] (by decide +kernel) (by decide +kernel)
set_option maxRecDepth 20000 in
theorem gX9_forcingSet_X0_minimalSet : GoodIn wsX9_forcingSet (wsV RX9 219 RX0 yX0_minimalSet wsX0_minimalSet) := goodIn_app (goodIn_of _ (by decide +kernel)) ggX9_forcingSet_X0_minimalSet
theorem dX9_forcingSet_0 : decode cX9_forcingSet 0 = .ok (.aload_n 0, 1) := by decide +kernel
theorem dX9_forcingSet_1 : decode cX9_forcingSet 1 = .ok (.getfield 19, 3) := by decide +kernel
theorem dX9_forcingSet_4 : decode cX9_forcingSet 4 = .ok (.iload_n 1, 1) := by decide +kernel
theorem dX9_forcingSet_5 : decode cX9_forcingSet 5 = .ok (.invokevirtual 107, 3) := by decide +kernel
theorem dX9_forcingSet_8 : decode cX9_forcingSet 8 = .ok (.ifCond .eq 18, 3) := by decide +kernel
theorem dX9_forcingSet_11 : decode cX9_forcingSet 11 = .ok (.aload_n 0, 1) := by decide +kernel
theorem dX9_forcingSet_12 : decode cX9_forcingSet 12 = .ok (.getfield 19, 3) := by decide +kernel
theorem dX9_forcingSet_15 : decode cX9_forcingSet 15 = .ok (.iload_n 2, 1) := by decide +kernel
theorem dX9_forcingSet_16 : decode cX9_forcingSet 16 = .ok (.invokevirtual 138, 3) := by decide +kernel
theorem dX9_forcingSet_19 : decode cX9_forcingSet 19 = .ok (.ifCond .eq 7, 3) := by decide +kernel
theorem dX9_forcingSet_22 : decode cX9_forcingSet 22 = .ok (.iload_n 3, 1) := by decide +kernel
theorem dX9_forcingSet_23 : decode cX9_forcingSet 23 = .ok (.ifCond .ge 5, 3) := by decide +kernel
theorem dX9_forcingSet_26 : decode cX9_forcingSet 26 = .ok (.iconst (-1), 1) := by decide +kernel
theorem dX9_forcingSet_27 : decode cX9_forcingSet 27 = .ok (.ireturn, 1) := by decide +kernel
theorem dX9_forcingSet_28 : decode cX9_forcingSet 28 = .ok (.aload_n 0, 1) := by decide +kernel
theorem dX9_forcingSet_29 : decode cX9_forcingSet 29 = .ok (.getfield 38, 3) := by decide +kernel
theorem dX9_forcingSet_32 : decode cX9_forcingSet 32 = .ok (.invokevirtual 195, 3) := by decide +kernel
theorem dX9_forcingSet_35 : decode cX9_forcingSet 35 = .ok (.aload_n 0, 1) := by decide +kernel
theorem dX9_forcingSet_36 : decode cX9_forcingSet 36 = .ok (.getfield 38, 3) := by decide +kernel
theorem dX9_forcingSet_39 : decode cX9_forcingSet 39 = .ok (.iload_n 1, 1) := by decide +kernel
theorem dX9_forcingSet_40 : decode cX9_forcingSet 40 = .ok (.iload_n 2, 1) := by decide +kernel
theorem dX9_forcingSet_41 : decode cX9_forcingSet 41 = .ok (.iload_n 3, 1) := by decide +kernel
theorem dX9_forcingSet_42 : decode cX9_forcingSet 42 = .ok (.invokevirtual 219, 3) := by decide +kernel
theorem dX9_forcingSet_45 : decode cX9_forcingSet 45 = .ok (.ireturn, 1) := by decide +kernel
set_option maxRecDepth 20000 in
theorem ggX9_winningStacks_X1_hasState : GoodIn wsX9_winningStacks wsX1_hasState := goodIn_r _ [11, 12, 114, 115, 116, 117, 118, 119, 120, 121, 122] (by decide +kernel) (by decide +kernel)
set_option maxRecDepth 20000 in
theorem gX9_winningStacks_X1_hasState : GoodIn wsX9_winningStacks (wsV RX9 107 RX1 yX1_hasState wsX1_hasState) := goodIn_app (goodIn_of _ (by decide +kernel)) ggX9_winningStacks_X1_hasState
set_option maxRecDepth 20000 in
theorem ggX9_winningStacks_X8_fits : GoodIn wsX9_winningStacks wsX8_fits := goodIn_r _ [16, 17, 18, 19, 20, 21] (by decide +kernel) (by decide +kernel)
set_option maxRecDepth 20000 in
theorem gX9_winningStacks_X8_fits : GoodIn wsX9_winningStacks (va_wsS RX9 228 yX8_fits wsX8_fits) := goodIn_app (goodIn_of _ (by decide +kernel)) ggX9_winningStacks_X8_fits
set_option maxRecDepth 20000 in
theorem ggX9_winningStacks_X0_saturate : GoodIn wsX9_winningStacks wsX0_saturate := goodIn_r _ [26, 27, 28, 29, 30, 25, 31, 32, 33, 34, 35, 36, 37, 38, 39, 40, 41, 42, 43, 44, 45, 46, 47, 48, 49, 50, 51, 52, 53, 54, 55, 56, 57, 58, 59, 60, 61, 62, 63, 64, 65, 66, 67, 68, 69, 70, 71, 72, 73, 74, 75, 76, 77, 78, 79, 80, 81, 82, 83, 84, 85, 10, 86, 87, 123, 124, 125, 126, 127, 114, 115, 116, 117, 118, 119, 120, 121, 122] (by decide +kernel) (by decide +kernel)
set_option maxRecDepth 20000 in
theorem gX9_winningStacks_X0_saturate : GoodIn wsX9_winningStacks (wsV RX9 195 RX0 yX0_saturate wsX0_saturate) := goodIn_app (goodIn_of _ (by decide +kernel)) ggX9_winningStacks_X0_saturate
set_option maxRecDepth 20000 in
theorem ggX9_winningStacks_X8_countAccepted : GoodIn wsX9_winningStacks wsX8_countAccepted := goodIn_r _ [91, 92, 93, 94, 95, 96, 97, 15, 98, 99, 100, 52, 53, 54, 101, 102, 103, 25, 104, 35, 38, 37, 33, 40, 41, 42, 43, 44, 45, 46, 105, 106, 128, 129, 114, 115, 116, 117, 118, 119, 120, 121, 122, 123, 124, 125, 126, 127] (by decide +kernel) (by decide +kernel)
set_option maxRecDepth 20000 in
theorem gX9_winningStacks_X8_countAccepted : GoodIn wsX9_winningStacks (wsV RX9 234 RX8 yX8_countAccepted wsX8_countAccepted) := goodIn_app (goodIn_of _ (by decide +kernel)) ggX9_winningStacks_X8_countAccepted
theorem dX9_winningStacks_0 : decode cX9_winningStacks 0 = .ok (.aload_n 0, 1) := by decide +kernel
theorem dX9_winningStacks_1 : decode cX9_winningStacks 1 = .ok (.getfield 19, 3) := by decide +kernel
theorem dX9_winningStacks_4 : decode cX9_winningStacks 4 = .ok (.iload_n 1, 1) := by decide +kernel
theorem dX9_winningStacks_5 : decode cX9_winningStacks 5 = .ok (.invokevirtual 107, 3) := by decide +kernel
theorem dX9_winningStacks_8 : decode cX9_winningStacks 8 = .ok (.ifCond .eq 13, 3) := by decide +kernel
theorem dX9_winningStacks_11 : decode cX9_winningStacks 11 = .ok (.iload_n 2, 1) := by decide +kernel
theorem dX9_winningStacks_12 : decode cX9_winningStacks 12 = .ok (.ifCond .lt 9, 3) := by decide +kernel
theorem dX9_winningStacks_15 : decode cX9_winningStacks 15 = .ok (.iload_n 2, 1) := by decide +kernel
theorem dX9_winningStacks_16 : decode cX9_winningStacks 16 = .ok (.bipush 60, 2) := by decide +kernel
theorem dX9_winningStacks_18 : decode cX9_winningStacks 18 = .ok (.if_icmp .le 7, 3) := by decide +kernel
theorem dX9_winningStacks_21 : decode cX9_winningStacks 21 = .ok (.ldc2_w 223, 3) := by decide +kernel
theorem dX9_winningStacks_24 : decode cX9_winningStacks 24 = .ok (.lreturn, 1) := by decide +kernel
theorem dX9_winningStacks_25 : decode cX9_winningStacks 25 = .ok (.aload_n 0, 1) := by decide +kernel
theorem dX9_winningStacks_26 : decode cX9_winningStacks 26 = .ok (.getfield 19, 3) := by decide +kernel
theorem dX9_winningStacks_29 : decode cX9_winningStacks 29 = .ok (.getfield 225, 3) := by decide +kernel
theorem dX9_winningStacks_32 : decode cX9_winningStacks 32 = .ok (.iload_n 2, 1) := by decide +kernel
theorem dX9_winningStacks_33 : decode cX9_winningStacks 33 = .ok (.invokestatic 228, 3) := by decide +kernel
theorem dX9_winningStacks_36 : decode cX9_winningStacks 36 = .ok (.ifCond .ne 7, 3) := by decide +kernel
theorem dX9_winningStacks_39 : decode cX9_winningStacks 39 = .ok (.ldc2_w 232, 3) := by decide +kernel
theorem dX9_winningStacks_42 : decode cX9_winningStacks 42 = .ok (.lreturn, 1) := by decide +kernel
theorem dX9_winningStacks_43 : decode cX9_winningStacks 43 = .ok (.aload_n 0, 1) := by decide +kernel
theorem dX9_winningStacks_44 : decode cX9_winningStacks 44 = .ok (.getfield 38, 3) := by decide +kernel
theorem dX9_winningStacks_47 : decode cX9_winningStacks 47 = .ok (.invokevirtual 195, 3) := by decide +kernel
theorem dX9_winningStacks_50 : decode cX9_winningStacks 50 = .ok (.aload_n 0, 1) := by decide +kernel
theorem dX9_winningStacks_51 : decode cX9_winningStacks 51 = .ok (.getfield 48, 3) := by decide +kernel
theorem dX9_winningStacks_54 : decode cX9_winningStacks 54 = .ok (.aload_n 0, 1) := by decide +kernel
theorem dX9_winningStacks_55 : decode cX9_winningStacks 55 = .ok (.getfield 38, 3) := by decide +kernel
theorem dX9_winningStacks_58 : decode cX9_winningStacks 58 = .ok (.aload_n 0, 1) := by decide +kernel
theorem dX9_winningStacks_59 : decode cX9_winningStacks 59 = .ok (.getfield 19, 3) := by decide +kernel
theorem dX9_winningStacks_62 : decode cX9_winningStacks 62 = .ok (.iload_n 1, 1) := by decide +kernel
theorem dX9_winningStacks_63 : decode cX9_winningStacks 63 = .ok (.iload_n 2, 1) := by decide +kernel
theorem dX9_winningStacks_64 : decode cX9_winningStacks 64 = .ok (.invokevirtual 234, 3) := by decide +kernel
theorem dX9_winningStacks_67 : decode cX9_winningStacks 67 = .ok (.lreturn, 1) := by decide +kernel
set_option maxRecDepth 20000 in
theorem ggX9_adoptDraft_X1_copyFrom : GoodIn wsX9_adoptDraft wsX1_copyFrom := goodIn_r _ [10, 11, 12, 13, 14, 15, 16, 17, 18, 19, 20, 21, 22, 23, 24, 25, 26, 9, 27, 46, 47, 48, 49, 50, 51, 52, 53, 54] (by decide +kernel) (by decide +kernel)
set_option maxRecDepth 20000 in
theorem gX9_adoptDraft_X1_copyFrom : GoodIn wsX9_adoptDraft (wsV RX9 238 RX1 yX1_copyFrom wsX1_copyFrom) := goodIn_app (goodIn_of _ (by decide +kernel)) ggX9_adoptDraft_X1_copyFrom
set_option maxRecDepth 20000 in
theorem ggX9_adoptDraft_X3_forget : GoodIn wsX9_adoptDraft wsX3_forget := goodIn_r _ [32, 33, 55, 56, 57] (by decide +kernel) (by decide +kernel)
set_option maxRecDepth 20000 in
theorem gX9_adoptDraft_X3_forget : GoodIn wsX9_adoptDraft (wsV RX9 241 RX3 yX3_forget wsX3_forget) := goodIn_app (goodIn_of _ (by decide +kernel)) ggX9_adoptDraft_X3_forget
theorem dX9_adoptDraft_0 : decode cX9_adoptDraft 0 = .ok (.aload_n 0, 1) := by decide +kernel
theorem dX9_adoptDraft_1 : decode cX9_adoptDraft 1 = .ok (.getfield 19, 3) := by decide +kernel
theorem dX9_adoptDraft_4 : decode cX9_adoptDraft 4 = .ok (.aload_n 0, 1) := by decide +kernel
theorem dX9_adoptDraft_5 : decode cX9_adoptDraft 5 = .ok (.getfield 23, 3) := by decide +kernel
theorem dX9_adoptDraft_8 : decode cX9_adoptDraft 8 = .ok (.invokevirtual 238, 3) := by decide +kernel
theorem dX9_adoptDraft_11 : decode cX9_adoptDraft 11 = .ok (.aload_n 0, 1) := by decide +kernel
theorem dX9_adoptDraft_12 : decode cX9_adoptDraft 12 = .ok (.getfield 29, 3) := by decide +kernel
theorem dX9_adoptDraft_15 : decode cX9_adoptDraft 15 = .ok (.invokevirtual 241, 3) := by decide +kernel
theorem dX9_adoptDraft_18 : decode cX9_adoptDraft 18 = .ok (.aload_n 0, 1) := by decide +kernel
theorem dX9_adoptDraft_19 : decode cX9_adoptDraft 19 = .ok (.getfield 38, 3) := by decide +kernel
theorem dX9_adoptDraft_22 : decode cX9_adoptDraft 22 = .ok (.iconst 1, 1) := by decide +kernel
theorem dX9_adoptDraft_23 : decode cX9_adoptDraft 23 = .ok (.putfield 176, 3) := by decide +kernel
theorem dX9_adoptDraft_26 : decode cX9_adoptDraft 26 = .ok (.return_, 1) := by decide +kernel
set_option maxRecDepth 20000 in
theorem ggX9_beginGameChange_X3_keep : GoodIn wsX9_beginGameChange wsX3_keep := goodIn_r _ [9, 10, 11, 12, 13, 14, 15, 16, 17, 18, 19, 20, 21, 22, 23, 24, 25, 26, 27, 28, 29, 30, 31, 32, 33, 34, 35, 36, 37, 38, 51, 52, 53, 54, 55, 56, 57, 58, 59, 60, 61, 62] (by decide +kernel) (by decide +kernel)
set_option maxRecDepth 20000 in
theorem gX9_beginGameChange_X3_keep : GoodIn wsX9_beginGameChange (wsV RX9 131 RX3 yX3_keep wsX3_keep) := goodIn_app (goodIn_of _ (by decide +kernel)) ggX9_beginGameChange_X3_keep
theorem dX9_beginGameChange_0 : decode cX9_beginGameChange 0 = .ok (.aload_n 0, 1) := by decide +kernel
theorem dX9_beginGameChange_1 : decode cX9_beginGameChange 1 = .ok (.getfield 29, 3) := by decide +kernel
theorem dX9_beginGameChange_4 : decode cX9_beginGameChange 4 = .ok (.aload_n 0, 1) := by decide +kernel
theorem dX9_beginGameChange_5 : decode cX9_beginGameChange 5 = .ok (.getfield 19, 3) := by decide +kernel
theorem dX9_beginGameChange_8 : decode cX9_beginGameChange 8 = .ok (.invokevirtual 131, 3) := by decide +kernel
theorem dX9_beginGameChange_11 : decode cX9_beginGameChange 11 = .ok (.aload_n 0, 1) := by decide +kernel
theorem dX9_beginGameChange_12 : decode cX9_beginGameChange 12 = .ok (.getfield 38, 3) := by decide +kernel
theorem dX9_beginGameChange_15 : decode cX9_beginGameChange 15 = .ok (.iconst 1, 1) := by decide +kernel
theorem dX9_beginGameChange_16 : decode cX9_beginGameChange 16 = .ok (.putfield 176, 3) := by decide +kernel
theorem dX9_beginGameChange_19 : decode cX9_beginGameChange 19 = .ok (.return_, 1) := by decide +kernel
set_option maxRecDepth 20000 in
theorem ggX9_soonestTarget_X0_accepts : GoodIn wsX9_soonestTarget wsX0_accepts := goodIn_r _ [7, 8, 9, 10, 11, 12, 13, 14, 15, 16, 6, 17, 18, 19, 20, 21, 22, 23, 24, 25, 26, 27, 28, 86, 87, 88, 89, 90, 91, 92, 93, 94, 95, 96, 97, 98, 99] (by decide +kernel) (by decide +kernel)
set_option maxRecDepth 20000 in
theorem gX9_soonestTarget_X0_accepts : GoodIn wsX9_soonestTarget (wsV RX9 198 RX0 yX0_accepts wsX0_accepts) := goodIn_app (goodIn_of _ (by decide +kernel)) ggX9_soonestTarget_X0_accepts
set_option maxRecDepth 20000 in
theorem ggX9_soonestTarget_X6_movesFrom : GoodIn wsX9_soonestTarget wsX6_movesFrom := goodIn_r _ [31, 32, 24, 25, 26, 33, 11, 12, 13, 34, 21, 22, 23, 35, 36, 37, 38, 39, 40, 41, 42, 30, 43, 44, 45, 46, 47, 48, 49, 50, 51, 52, 53, 54, 55, 56, 57, 58, 59, 60, 61, 62, 63, 64, 65, 66, 67, 68, 69, 70, 71, 72, 73, 74, 75, 76, 77, 29, 78, 91, 92, 93, 94, 95, 96, 97, 98, 99] (by decide +kernel) (by decide +kernel)
set_option maxRecDepth 20000 in
theorem gX9_soonestTarget_X6_movesFrom_n244 : GoodIn wsX9_soonestTarget (wsX6_movesFrom) := ggX9_soonestTarget_X6_movesFrom
theorem dX9_soonestTarget_0 : decode cX9_soonestTarget 0 = .ok (.aload_n 0, 1) := by decide +kernel
theorem dX9_soonestTarget_1 : decode cX9_soonestTarget 1 = .ok (.getfield 38, 3) := by decide +kernel
theorem dX9_soonestTarget_4 : decode cX9_soonestTarget 4 = .ok (.iload_n 1, 1) := by decide +kernel
theorem dX9_soonestTarget_5 : decode cX9_soonestTarget 5 = .ok (.lload_n 2, 1) := by decide +kernel
theorem dX9_soonestTarget_6 : decode cX9_soonestTarget 6 = .ok (.iload 4, 2) := by decide +kernel
theorem dX9_soonestTarget_8 : decode cX9_soonestTarget 8 = .ok (.invokevirtual 198, 3) := by decide +kernel
theorem dX9_soonestTarget_11 : decode cX9_soonestTarget 11 = .ok (.ifCond .ne 6, 3) := by decide +kernel
theorem dX9_soonestTarget_14 : decode cX9_soonestTarget 14 = .ok (.bipush (-4), 2) := by decide +kernel
theorem dX9_soonestTarget_16 : decode cX9_soonestTarget 16 = .ok (.ireturn, 1) := by decide +kernel
theorem dX9_soonestTarget_17 : decode cX9_soonestTarget 17 = .ok (.aload_n 0, 1) := by decide +kernel
theorem dX9_soonestTarget_18 : decode cX9_soonestTarget 18 = .ok (.getfield 19, 3) := by decide +kernel
theorem dX9_soonestTarget_21 : decode cX9_soonestTarget 21 = .ok (.iload_n 1, 1) := by decide +kernel
theorem dX9_soonestTarget_22 : decode cX9_soonestTarget 22 = .ok (.lload_n 2, 1) := by decide +kernel
theorem dX9_soonestTarget_23 : decode cX9_soonestTarget 23 = .ok (.iload 4, 2) := by decide +kernel
theorem dX9_soonestTarget_25 : decode cX9_soonestTarget 25 = .ok (.iload 5, 2) := by decide +kernel
theorem dX9_soonestTarget_27 : decode cX9_soonestTarget 27 = .ok (.invokestatic 244, 3) := by decide +kernel
theorem dX9_soonestTarget_30 : decode cX9_soonestTarget 30 = .ok (.ireturn, 1) := by decide +kernel
theorem dX9_bit_0 : decode cX9_bit 0 = .ok (.iload_n 0, 1) := by decide +kernel
theorem dX9_bit_1 : decode cX9_bit 1 = .ok (.iload_n 1, 1) := by decide +kernel
theorem dX9_bit_2 : decode cX9_bit 2 = .ok (.ishr, 1) := by decide +kernel
theorem dX9_bit_3 : decode cX9_bit 3 = .ok (.iconst 1, 1) := by decide +kernel
theorem dX9_bit_4 : decode cX9_bit 4 = .ok (.iand, 1) := by decide +kernel
theorem dX9_bit_5 : decode cX9_bit 5 = .ok (.ireturn, 1) := by decide +kernel
theorem dX9_withBit_0 : decode cX9_withBit 0 = .ok (.iload_n 2, 1) := by decide +kernel
theorem dX9_withBit_1 : decode cX9_withBit 1 = .ok (.ifCond .eq 11, 3) := by decide +kernel
theorem dX9_withBit_4 : decode cX9_withBit 4 = .ok (.iload_n 0, 1) := by decide +kernel
theorem dX9_withBit_5 : decode cX9_withBit 5 = .ok (.iconst 1, 1) := by decide +kernel
theorem dX9_withBit_6 : decode cX9_withBit 6 = .ok (.iload_n 1, 1) := by decide +kernel
theorem dX9_withBit_7 : decode cX9_withBit 7 = .ok (.ishl, 1) := by decide +kernel
theorem dX9_withBit_8 : decode cX9_withBit 8 = .ok (.ior, 1) := by decide +kernel
theorem dX9_withBit_9 : decode cX9_withBit 9 = .ok (.goto 10, 3) := by decide +kernel
theorem dX9_withBit_12 : decode cX9_withBit 12 = .ok (.iload_n 0, 1) := by decide +kernel
theorem dX9_withBit_13 : decode cX9_withBit 13 = .ok (.iconst 1, 1) := by decide +kernel
theorem dX9_withBit_14 : decode cX9_withBit 14 = .ok (.iload_n 1, 1) := by decide +kernel
theorem dX9_withBit_15 : decode cX9_withBit 15 = .ok (.ishl, 1) := by decide +kernel
theorem dX9_withBit_16 : decode cX9_withBit 16 = .ok (.iconst (-1), 1) := by decide +kernel
theorem dX9_withBit_17 : decode cX9_withBit 17 = .ok (.ixor, 1) := by decide +kernel
theorem dX9_withBit_18 : decode cX9_withBit 18 = .ok (.iand, 1) := by decide +kernel
theorem dX9_withBit_19 : decode cX9_withBit 19 = .ok (.ireturn, 1) := by decide +kernel
set_option maxRecDepth 20000 in
theorem ggX10_init_X10_rule : GoodIn wsX10_init wsX10_rule := goodIn_r _ [22] (by decide +kernel) (by decide +kernel)
set_option maxRecDepth 20000 in
theorem gX10_init_X10_rule : GoodIn wsX10_init (va_wsS RX10 50 yX10_rule wsX10_rule) := goodIn_app (goodIn_of _ (by decide +kernel)) ggX10_init_X10_rule

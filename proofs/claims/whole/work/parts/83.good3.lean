set_option maxRecDepth 100000 in
theorem ggL_law_X9_ruleNext : GoodIn wsL_law wsX9_ruleNext := goodIn_r _ [514, 19, 428, 352, 353, 354, 18, 355, 130, 445, 446, 195, 447, 816, 817, 818, 819, 820, 821, 822, 842, 843, 844, 845, 846, 847, 848, 849, 850] rfl rfl
set_option maxRecDepth 100000 in
theorem gL_law_X9_ruleNext : GoodIn wsL_law (wsV RL 77 RX9 yX9_ruleNext wsX9_ruleNext) := goodIn_app (goodIn_r _ [511, 512, 513, 2] rfl rfl) ggL_law_X9_ruleNext
set_option maxRecDepth 100000 in
theorem ggL_law_X10_ruleNext : GoodIn wsL_law wsX10_ruleNext := goodIn_r _ [518, 364, 365, 366, 5, 367, 230, 257, 258, 259, 460, 461, 462, 463, 823, 824, 825, 826, 827, 828, 829, 830, 831, 832, 833, 834, 835, 836, 837, 838, 839] rfl rfl
set_option maxRecDepth 100000 in
theorem gL_law_X10_ruleNext : GoodIn wsL_law (wsV RL 80 RX10 yX10_ruleNext wsX10_ruleNext) := goodIn_app (goodIn_r _ [515, 516, 517, 5] rfl rfl) ggL_law_X10_ruleNext
set_option maxRecDepth 100000 in
theorem ggL_law_X9_ruleSymbol : GoodIn wsL_law wsX9_ruleSymbol := goodIn_r _ [522, 19, 428, 352, 353, 354, 18, 355, 130, 523, 440, 195, 441, 524, 443, 444, 816, 817, 818, 819, 820, 821, 822, 842, 843, 844, 845, 846, 847, 848, 849, 850] rfl rfl
set_option maxRecDepth 100000 in
theorem gL_law_X9_ruleSymbol : GoodIn wsL_law (wsV RL 81 RX9 yX9_ruleSymbol wsX9_ruleSymbol) := goodIn_app (goodIn_r _ [519, 520, 521, 2] rfl rfl) ggL_law_X9_ruleSymbol
set_option maxRecDepth 100000 in
theorem ggL_law_X10_ruleSymbol : GoodIn wsL_law wsX10_ruleSymbol := goodIn_r _ [528, 364, 365, 366, 5, 367, 230, 257, 258, 259, 460, 461, 462, 463, 823, 824, 825, 826, 827, 828, 829, 830, 831, 832, 833, 834, 835, 836, 837, 838, 839] rfl rfl
set_option maxRecDepth 100000 in
theorem gL_law_X10_ruleSymbol : GoodIn wsL_law (wsV RL 84 RX10 yX10_ruleSymbol wsX10_ruleSymbol) := goodIn_app (goodIn_r _ [525, 526, 527, 5] rfl rfl) ggL_law_X10_ruleSymbol
set_option maxRecDepth 100000 in
theorem ggL_law_X9_ownerOf : GoodIn wsL_law wsX9_ownerOf := goodIn_r _ [532, 19, 373, 163, 164, 18, 165, 126, 374, 375, 376, 377, 128, 378, 2, 379, 816, 817, 818, 819, 820, 821, 822, 842, 843, 844, 845, 846, 847, 848, 849, 850] rfl rfl
set_option maxRecDepth 100000 in
theorem gL_law_X9_ownerOf : GoodIn wsL_law (wsV RL 85 RX9 yX9_ownerOf wsX9_ownerOf) := goodIn_app (goodIn_r _ [529, 530, 531, 2] rfl rfl) ggL_law_X9_ownerOf
set_option maxRecDepth 100000 in
theorem ggL_law_X10_ownerOf : GoodIn wsL_law wsX10_ownerOf := goodIn_r _ [536, 230, 340, 341, 342, 5, 343, 257, 258, 259, 823, 824, 825, 826, 827, 828, 829, 830, 831, 832, 833, 834, 835, 836, 837, 838, 839] rfl rfl
set_option maxRecDepth 100000 in
theorem gL_law_X10_ownerOf : GoodIn wsL_law (wsV RL 88 RX10 yX10_ownerOf wsX10_ownerOf) := goodIn_app (goodIn_r _ [533, 534, 535, 5] rfl rfl) ggL_law_X10_ownerOf
set_option maxRecDepth 100000 in
theorem ggL_law_X9_isTarget : GoodIn wsL_law wsX9_isTarget := goodIn_r _ [540, 19, 393, 373, 163, 164, 18, 165, 126, 394, 378, 2, 379, 816, 817, 818, 819, 820, 821, 822, 842, 843, 844, 845, 846, 847, 848, 849, 850] rfl rfl
set_option maxRecDepth 100000 in
theorem gL_law_X9_isTarget : GoodIn wsL_law (wsV RL 89 RX9 yX9_isTarget wsX9_isTarget) := goodIn_app (goodIn_r _ [537, 538, 539, 2] rfl rfl) ggL_law_X9_isTarget
set_option maxRecDepth 100000 in
theorem ggL_law_X10_isTarget : GoodIn wsL_law wsX10_isTarget := goodIn_r _ [544, 230, 340, 341, 342, 5, 343, 257, 258, 259, 823, 824, 825, 826, 827, 828, 829, 830, 831, 832, 833, 834, 835, 836, 837, 838, 839] rfl rfl
set_option maxRecDepth 100000 in
theorem gL_law_X10_isTarget : GoodIn wsL_law (wsV RL 92 RX10 yX10_isTarget wsX10_isTarget) := goodIn_app (goodIn_r _ [541, 542, 543, 5] rfl rfl) ggL_law_X10_isTarget
set_option maxRecDepth 100000 in
theorem ggL_law_X9_presentState : GoodIn wsL_law wsX9_presentState := goodIn_r _ [548, 19, 413, 816, 817, 818, 819, 820, 821, 822, 842, 843, 844, 845, 846, 847, 848, 849, 850] rfl rfl
set_option maxRecDepth 100000 in
theorem gL_law_X9_presentState : GoodIn wsL_law (wsV RL 93 RX9 yX9_presentState wsX9_presentState) := goodIn_app (goodIn_r _ [545, 546, 547, 2] rfl rfl) ggL_law_X9_presentState
set_option maxRecDepth 100000 in
theorem ggL_law_X10_presentState : GoodIn wsL_law wsX10_presentState := goodIn_r _ [552, 230, 823, 824, 825, 826, 827, 828, 829, 830, 831, 832, 833, 834, 835, 836, 837, 838, 839] rfl rfl
set_option maxRecDepth 100000 in
theorem gL_law_X10_presentState : GoodIn wsL_law (wsV RL 96 RX10 yX10_presentState wsX10_presentState) := goodIn_app (goodIn_r _ [549, 550, 551, 5] rfl rfl) ggL_law_X10_presentState
set_option maxRecDepth 100000 in
theorem ggL_law_X9_stackSize : GoodIn wsL_law wsX9_stackSize := goodIn_r _ [556, 19, 403, 816, 817, 818, 819, 820, 821, 822, 842, 843, 844, 845, 846, 847, 848, 849, 850] rfl rfl
set_option maxRecDepth 100000 in
theorem gL_law_X9_stackSize : GoodIn wsL_law (wsV RL 97 RX9 yX9_stackSize wsX9_stackSize) := goodIn_app (goodIn_r _ [553, 554, 555, 2] rfl rfl) ggL_law_X9_stackSize
set_option maxRecDepth 100000 in
theorem ggL_law_X10_stackSize : GoodIn wsL_law wsX10_stackSize := goodIn_r _ [560, 230, 823, 824, 825, 826, 827, 828, 829, 830, 831, 832, 833, 834, 835, 836, 837, 838, 839] rfl rfl
set_option maxRecDepth 100000 in
theorem gL_law_X10_stackSize : GoodIn wsL_law (wsV RL 100 RX10 yX10_stackSize wsX10_stackSize) := goodIn_app (goodIn_r _ [557, 558, 559, 5] rfl rfl) ggL_law_X10_stackSize
set_option maxRecDepth 100000 in
theorem ggL_law_X9_stackSymbol : GoodIn wsL_law wsX9_stackSymbol := goodIn_r _ [564, 19, 403, 414, 565, 434, 418, 435, 816, 817, 818, 819, 820, 821, 822, 842, 843, 844, 845, 846, 847, 848, 849, 850] rfl rfl
set_option maxRecDepth 100000 in
theorem gL_law_X9_stackSymbol : GoodIn wsL_law (wsV RL 101 RX9 yX9_stackSymbol wsX9_stackSymbol) := goodIn_app (goodIn_r _ [561, 562, 563, 2] rfl rfl) ggL_law_X9_stackSymbol
set_option maxRecDepth 100000 in
theorem ggL_law_X10_stackSymbol : GoodIn wsL_law wsX10_stackSymbol := goodIn_r _ [569, 230, 257, 258, 5, 259, 823, 824, 825, 826, 827, 828, 829, 830, 831, 832, 833, 834, 835, 836, 837, 838, 839] rfl rfl
set_option maxRecDepth 100000 in
theorem gL_law_X10_stackSymbol : GoodIn wsL_law (wsV RL 104 RX10 yX10_stackSymbol wsX10_stackSymbol) := goodIn_app (goodIn_r _ [566, 567, 568, 5] rfl rfl) ggL_law_X10_stackSymbol
set_option maxRecDepth 100000 in
theorem ggL_law_X9_playableRules : GoodIn wsL_law wsX9_playableRules := goodIn_r _ [573, 19, 305, 428, 429, 430, 431, 18, 432, 137, 135, 136, 433, 434, 418, 435, 185, 186, 187, 188, 193, 194, 195, 196, 816, 817, 818, 819, 820, 821, 822, 842, 843, 844, 845, 846, 847, 848, 849, 850] rfl rfl
set_option maxRecDepth 100000 in
theorem gL_law_X9_playableRules : GoodIn wsL_law (wsV RL 105 RX9 yX9_playableRules wsX9_playableRules) := goodIn_app (goodIn_r _ [570, 571, 572, 2] rfl rfl) ggL_law_X9_playableRules
set_option maxRecDepth 100000 in
theorem ggL_law_X10_playableRules : GoodIn wsL_law wsX10_playableRules := goodIn_r _ [577, 230, 456, 457, 458, 5, 459, 460, 461, 462, 463, 823, 824, 825, 826, 827, 828, 829, 830, 831, 832, 833, 834, 835, 836, 837, 838, 839] rfl rfl
set_option maxRecDepth 100000 in
theorem gL_law_X10_playableRules : GoodIn wsL_law (wsV RL 108 RX10 yX10_playableRules wsX10_playableRules) := goodIn_app (goodIn_r _ [574, 575, 576, 5] rfl rfl) ggL_law_X10_playableRules

set_option maxRecDepth 100000 in
theorem ggL_law_X9_setTarget : GoodIn wsL_law wsX9_setTarget := goodIn_r _ [392, 19, 393, 373, 163, 164, 18, 165, 126, 394, 378, 2, 379, 316, 317, 318, 319, 24, 28, 208, 320, 321, 322, 23, 323, 324, 49, 221, 325, 326, 327, 328, 329, 210, 211, 212, 127, 128, 129, 130, 43, 213, 214, 215, 216, 135, 136, 137, 131, 132, 133, 134, 380, 166, 167, 816, 817, 818, 819, 820, 821, 822, 842, 843, 844, 845, 846, 847, 848, 849, 850, 854, 855, 856, 857, 858, 851, 852, 853] rfl rfl
set_option maxRecDepth 100000 in
theorem gL_law_X9_setTarget : GoodIn wsL_law (wsV RL 45 RX9 yX9_setTarget wsX9_setTarget) := goodIn_app (goodIn_r _ [389, 390, 391, 2] rfl rfl) ggL_law_X9_setTarget
set_option maxRecDepth 100000 in
theorem ggL_law_X10_setTarget : GoodIn wsL_law wsX10_setTarget := goodIn_r _ [398, 340, 341, 342, 5, 343, 230, 257, 258, 259, 385, 386, 387, 388, 344, 345, 346, 347, 310, 232, 823, 824, 825, 826, 827, 828, 829, 830, 831, 832, 833, 834, 835, 836, 837, 838, 839] rfl rfl
set_option maxRecDepth 100000 in
theorem gL_law_X10_setTarget : GoodIn wsL_law (wsV RL 48 RX10 yX10_setTarget wsX10_setTarget) := goodIn_app (goodIn_r _ [395, 396, 397, 5] rfl rfl) ggL_law_X10_setTarget
set_option maxRecDepth 100000 in
theorem ggL_law_X9_place : GoodIn wsL_law wsX9_place := goodIn_r _ [402, 19, 403, 24, 373, 163, 164, 18, 165, 126, 320, 321, 322, 23, 323, 324, 49, 221, 325, 326, 327, 328, 329, 210, 211, 212, 127, 128, 129, 130, 43, 213, 214, 215, 216, 135, 136, 137, 131, 132, 133, 134, 404, 816, 817, 818, 819, 820, 821, 822, 842, 843, 844, 845, 846, 847, 848, 849, 850, 851, 852, 853] rfl rfl
set_option maxRecDepth 100000 in
theorem gL_law_X9_place : GoodIn wsL_law (wsV RL 49 RX9 yX9_place wsX9_place) := goodIn_app (goodIn_r _ [399, 400, 401, 2] rfl rfl) ggL_law_X9_place
set_option maxRecDepth 100000 in
theorem ggL_law_X10_place : GoodIn wsL_law wsX10_place := goodIn_r _ [408, 230, 340, 341, 342, 5, 343, 257, 258, 259, 344, 345, 346, 347, 310, 232, 823, 824, 825, 826, 827, 828, 829, 830, 831, 832, 833, 834, 835, 836, 837, 838, 839] rfl rfl
set_option maxRecDepth 100000 in
theorem gL_law_X10_place : GoodIn wsL_law (wsV RL 52 RX10 yX10_place wsX10_place) := goodIn_app (goodIn_r _ [405, 406, 407, 5] rfl rfl) ggL_law_X10_place
set_option maxRecDepth 100000 in
theorem ggL_law_X9_push : GoodIn wsL_law wsX9_push := goodIn_r _ [412, 19, 403, 24, 413, 414, 415, 178, 179, 18, 180, 127, 320, 321, 322, 23, 323, 324, 49, 221, 325, 326, 327, 328, 329, 210, 211, 212, 126, 128, 129, 130, 43, 213, 214, 215, 216, 135, 136, 137, 131, 132, 133, 134, 416, 417, 418, 419, 404, 816, 817, 818, 819, 820, 821, 822, 842, 843, 844, 845, 846, 847, 848, 849, 850, 851, 852, 853] rfl rfl
set_option maxRecDepth 100000 in
theorem gL_law_X9_push : GoodIn wsL_law (wsV RL 53 RX9 yX9_push wsX9_push) := goodIn_app (goodIn_r _ [409, 410, 411, 2] rfl rfl) ggL_law_X9_push
set_option maxRecDepth 100000 in
theorem ggL_law_X10_push : GoodIn wsL_law wsX10_push := goodIn_r _ [423, 230, 336, 337, 338, 5, 339, 257, 258, 259, 344, 345, 346, 347, 310, 232, 823, 824, 825, 826, 827, 828, 829, 830, 831, 832, 833, 834, 835, 836, 837, 838, 839] rfl rfl
set_option maxRecDepth 100000 in
theorem gL_law_X10_push : GoodIn wsL_law (wsV RL 56 RX10 yX10_push wsX10_push) := goodIn_app (goodIn_r _ [420, 421, 422, 5] rfl rfl) ggL_law_X10_push
set_option maxRecDepth 100000 in
theorem ggL_law_X9_play : GoodIn wsL_law wsX9_play := goodIn_r _ [427, 19, 428, 403, 24, 414, 413, 352, 353, 354, 18, 355, 130, 429, 430, 431, 432, 137, 135, 136, 433, 434, 418, 435, 185, 186, 187, 188, 193, 194, 195, 196, 436, 437, 438, 439, 440, 441, 442, 443, 444, 320, 321, 322, 23, 323, 324, 49, 221, 325, 326, 327, 328, 329, 210, 211, 212, 126, 127, 128, 129, 43, 213, 214, 215, 216, 131, 132, 133, 134, 445, 446, 447, 448, 449, 450, 451, 417, 419, 404, 816, 817, 818, 819, 820, 821, 822, 842, 843, 844, 845, 846, 847, 848, 849, 850, 851, 852, 853] rfl rfl
set_option maxRecDepth 100000 in
theorem gL_law_X9_play : GoodIn wsL_law (wsV RL 57 RX9 yX9_play wsX9_play) := goodIn_app (goodIn_r _ [424, 425, 426, 2] rfl rfl) ggL_law_X9_play
set_option maxRecDepth 100000 in
theorem ggL_law_X10_play : GoodIn wsL_law wsX10_play := goodIn_r _ [455, 230, 364, 365, 366, 5, 367, 257, 258, 259, 456, 457, 458, 459, 460, 461, 462, 463, 464, 465, 466, 467, 344, 345, 346, 347, 310, 232, 823, 824, 825, 826, 827, 828, 829, 830, 831, 832, 833, 834, 835, 836, 837, 838, 839] rfl rfl
set_option maxRecDepth 100000 in
theorem gL_law_X10_play : GoodIn wsL_law (wsV RL 60 RX10 yX10_play wsX10_play) := goodIn_app (goodIn_r _ [452, 453, 454, 5] rfl rfl) ggL_law_X10_play
set_option maxRecDepth 100000 in
theorem ggL_law_X9_undo : GoodIn wsL_law wsX9_undo := goodIn_r _ [471, 24, 472, 19, 28, 208, 473, 474, 475, 23, 476, 49, 324, 221, 329, 210, 211, 18, 212, 126, 127, 128, 129, 130, 43, 213, 214, 215, 216, 135, 136, 137, 131, 132, 133, 134, 816, 817, 818, 819, 820, 821, 822, 851, 852, 853, 854, 855, 856, 857, 858, 842, 843, 844, 845, 846, 847, 848, 849, 850] rfl rfl
set_option maxRecDepth 100000 in
theorem gL_law_X9_undo : GoodIn wsL_law (wsV RL 61 RX9 yX9_undo wsX9_undo) := goodIn_app (goodIn_r _ [468, 469, 470, 2] rfl rfl) ggL_law_X9_undo
set_option maxRecDepth 100000 in
theorem ggL_law_X10_undo : GoodIn wsL_law wsX10_undo := goodIn_r _ [480, 310, 230, 232, 823, 824, 825, 826, 827, 828, 829, 830, 831, 832, 833, 834, 835, 836, 837, 838, 839] rfl rfl
set_option maxRecDepth 100000 in
theorem gL_law_X10_undo : GoodIn wsL_law (wsV RL 64 RX10 yX10_undo wsX10_undo) := goodIn_app (goodIn_r _ [477, 478, 479, 5] rfl rfl) ggL_law_X10_undo
set_option maxRecDepth 100000 in
theorem ggL_law_X9_ruleCount : GoodIn wsL_law wsX9_ruleCount := goodIn_r _ [484, 19, 305, 816, 817, 818, 819, 820, 821, 822, 842, 843, 844, 845, 846, 847, 848, 849, 850] rfl rfl
set_option maxRecDepth 100000 in
theorem gL_law_X9_ruleCount : GoodIn wsL_law (wsV RL 65 RX9 yX9_ruleCount wsX9_ruleCount) := goodIn_app (goodIn_r _ [481, 482, 483, 2] rfl rfl) ggL_law_X9_ruleCount
set_option maxRecDepth 100000 in
theorem ggL_law_X10_ruleCount : GoodIn wsL_law wsX10_ruleCount := goodIn_r _ [488, 230, 823, 824, 825, 826, 827, 828, 829, 830, 831, 832, 833, 834, 835, 836, 837, 838, 839] rfl rfl
set_option maxRecDepth 100000 in
theorem gL_law_X10_ruleCount : GoodIn wsL_law (wsV RL 68 RX10 yX10_ruleCount wsX10_ruleCount) := goodIn_app (goodIn_r _ [485, 486, 487, 5] rfl rfl) ggL_law_X10_ruleCount
set_option maxRecDepth 100000 in
theorem ggL_law_X9_ruleState : GoodIn wsL_law wsX9_ruleState := goodIn_r _ [492, 19, 428, 352, 353, 354, 18, 355, 130, 493, 494, 195, 495, 816, 817, 818, 819, 820, 821, 822, 842, 843, 844, 845, 846, 847, 848, 849, 850] rfl rfl
set_option maxRecDepth 100000 in
theorem gL_law_X9_ruleState : GoodIn wsL_law (wsV RL 69 RX9 yX9_ruleState wsX9_ruleState) := goodIn_app (goodIn_r _ [489, 490, 491, 2] rfl rfl) ggL_law_X9_ruleState
set_option maxRecDepth 100000 in
theorem ggL_law_X10_ruleState : GoodIn wsL_law wsX10_ruleState := goodIn_r _ [499, 364, 365, 366, 5, 367, 230, 257, 258, 259, 460, 461, 462, 463, 823, 824, 825, 826, 827, 828, 829, 830, 831, 832, 833, 834, 835, 836, 837, 838, 839] rfl rfl
set_option maxRecDepth 100000 in
theorem gL_law_X10_ruleState : GoodIn wsL_law (wsV RL 72 RX10 yX10_ruleState wsX10_ruleState) := goodIn_app (goodIn_r _ [496, 497, 498, 5] rfl rfl) ggL_law_X10_ruleState
set_option maxRecDepth 100000 in
theorem ggL_law_X9_ruleTop : GoodIn wsL_law wsX9_ruleTop := goodIn_r _ [503, 19, 428, 352, 353, 354, 18, 355, 130, 504, 505, 195, 506, 816, 817, 818, 819, 820, 821, 822, 842, 843, 844, 845, 846, 847, 848, 849, 850] rfl rfl
set_option maxRecDepth 100000 in
theorem gL_law_X9_ruleTop : GoodIn wsL_law (wsV RL 73 RX9 yX9_ruleTop wsX9_ruleTop) := goodIn_app (goodIn_r _ [500, 501, 502, 2] rfl rfl) ggL_law_X9_ruleTop
set_option maxRecDepth 100000 in
theorem ggL_law_X10_ruleTop : GoodIn wsL_law wsX10_ruleTop := goodIn_r _ [510, 364, 365, 366, 5, 367, 230, 257, 258, 259, 460, 461, 462, 463, 823, 824, 825, 826, 827, 828, 829, 830, 831, 832, 833, 834, 835, 836, 837, 838, 839] rfl rfl
set_option maxRecDepth 100000 in
theorem gL_law_X10_ruleTop : GoodIn wsL_law (wsV RL 76 RX10 yX10_ruleTop wsX10_ruleTop) := goodIn_app (goodIn_r _ [507, 508, 509, 5] rfl rfl) ggL_law_X10_ruleTop

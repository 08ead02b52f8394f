set_option maxRecDepth 100000 in
theorem ggL_law_X9_init : GoodIn wsL_law wsX9_init := goodIn_r _ [8, 9, 10, 11, 12, 13, 14, 15, 16, 17, 18, 19, 20, 21, 22, 23, 24, 25, 26, 27, 28, 29, 30, 31, 32, 33, 34, 35, 36, 37, 38, 39, 40, 41, 42, 43, 44, 45, 46, 47, 48, 49, 50, 51, 52, 53, 54, 55, 56, 57, 58, 59, 60, 61, 62, 63, 64, 65, 66, 67, 68, 69, 70, 71, 72, 73, 74, 75, 76, 77, 78, 79, 80, 81, 82, 83, 84, 85, 86, 87, 88, 89, 90, 91, 92, 93, 94, 95, 96, 97, 98, 99, 100, 101, 102, 103, 104, 105, 106, 107, 108, 109, 110, 111, 112, 113, 114, 115, 116, 117, 118, 119, 120, 121, 122, 123, 124, 125, 126, 127, 128, 129, 130, 131, 132, 133, 134, 135, 136, 137, 138, 139, 140, 141, 142, 143, 144, 145, 146, 147, 148, 149, 150, 151, 152, 153, 154, 155, 156, 157, 158, 159, 160, 161, 162, 163, 164, 165, 166, 2, 167, 168, 169, 170, 171, 172, 173, 174, 175, 176, 177, 178, 179, 180, 181, 182, 183, 184, 185, 186, 187, 188, 189, 190, 191, 192, 193, 194, 195, 196, 197, 198, 199, 200, 201, 202, 203, 204, 205, 206, 207, 208, 209, 210, 211, 212, 213, 214, 215, 216, 217, 218, 219, 220, 221, 222, 223, 224, 225, 840, 841, 816, 817, 818, 819, 820, 821, 822, 842, 843, 844, 845, 846, 847, 848, 849, 850, 851, 852, 853, 854, 855, 856, 857, 858, 859, 860] rfl rfl
set_option maxRecDepth 100000 in
theorem gL_law_X9_init : GoodIn wsL_law (wsX9_init) := ggL_law_X9_init
set_option maxRecDepth 100000 in
theorem ggL_law_X10_init : GoodIn wsL_law wsX10_init := goodIn_r _ [228, 229, 10, 11, 42, 230, 231, 232, 233, 234, 235, 61, 236, 237, 238, 239, 240, 241, 242, 243, 244, 5, 245, 823, 824, 825, 826, 827, 828, 829, 830, 831, 832, 833, 834, 835, 836, 837, 838, 839] rfl rfl
set_option maxRecDepth 100000 in
theorem gL_law_X10_init : GoodIn wsL_law (wsX10_init) := ggL_law_X10_init
set_option maxRecDepth 100000 in
theorem ggL_law_X9_append : GoodIn wsL_law wsX9_append := goodIn_r _ [249, 15, 113, 114, 115, 14, 116, 117, 38, 816, 817, 818, 819, 820, 821, 822, 840, 841] rfl rfl
set_option maxRecDepth 100000 in
theorem gL_law_X9_append : GoodIn wsL_law (wsV RL 13 RX9 yX9_append wsX9_append) := goodIn_app (goodIn_r _ [246, 247, 248, 2] rfl rfl) ggL_law_X9_append
set_option maxRecDepth 100000 in
theorem ggL_law_X10_append : GoodIn wsL_law wsX10_append := goodIn_r _ [253, 254, 255, 256, 233, 257, 258, 5, 259, 823, 824, 825, 826, 827, 828, 829, 830, 831, 832, 833, 834, 835, 836, 837, 838, 839] rfl rfl
set_option maxRecDepth 100000 in
theorem gL_law_X10_append : GoodIn wsL_law (wsV RL 17 RX10 yX10_append wsX10_append) := goodIn_app (goodIn_r _ [250, 251, 252, 5] rfl rfl) ggL_law_X10_append
set_option maxRecDepth 100000 in
theorem ggL_law_X9_clearText : GoodIn wsL_law wsX9_clearText := goodIn_r _ [263, 15, 222, 223, 224, 14, 225, 117, 816, 817, 818, 819, 820, 821, 822, 840, 841] rfl rfl
set_option maxRecDepth 100000 in
theorem gL_law_X9_clearText : GoodIn wsL_law (wsV RL 18 RX9 yX9_clearText wsX9_clearText) := goodIn_app (goodIn_r _ [260, 261, 262, 2] rfl rfl) ggL_law_X9_clearText
set_option maxRecDepth 100000 in
theorem ggL_law_X10_clearText : GoodIn wsL_law wsX10_clearText := goodIn_r _ [267, 256, 823, 824, 825, 826, 827, 828, 829, 830, 831, 832, 833, 834, 835, 836, 837, 838, 839] rfl rfl
set_option maxRecDepth 100000 in
theorem gL_law_X10_clearText : GoodIn wsL_law (wsV RL 22 RX10 yX10_clearText wsX10_clearText) := goodIn_app (goodIn_r _ [264, 265, 266, 5] rfl rfl) ggL_law_X10_clearText
set_option maxRecDepth 100000 in
theorem ggL_law_X9_firstError : GoodIn wsL_law wsX9_firstError := goodIn_r _ [271, 15, 20, 118, 119, 120, 14, 121, 117, 38, 122, 123, 124, 18, 125, 126, 127, 128, 129, 130, 131, 132, 133, 134, 135, 136, 137, 138, 139, 140, 141, 142, 143, 144, 145, 146, 147, 148, 149, 150, 151, 152, 153, 154, 155, 156, 157, 158, 159, 160, 161, 162, 163, 164, 165, 166, 2, 167, 168, 169, 170, 171, 172, 173, 174, 175, 176, 177, 178, 179, 180, 181, 182, 183, 184, 185, 186, 187, 188, 189, 190, 191, 192, 43, 193, 194, 195, 196, 197, 198, 199, 200, 201, 202, 203, 816, 817, 818, 819, 820, 821, 822, 840, 841, 842, 843, 844, 845, 846, 847, 848, 849, 850] rfl rfl
set_option maxRecDepth 100000 in
theorem gL_law_X9_firstError : GoodIn wsL_law (wsV RL 23 RX9 yX9_firstError wsX9_firstError) := goodIn_app (goodIn_r _ [268, 269, 270, 2] rfl rfl) ggL_law_X9_firstError
set_option maxRecDepth 100000 in
theorem ggL_law_X10_firstError : GoodIn wsL_law wsX10_firstError := goodIn_r _ [275, 276, 277, 278, 5, 279, 231, 280, 256, 281, 282, 283, 284, 285, 286, 287, 288, 233, 289, 290, 291, 292, 257, 258, 259, 293, 294, 295, 296, 297, 298, 299, 243, 244, 245, 823, 824, 825, 826, 827, 828, 829, 830, 831, 832, 833, 834, 835, 836, 837, 838, 839] rfl rfl
set_option maxRecDepth 100000 in
theorem gL_law_X10_firstError : GoodIn wsL_law (wsV RL 26 RX10 yX10_firstError wsX10_firstError) := goodIn_app (goodIn_r _ [272, 273, 274, 5] rfl rfl) ggL_law_X10_firstError
set_option maxRecDepth 100000 in
theorem ggL_law_X9_configure : GoodIn wsL_law wsX9_configure := goodIn_r _ [303, 15, 304, 20, 19, 305, 118, 119, 120, 14, 121, 117, 38, 122, 123, 124, 18, 125, 126, 127, 128, 129, 130, 131, 132, 133, 134, 135, 136, 137, 138, 139, 140, 141, 142, 143, 144, 145, 146, 147, 148, 149, 150, 151, 152, 153, 154, 155, 156, 157, 158, 159, 160, 161, 162, 163, 164, 165, 166, 2, 167, 168, 169, 170, 171, 172, 173, 174, 175, 176, 177, 178, 179, 180, 181, 182, 183, 184, 185, 186, 187, 188, 189, 190, 191, 192, 43, 193, 194, 195, 196, 197, 198, 199, 200, 201, 202, 203, 204, 205, 206, 207, 24, 28, 208, 209, 210, 211, 212, 213, 214, 215, 216, 217, 218, 219, 23, 220, 221, 816, 817, 818, 819, 820, 821, 822, 840, 841, 842, 843, 844, 845, 846, 847, 848, 849, 850, 854, 855, 856, 857, 858, 851, 852, 853] rfl rfl
set_option maxRecDepth 100000 in
theorem gL_law_X9_configure : GoodIn wsL_law (wsV RL 27 RX9 yX9_configure wsX9_configure) := goodIn_app (goodIn_r _ [300, 301, 302, 2] rfl rfl) ggL_law_X9_configure
set_option maxRecDepth 100000 in
theorem ggL_law_X10_configure : GoodIn wsL_law wsX10_configure := goodIn_r _ [309, 256, 230, 231, 310, 276, 277, 278, 5, 279, 280, 281, 282, 283, 284, 285, 286, 287, 288, 233, 289, 290, 291, 292, 257, 258, 259, 293, 294, 295, 296, 297, 298, 299, 243, 244, 245, 823, 824, 825, 826, 827, 828, 829, 830, 831, 832, 833, 834, 835, 836, 837, 838, 839] rfl rfl
set_option maxRecDepth 100000 in
theorem gL_law_X10_configure : GoodIn wsL_law (wsV RL 30 RX10 yX10_configure wsX10_configure) := goodIn_app (goodIn_r _ [306, 307, 308, 5] rfl rfl) ggL_law_X10_configure
set_option maxRecDepth 100000 in
theorem ggL_law_X9_addRule : GoodIn wsL_law wsX9_addRule := goodIn_r _ [314, 19, 305, 315, 173, 174, 18, 175, 130, 176, 163, 164, 165, 126, 177, 178, 179, 180, 127, 181, 182, 183, 184, 185, 186, 187, 188, 189, 190, 191, 192, 43, 193, 194, 195, 196, 316, 317, 318, 2, 319, 24, 28, 208, 320, 321, 322, 23, 323, 324, 49, 221, 325, 326, 327, 328, 329, 210, 211, 212, 128, 129, 213, 214, 215, 216, 135, 136, 137, 131, 132, 133, 134, 330, 198, 199, 331, 201, 202, 203, 816, 817, 818, 819, 820, 821, 822, 842, 843, 844, 845, 846, 847, 848, 849, 850, 854, 855, 856, 857, 858, 851, 852, 853] rfl rfl
set_option maxRecDepth 100000 in
theorem gL_law_X9_addRule : GoodIn wsL_law (wsV RL 31 RX9 yX9_addRule wsX9_addRule) := goodIn_app (goodIn_r _ [311, 312, 313, 2] rfl rfl) ggL_law_X9_addRule
set_option maxRecDepth 100000 in
theorem ggL_law_X10_addRule : GoodIn wsL_law wsX10_addRule := goodIn_r _ [335, 230, 336, 337, 338, 5, 339, 257, 258, 259, 340, 341, 342, 343, 297, 298, 299, 344, 345, 346, 347, 310, 232, 243, 244, 245, 823, 824, 825, 826, 827, 828, 829, 830, 831, 832, 833, 834, 835, 836, 837, 838, 839] rfl rfl
set_option maxRecDepth 100000 in
theorem gL_law_X10_addRule : GoodIn wsL_law (wsV RL 35 RX10 yX10_addRule wsX10_addRule) := goodIn_app (goodIn_r _ [332, 333, 334, 5] rfl rfl) ggL_law_X10_addRule
set_option maxRecDepth 100000 in
theorem ggL_law_X9_removeRule : GoodIn wsL_law wsX9_removeRule := goodIn_r _ [351, 19, 305, 352, 353, 354, 18, 355, 130, 316, 317, 318, 2, 319, 24, 28, 208, 320, 321, 322, 23, 323, 324, 49, 221, 325, 326, 327, 328, 329, 210, 211, 212, 126, 127, 128, 129, 43, 213, 214, 215, 216, 135, 136, 137, 131, 132, 133, 134, 356, 357, 358, 359, 816, 817, 818, 819, 820, 821, 822, 842, 843, 844, 845, 846, 847, 848, 849, 850, 854, 855, 856, 857, 858, 851, 852, 853] rfl rfl
set_option maxRecDepth 100000 in
theorem gL_law_X9_removeRule : GoodIn wsL_law (wsV RL 36 RX9 yX9_removeRule wsX9_removeRule) := goodIn_app (goodIn_r _ [348, 349, 350, 2] rfl rfl) ggL_law_X9_removeRule
set_option maxRecDepth 100000 in
theorem ggL_law_X10_removeRule : GoodIn wsL_law wsX10_removeRule := goodIn_r _ [363, 230, 364, 365, 366, 5, 367, 257, 258, 259, 344, 345, 346, 347, 310, 232, 823, 824, 825, 826, 827, 828, 829, 830, 831, 832, 833, 834, 835, 836, 837, 838, 839] rfl rfl
set_option maxRecDepth 100000 in
theorem gL_law_X10_removeRule : GoodIn wsL_law (wsV RL 39 RX10 yX10_removeRule wsX10_removeRule) := goodIn_app (goodIn_r _ [360, 361, 362, 5] rfl rfl) ggL_law_X10_removeRule
set_option maxRecDepth 100000 in
theorem ggL_law_X9_setOwner : GoodIn wsL_law wsX9_setOwner := goodIn_r _ [371, 19, 372, 373, 163, 164, 18, 165, 126, 374, 375, 376, 377, 128, 378, 2, 379, 316, 317, 318, 319, 24, 28, 208, 320, 321, 322, 23, 323, 324, 49, 221, 325, 326, 327, 328, 329, 210, 211, 212, 127, 129, 130, 43, 213, 214, 215, 216, 135, 136, 137, 131, 132, 133, 134, 380, 166, 167, 816, 817, 818, 819, 820, 821, 822, 842, 843, 844, 845, 846, 847, 848, 849, 850, 854, 855, 856, 857, 858, 851, 852, 853] rfl rfl
set_option maxRecDepth 100000 in
theorem gL_law_X9_setOwner : GoodIn wsL_law (wsV RL 40 RX9 yX9_setOwner wsX9_setOwner) := goodIn_app (goodIn_r _ [368, 369, 370, 2] rfl rfl) ggL_law_X9_setOwner
set_option maxRecDepth 100000 in
theorem ggL_law_X10_setOwner : GoodIn wsL_law wsX10_setOwner := goodIn_r _ [384, 340, 341, 342, 5, 343, 230, 257, 258, 259, 385, 386, 387, 388, 344, 345, 346, 347, 310, 232, 823, 824, 825, 826, 827, 828, 829, 830, 831, 832, 833, 834, 835, 836, 837, 838, 839] rfl rfl
set_option maxRecDepth 100000 in
theorem gL_law_X10_setOwner : GoodIn wsL_law (wsV RL 44 RX10 yX10_setOwner wsX10_setOwner) := goodIn_app (goodIn_r _ [381, 382, 383, 5] rfl rfl) ggL_law_X10_setOwner

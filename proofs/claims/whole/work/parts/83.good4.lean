set_option maxRecDepth 100000 in
theorem ggL_law_X9_winner : GoodIn wsL_law wsX9_winner := goodIn_r _ [581, 28, 19, 413, 414, 403, 582, 583, 584, 27, 585, 56, 586, 587, 588, 589, 590, 54, 55, 57, 591, 592, 593, 594, 595, 186, 187, 188, 378, 2, 379, 596, 597, 598, 599, 600, 214, 215, 216, 601, 602, 603, 604, 605, 606, 607, 194, 195, 196, 608, 609, 610, 611, 612, 613, 446, 447, 614, 440, 441, 615, 443, 444, 616, 617, 618, 619, 620, 375, 376, 18, 377, 128, 621, 622, 623, 624, 625, 434, 418, 435, 626, 627, 628, 629, 166, 167, 816, 817, 818, 819, 820, 821, 822, 842, 843, 844, 845, 846, 847, 848, 849, 850, 854, 855, 856, 857, 858] rfl rfl
set_option maxRecDepth 100000 in
theorem gL_law_X9_winner : GoodIn wsL_law (wsV RL 109 RX9 yX9_winner wsX9_winner) := goodIn_app (goodIn_r _ [578, 579, 580, 2] rfl rfl) ggL_law_X9_winner
set_option maxRecDepth 100000 in
theorem ggL_law_X10_winner : GoodIn wsL_law wsX10_winner := goodIn_r _ [633, 634, 635, 636, 5, 637, 638, 639, 640, 641, 642, 234, 230, 643, 644, 645, 646, 647, 648, 649, 235, 650, 651, 652, 653, 460, 461, 462, 463, 654, 655, 656, 657, 658, 659, 660, 661, 662, 663, 664, 665, 666, 667, 668, 669, 670, 671, 823, 824, 825, 826, 827, 828, 829, 830, 831, 832, 833, 834, 835, 836, 837, 838, 839] rfl rfl
set_option maxRecDepth 100000 in
theorem gL_law_X10_winner : GoodIn wsL_law (wsV RL 112 RX10 yX10_winner wsX10_winner) := goodIn_app (goodIn_r _ [630, 631, 632, 5] rfl rfl) ggL_law_X10_winner
set_option maxRecDepth 100000 in
theorem ggL_law_X9_winningRound : GoodIn wsL_law wsX9_winningRound := goodIn_r _ [675, 28, 29, 676, 19, 413, 414, 403, 582, 583, 584, 27, 585, 56, 586, 587, 588, 589, 590, 54, 55, 57, 591, 592, 593, 594, 595, 186, 187, 188, 378, 2, 379, 596, 597, 598, 599, 600, 214, 215, 216, 601, 602, 603, 604, 605, 606, 607, 194, 195, 196, 608, 609, 610, 611, 612, 613, 446, 447, 614, 440, 441, 615, 443, 444, 616, 617, 618, 619, 620, 375, 376, 18, 377, 128, 677, 621, 622, 623, 624, 625, 434, 418, 435, 626, 627, 628, 629, 166, 167, 678, 816, 817, 818, 819, 820, 821, 822, 854, 855, 856, 857, 858, 842, 843, 844, 845, 846, 847, 848, 849, 850] rfl rfl
set_option maxRecDepth 100000 in
theorem gL_law_X9_winningRound : GoodIn wsL_law (wsV RL 113 RX9 yX9_winningRound wsX9_winningRound) := goodIn_app (goodIn_r _ [672, 673, 674, 2] rfl rfl) ggL_law_X9_winningRound
set_option maxRecDepth 100000 in
theorem ggL_law_X10_winningRound : GoodIn wsL_law wsX10_winningRound := goodIn_r _ [682, 642, 638, 639, 640, 5, 641, 234, 230, 643, 644, 645, 664, 665, 666, 667, 668, 669, 670, 671, 646, 647, 648, 649, 235, 650, 651, 652, 653, 460, 461, 462, 463, 654, 655, 656, 657, 658, 659, 660, 661, 662, 663, 823, 824, 825, 826, 827, 828, 829, 830, 831, 832, 833, 834, 835, 836, 837, 838, 839] rfl rfl
set_option maxRecDepth 100000 in
theorem gL_law_X10_winningRound : GoodIn wsL_law (wsV RL 116 RX10 yX10_winningRound wsX10_winningRound) := goodIn_app (goodIn_r _ [679, 680, 681, 5] rfl rfl) ggL_law_X10_winningRound
set_option maxRecDepth 100000 in
theorem ggL_law_X9_distance : GoodIn wsL_law wsX9_distance := goodIn_r _ [686, 28, 19, 413, 414, 403, 582, 583, 584, 27, 585, 56, 586, 587, 588, 589, 590, 54, 55, 57, 591, 592, 593, 594, 595, 186, 187, 188, 378, 2, 379, 596, 597, 598, 599, 600, 214, 215, 216, 601, 602, 603, 604, 605, 606, 607, 194, 195, 196, 608, 609, 610, 611, 612, 613, 446, 447, 614, 440, 441, 615, 443, 444, 616, 617, 618, 619, 620, 375, 376, 18, 377, 128, 687, 688, 689, 690, 621, 622, 623, 624, 625, 434, 418, 435, 626, 627, 628, 629, 166, 167, 691, 692, 693, 694, 695, 696, 697, 698, 699, 700, 701, 702, 703, 704, 705, 706, 327, 707, 708, 709, 710, 711, 712, 713, 449, 450, 442, 451, 417, 419, 439, 714, 437, 438, 715, 716, 816, 817, 818, 819, 820, 821, 822, 842, 843, 844, 845, 846, 847, 848, 849, 850, 854, 855, 856, 857, 858] rfl rfl
set_option maxRecDepth 100000 in
theorem gL_law_X9_distance : GoodIn wsL_law (wsV RL 117 RX9 yX9_distance wsX9_distance) := goodIn_app (goodIn_r _ [683, 684, 685, 2] rfl rfl) ggL_law_X9_distance
set_option maxRecDepth 100000 in
theorem ggL_law_X10_distance : GoodIn wsL_law wsX10_distance := goodIn_r _ [720, 721, 722, 723, 5, 724, 238, 230, 239, 240, 725, 726, 727, 728, 241, 242, 729, 730, 731, 732, 643, 644, 645, 733, 734, 735, 736, 460, 461, 462, 463, 737, 738, 739, 740, 823, 824, 825, 826, 827, 828, 829, 830, 831, 832, 833, 834, 835, 836, 837, 838, 839] rfl rfl
set_option maxRecDepth 100000 in
theorem gL_law_X10_distance : GoodIn wsL_law (wsV RL 120 RX10 yX10_distance wsX10_distance) := goodIn_app (goodIn_r _ [717, 718, 719, 5] rfl rfl) ggL_law_X10_distance
set_option maxRecDepth 100000 in
theorem ggL_law_X9_bestRule : GoodIn wsL_law wsX9_bestRule := goodIn_r _ [744, 19, 413, 28, 305, 428, 414, 403, 374, 375, 376, 18, 377, 128, 378, 2, 379, 582, 583, 584, 27, 585, 56, 586, 587, 588, 589, 590, 54, 55, 57, 591, 592, 593, 594, 595, 186, 187, 188, 596, 597, 598, 599, 600, 214, 215, 216, 601, 602, 603, 604, 605, 606, 607, 194, 195, 196, 608, 609, 610, 611, 612, 613, 446, 447, 614, 440, 441, 615, 443, 444, 616, 617, 618, 619, 620, 429, 430, 431, 432, 137, 135, 136, 433, 434, 418, 435, 185, 193, 445, 448, 449, 450, 442, 451, 417, 419, 439, 436, 437, 438, 687, 688, 689, 690, 621, 622, 623, 624, 625, 626, 627, 628, 629, 166, 167, 691, 692, 693, 694, 695, 696, 697, 698, 699, 700, 701, 702, 703, 704, 705, 706, 327, 707, 708, 709, 710, 711, 712, 713, 714, 715, 716, 816, 817, 818, 819, 820, 821, 822, 842, 843, 844, 845, 846, 847, 848, 849, 850, 854, 855, 856, 857, 858] rfl rfl
set_option maxRecDepth 100000 in
theorem gL_law_X9_bestRule : GoodIn wsL_law (wsV RL 121 RX9 yX9_bestRule wsX9_bestRule) := goodIn_app (goodIn_r _ [741, 742, 743, 2] rfl rfl) ggL_law_X9_bestRule
set_option maxRecDepth 100000 in
theorem ggL_law_X10_bestRule : GoodIn wsL_law wsX10_bestRule := goodIn_r _ [748, 230, 643, 644, 5, 645, 456, 457, 458, 459, 460, 461, 462, 463, 721, 722, 723, 724, 238, 239, 240, 725, 726, 727, 728, 241, 242, 737, 738, 739, 740, 729, 730, 731, 732, 733, 734, 735, 736, 823, 824, 825, 826, 827, 828, 829, 830, 831, 832, 833, 834, 835, 836, 837, 838, 839] rfl rfl
set_option maxRecDepth 100000 in
theorem gL_law_X10_bestRule : GoodIn wsL_law (wsV RL 124 RX10 yX10_bestRule wsX10_bestRule) := goodIn_app (goodIn_r _ [745, 746, 747, 5] rfl rfl) ggL_law_X10_bestRule
set_option maxRecDepth 100000 in
theorem ggL_law_X9_rounds : GoodIn wsL_law wsX9_rounds := goodIn_r _ [752, 28, 676, 582, 583, 584, 27, 585, 56, 586, 587, 588, 589, 590, 54, 55, 57, 591, 592, 593, 594, 595, 186, 187, 188, 378, 2, 379, 596, 597, 598, 599, 600, 214, 215, 216, 601, 602, 603, 604, 605, 606, 607, 194, 195, 196, 608, 609, 610, 611, 612, 613, 446, 447, 614, 440, 441, 615, 443, 444, 616, 617, 618, 619, 620, 375, 376, 18, 377, 128, 816, 817, 818, 819, 820, 821, 822, 854, 855, 856, 857, 858, 842, 843, 844, 845, 846, 847, 848, 849, 850] rfl rfl
set_option maxRecDepth 100000 in
theorem gL_law_X9_rounds : GoodIn wsL_law (wsV RL 125 RX9 yX9_rounds wsX9_rounds) := goodIn_app (goodIn_r _ [749, 750, 751, 2] rfl rfl) ggL_law_X9_rounds
set_option maxRecDepth 100000 in
theorem ggL_law_X10_rounds : GoodIn wsL_law wsX10_rounds := goodIn_r _ [756, 642, 634, 635, 636, 5, 637, 638, 639, 640, 641, 234, 230, 643, 644, 645, 646, 647, 648, 649, 235, 650, 651, 652, 653, 460, 461, 462, 463, 654, 655, 656, 657, 658, 659, 660, 661, 662, 663, 823, 824, 825, 826, 827, 828, 829, 830, 831, 832, 833, 834, 835, 836, 837, 838, 839] rfl rfl
set_option maxRecDepth 100000 in
theorem gL_law_X10_rounds : GoodIn wsL_law (wsV RL 128 RX10 yX10_rounds wsX10_rounds) := goodIn_app (goodIn_r _ [753, 754, 755, 5] rfl rfl) ggL_law_X10_rounds
set_option maxRecDepth 100000 in
theorem ggL_law_X9_forcingSetCount : GoodIn wsL_law wsX9_forcingSetCount := goodIn_r _ [760, 19, 28, 373, 163, 164, 18, 165, 126, 415, 178, 179, 180, 127, 582, 583, 584, 27, 585, 56, 586, 587, 588, 589, 590, 54, 55, 57, 591, 592, 593, 594, 595, 186, 187, 188, 378, 2, 379, 596, 597, 598, 599, 600, 214, 215, 216, 601, 602, 603, 604, 605, 606, 607, 194, 195, 196, 608, 609, 610, 611, 612, 613, 446, 447, 614, 440, 441, 615, 443, 444, 616, 617, 618, 619, 620, 375, 376, 377, 128, 761, 762, 763, 764, 765, 766, 767, 166, 167, 816, 817, 818, 819, 820, 821, 822, 842, 843, 844, 845, 846, 847, 848, 849, 850, 854, 855, 856, 857, 858] rfl rfl
set_option maxRecDepth 100000 in
theorem gL_law_X9_forcingSetCount : GoodIn wsL_law (wsV RL 129 RX9 yX9_forcingSetCount wsX9_forcingSetCount) := goodIn_app (goodIn_r _ [757, 758, 759, 2] rfl rfl) ggL_law_X9_forcingSetCount
set_option maxRecDepth 100000 in
theorem ggL_law_X10_forcingSetCount : GoodIn wsL_law wsX10_forcingSetCount := goodIn_r _ [771, 234, 340, 341, 342, 5, 343, 230, 257, 258, 259, 336, 337, 338, 339, 634, 635, 636, 637, 638, 639, 640, 641, 642, 643, 644, 645, 646, 647, 648, 649, 235, 650, 651, 652, 653, 460, 461, 462, 463, 654, 655, 656, 657, 658, 659, 660, 661, 662, 663, 823, 824, 825, 826, 827, 828, 829, 830, 831, 832, 833, 834, 835, 836, 837, 838, 839] rfl rfl
set_option maxRecDepth 100000 in
theorem gL_law_X10_forcingSetCount : GoodIn wsL_law (wsV RL 132 RX10 yX10_forcingSetCount wsX10_forcingSetCount) := goodIn_app (goodIn_r _ [768, 769, 770, 5] rfl rfl) ggL_law_X10_forcingSetCount
set_option maxRecDepth 100000 in
theorem ggL_law_X9_forcingSet : GoodIn wsL_law wsX9_forcingSet := goodIn_r _ [775, 19, 28, 373, 163, 164, 18, 165, 126, 415, 178, 179, 180, 127, 582, 583, 584, 27, 585, 56, 586, 587, 588, 589, 590, 54, 55, 57, 591, 592, 593, 594, 595, 186, 187, 188, 378, 2, 379, 596, 597, 598, 599, 600, 214, 215, 216, 601, 602, 603, 604, 605, 606, 607, 194, 195, 196, 608, 609, 610, 611, 612, 613, 446, 447, 614, 440, 441, 615, 443, 444, 616, 617, 618, 619, 620, 375, 376, 377, 128, 776, 777, 778, 779, 765, 766, 767, 166, 167, 816, 817, 818, 819, 820, 821, 822, 842, 843, 844, 845, 846, 847, 848, 849, 850, 854, 855, 856, 857, 858] rfl rfl
set_option maxRecDepth 100000 in
theorem gL_law_X9_forcingSet : GoodIn wsL_law (wsV RL 133 RX9 yX9_forcingSet wsX9_forcingSet) := goodIn_app (goodIn_r _ [772, 773, 774, 2] rfl rfl) ggL_law_X9_forcingSet
set_option maxRecDepth 100000 in
theorem ggL_law_X10_forcingSet : GoodIn wsL_law wsX10_forcingSet := goodIn_r _ [783, 234, 340, 341, 342, 5, 343, 230, 257, 258, 259, 336, 337, 338, 339, 634, 635, 636, 637, 638, 639, 640, 641, 642, 643, 644, 645, 646, 647, 648, 649, 235, 650, 651, 652, 653, 460, 461, 462, 463, 654, 655, 656, 657, 658, 659, 660, 661, 662, 663, 823, 824, 825, 826, 827, 828, 829, 830, 831, 832, 833, 834, 835, 836, 837, 838, 839] rfl rfl
set_option maxRecDepth 100000 in
theorem gL_law_X10_forcingSet : GoodIn wsL_law (wsV RL 137 RX10 yX10_forcingSet wsX10_forcingSet) := goodIn_app (goodIn_r _ [780, 781, 782, 5] rfl rfl) ggL_law_X10_forcingSet
set_option maxRecDepth 100000 in
theorem ggL_law_X9_winningStacks : GoodIn wsL_law wsX9_winningStacks := goodIn_r _ [787, 19, 788, 789, 790, 28, 33, 373, 163, 164, 18, 165, 126, 791, 792, 32, 793, 794, 795, 706, 327, 707, 582, 583, 584, 27, 585, 56, 586, 587, 588, 589, 590, 54, 55, 57, 591, 592, 593, 594, 595, 186, 187, 188, 378, 2, 379, 596, 597, 598, 599, 600, 214, 215, 216, 601, 602, 603, 604, 605, 606, 607, 194, 195, 196, 608, 609, 610, 611, 612, 613, 446, 447, 614, 440, 441, 615, 443, 444, 616, 617, 618, 619, 620, 375, 376, 377, 128, 796, 797, 798, 799, 62, 800, 801, 802, 803, 804, 805, 63, 806, 807, 627, 628, 629, 166, 167, 816, 817, 818, 819, 820, 821, 822, 842, 843, 844, 845, 846, 847, 848, 849, 850, 854, 855, 856, 857, 858, 859, 860] rfl rfl
set_option maxRecDepth 100000 in
theorem gL_law_X9_winningStacks : GoodIn wsL_law (wsV RL 138 RX9 yX9_winningStacks wsX9_winningStacks) := goodIn_app (goodIn_r _ [784, 785, 786, 2] rfl rfl) ggL_law_X9_winningStacks
set_option maxRecDepth 100000 in
theorem ggL_law_X10_winningStacks : GoodIn wsL_law wsX10_winningStacks := goodIn_r _ [811, 812, 813, 814, 230, 815, 236, 237, 340, 341, 342, 5, 343, 257, 258, 259, 634, 635, 636, 637, 638, 639, 640, 641, 642, 234, 643, 644, 645, 646, 647, 648, 649, 235, 650, 651, 652, 653, 460, 461, 462, 463, 654, 655, 656, 657, 658, 659, 660, 661, 662, 663, 668, 669, 670, 671, 823, 824, 825, 826, 827, 828, 829, 830, 831, 832, 833, 834, 835, 836, 837, 838, 839] rfl rfl
set_option maxRecDepth 100000 in
theorem gL_law_X10_winningStacks : GoodIn wsL_law (wsV RL 142 RX10 yX10_winningStacks wsX10_winningStacks) := goodIn_app (goodIn_r _ [808, 809, 810, 5] rfl rfl) ggL_law_X10_winningStacks


set_option maxRecDepth 20000 in
theorem ggL_law_X9_clear : GoodIn wsL_law wsX9_clear := goodIn_r _ [620, 38, 166, 167, 168, 2, 169, 47, 763, 764, 765, 766, 767, 768, 769, 770, 771, 772, 832, 833, 834] (by decide +kernel) (by decide +kernel)
set_option maxRecDepth 20000 in
theorem gL_law_X9_clear : GoodIn wsL_law (wsV RL 120 RX9 yX9_clear wsX9_clear) := goodIn_app (goodIn_of _ (by decide +kernel)) ggL_law_X9_clear
set_option maxRecDepth 20000 in
theorem ggL_law_X10_clear : GoodIn wsL_law wsX10_clear := goodIn_r _ [624, 157, 158, 616, 773, 774, 775, 776, 777, 778, 779, 780, 781, 782, 783, 784, 785, 786, 787, 788, 789, 790, 791, 792, 793, 794, 795, 796, 797, 798, 799, 800, 801, 802, 803, 804, 805] (by decide +kernel) (by decide +kernel)
set_option maxRecDepth 20000 in
theorem gL_law_X10_clear : GoodIn wsL_law (wsV RL 124 RX10 yX10_clear wsX10_clear) := goodIn_app (goodIn_of _ (by decide +kernel)) ggL_law_X10_clear
set_option maxRecDepth 20000 in
theorem ggL_law_X9_lasts : GoodIn wsL_law wsX9_lasts := goodIn_r _ [628, 38, 46, 166, 167, 168, 2, 169, 47, 629, 37, 630, 631, 632, 633, 634, 635, 102, 101, 100, 636, 637, 638, 639, 640, 45, 641, 642, 643, 644, 645, 646, 113, 114, 647, 648, 649, 763, 764, 765, 766, 767, 768, 769, 770, 771, 772, 832, 833, 834, 838, 839] (by decide +kernel) (by decide +kernel)
set_option maxRecDepth 20000 in
theorem gL_law_X9_lasts : GoodIn wsL_law (wsV RL 125 RX9 yX9_lasts wsX9_lasts) := goodIn_app (goodIn_of _ (by decide +kernel)) ggL_law_X9_lasts
set_option maxRecDepth 20000 in
theorem ggL_law_X10_lasts : GoodIn wsL_law wsX10_lasts := goodIn_r _ [653, 157, 158, 616, 146, 147, 180, 181, 182, 5, 183, 654, 655, 656, 657, 658, 126, 659, 660, 661, 662, 644, 645, 646, 773, 774, 775, 776, 777, 778, 779, 780, 781, 782, 783, 784, 785, 786, 787, 788, 789, 790, 791, 792, 793, 794, 795, 796, 797, 798, 799, 800, 801, 802, 803, 804, 805] (by decide +kernel) (by decide +kernel)
set_option maxRecDepth 20000 in
theorem gL_law_X10_lasts : GoodIn wsL_law (wsV RL 129 RX10 yX10_lasts wsX10_lasts) := goodIn_app (goodIn_of _ (by decide +kernel)) ggL_law_X10_lasts
set_option maxRecDepth 20000 in
theorem ggL_law_X9_upper : GoodIn wsL_law wsX9_upper := goodIn_r _ [666, 46, 763, 764, 765, 766, 767, 768, 769, 770, 771, 772, 838, 839] (by decide +kernel) (by decide +kernel)
set_option maxRecDepth 20000 in
theorem gL_law_X9_upper : GoodIn wsL_law (wsV RL 130 RX9 yX9_upper wsX9_upper) := goodIn_app (goodIn_of _ (by decide +kernel)) ggL_law_X9_upper
set_option maxRecDepth 20000 in
theorem ggL_law_X10_upper : GoodIn wsL_law wsX10_upper := goodIn_r _ [670, 157, 658, 773, 774, 775, 776, 777, 778, 779, 780, 781, 782, 783, 784, 785, 786, 787, 788, 789, 790, 791, 792, 793, 794, 795, 796, 797, 798, 799, 800, 801, 802, 803, 804, 805] (by decide +kernel) (by decide +kernel)
set_option maxRecDepth 20000 in
theorem gL_law_X10_upper : GoodIn wsL_law (wsV RL 134 RX10 yX10_upper wsX10_upper) := goodIn_app (goodIn_of _ (by decide +kernel)) ggL_law_X10_upper
set_option maxRecDepth 20000 in
theorem ggL_law_X9_lower : GoodIn wsL_law wsX9_lower := goodIn_r _ [674, 46, 763, 764, 765, 766, 767, 768, 769, 770, 771, 772, 838, 839] (by decide +kernel) (by decide +kernel)
set_option maxRecDepth 20000 in
theorem gL_law_X9_lower : GoodIn wsL_law (wsV RL 135 RX9 yX9_lower wsX9_lower) := goodIn_app (goodIn_of _ (by decide +kernel)) ggL_law_X9_lower
set_option maxRecDepth 20000 in
theorem ggL_law_X10_lower : GoodIn wsL_law wsX10_lower := goodIn_r _ [678, 157, 126, 773, 774, 775, 776, 777, 778, 779, 780, 781, 782, 783, 784, 785, 786, 787, 788, 789, 790, 791, 792, 793, 794, 795, 796, 797, 798, 799, 800, 801, 802, 803, 804, 805] (by decide +kernel) (by decide +kernel)
set_option maxRecDepth 20000 in
theorem gL_law_X10_lower : GoodIn wsL_law (wsV RL 138 RX10 yX10_lower wsX10_lower) := goodIn_app (goodIn_of _ (by decide +kernel)) ggL_law_X10_lower
set_option maxRecDepth 20000 in
theorem ggL_law_X9_gain : GoodIn wsL_law wsX9_gain := goodIn_r _ [682, 42, 14, 46, 683, 684, 685, 2, 686, 192, 193, 194, 195, 163, 164, 165, 196, 49, 197, 198, 121, 687, 688, 689, 118, 690, 691, 41, 692, 693, 109, 107, 108, 694, 695, 696, 697, 698, 699, 700, 701, 702, 703, 704, 705, 706, 707, 708, 709, 710, 711, 712, 713, 714, 715, 640, 45, 641, 642, 643, 644, 645, 646, 113, 114, 647, 648, 649, 166, 167, 168, 169, 47, 763, 764, 765, 766, 767, 768, 769, 770, 771, 772, 840, 841, 842, 843, 835, 836, 837, 838, 839] (by decide +kernel) (by decide +kernel)
set_option maxRecDepth 20000 in
theorem gL_law_X9_gain : GoodIn wsL_law (wsV RL 139 RX9 yX9_gain wsX9_gain) := goodIn_app (goodIn_of _ (by decide +kernel)) ggL_law_X9_gain
set_option maxRecDepth 20000 in
theorem ggL_law_X10_gain : GoodIn wsL_law wsX10_gain := goodIn_r _ [719, 157, 158, 720, 721, 722, 5, 723, 128, 129, 724, 214, 215, 216, 217, 725, 707, 700, 708, 709, 710, 711, 726, 727, 728, 729, 654, 655, 656, 657, 658, 126, 659, 660, 661, 662, 644, 645, 646, 773, 774, 775, 776, 777, 778, 779, 780, 781, 782, 783, 784, 785, 786, 787, 788, 789, 790, 791, 792, 793, 794, 795, 796, 797, 798, 799, 800, 801, 802, 803, 804, 805] (by decide +kernel) (by decide +kernel)
set_option maxRecDepth 20000 in
theorem gL_law_X10_gain : GoodIn wsL_law (wsV RL 142 RX10 yX10_gain wsX10_gain) := goodIn_app (goodIn_of _ (by decide +kernel)) ggL_law_X10_gain
set_option maxRecDepth 20000 in
theorem ggL_law_X9_chance : GoodIn wsL_law wsX9_chance := goodIn_r _ [733, 42, 14, 46, 683, 684, 685, 2, 686, 192, 193, 194, 195, 163, 164, 165, 196, 49, 197, 198, 121, 687, 688, 689, 118, 690, 691, 41, 692, 693, 109, 107, 108, 694, 695, 696, 697, 698, 699, 700, 701, 702, 734, 735, 736, 706, 707, 708, 709, 710, 711, 737, 738, 739, 712, 713, 714, 715, 740, 741, 742, 640, 45, 641, 642, 643, 644, 645, 646, 113, 114, 647, 648, 649, 166, 167, 168, 169, 47, 763, 764, 765, 766, 767, 768, 769, 770, 771, 772, 840, 841, 842, 843, 835, 836, 837, 838, 839] (by decide +kernel) (by decide +kernel)
set_option maxRecDepth 20000 in
theorem gL_law_X9_chance : GoodIn wsL_law (wsV RL 143 RX9 yX9_chance wsX9_chance) := goodIn_app (goodIn_of _ (by decide +kernel)) ggL_law_X9_chance
set_option maxRecDepth 20000 in
theorem ggL_law_X10_chance : GoodIn wsL_law wsX10_chance := goodIn_r _ [746, 157, 158, 720, 721, 722, 5, 723, 128, 129, 724, 214, 215, 216, 217, 725, 707, 700, 708, 709, 710, 711, 726, 727, 728, 729, 654, 655, 656, 657, 658, 126, 659, 660, 661, 662, 644, 645, 646, 773, 774, 775, 776, 777, 778, 779, 780, 781, 782, 783, 784, 785, 786, 787, 788, 789, 790, 791, 792, 793, 794, 795, 796, 797, 798, 799, 800, 801, 802, 803, 804, 805] (by decide +kernel) (by decide +kernel)
set_option maxRecDepth 20000 in
theorem gL_law_X10_chance : GoodIn wsL_law (wsV RL 146 RX10 yX10_chance wsX10_chance) := goodIn_app (goodIn_of _ (by decide +kernel)) ggL_law_X10_chance

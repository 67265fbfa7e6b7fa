set_option maxRecDepth 20000 in
theorem ggL_law_X9_tell : GoodIn wsL_law wsX9_tell := goodIn_r _ [532, 30, 533, 29, 534, 535, 87, 166, 167, 168, 2, 169, 47, 515, 516, 517, 536, 537, 538, 84, 88, 86, 85, 763, 764, 765, 766, 767, 768, 769, 770, 771, 772, 820, 821, 822, 823, 824, 825, 826] (by decide +kernel) (by decide +kernel)
set_option maxRecDepth 20000 in
theorem gL_law_X9_tell : GoodIn wsL_law (wsV RL 93 RX9 yX9_tell wsX9_tell) := goodIn_app (goodIn_of _ (by decide +kernel)) ggL_law_X9_tell
set_option maxRecDepth 20000 in
theorem ggL_law_X10_tell : GoodIn wsL_law wsX10_tell := goodIn_r _ [542, 157, 158, 525, 138, 543, 139, 140, 141, 180, 181, 182, 5, 183, 526, 527, 528, 773, 774, 775, 776, 777, 778, 779, 780, 781, 782, 783, 784, 785, 786, 787, 788, 789, 790, 791, 792, 793, 794, 795, 796, 797, 798, 799, 800, 801, 802, 803, 804, 805] (by decide +kernel) (by decide +kernel)
set_option maxRecDepth 20000 in
theorem gL_law_X10_tell : GoodIn wsL_law (wsV RL 97 RX10 yX10_tell wsX10_tell) := goodIn_app (goodIn_of _ (by decide +kernel)) ggL_law_X10_tell
set_option maxRecDepth 20000 in
theorem ggL_law_X9_met : GoodIn wsL_law wsX9_met := goodIn_r _ [547, 18, 30, 310, 17, 311, 312, 60, 254, 255, 256, 2, 257, 47, 515, 516, 517, 548, 29, 549, 550, 87, 82, 83, 551, 552, 553, 554, 88, 84, 85, 86, 261, 262, 263, 264, 763, 764, 765, 766, 767, 768, 769, 770, 771, 772, 806, 807, 808, 809, 810, 811, 820, 821, 822, 823, 824, 825, 826] (by decide +kernel) (by decide +kernel)
set_option maxRecDepth 20000 in
theorem gL_law_X9_met : GoodIn wsL_law (wsV RL 98 RX9 yX9_met wsX9_met) := goodIn_app (goodIn_of _ (by decide +kernel)) ggL_law_X9_met
set_option maxRecDepth 20000 in
theorem ggL_law_X10_met : GoodIn wsL_law wsX10_met := goodIn_r _ [558, 157, 158, 525, 137, 138, 543, 139, 140, 141, 323, 324, 325, 5, 326, 285, 270, 271, 272, 273, 526, 527, 528, 773, 774, 775, 776, 777, 778, 779, 780, 781, 782, 783, 784, 785, 786, 787, 788, 789, 790, 791, 792, 793, 794, 795, 796, 797, 798, 799, 800, 801, 802, 803, 804, 805] (by decide +kernel) (by decide +kernel)
set_option maxRecDepth 20000 in
theorem gL_law_X10_met : GoodIn wsL_law (wsV RL 102 RX10 yX10_met wsX10_met) := goodIn_app (goodIn_of _ (by decide +kernel)) ggL_law_X10_met
set_option maxRecDepth 20000 in
theorem ggL_law_X9_goal : GoodIn wsL_law wsX9_goal := goodIn_r _ [562, 18, 34, 310, 17, 311, 312, 60, 254, 255, 256, 2, 257, 47, 563, 33, 564, 565, 92, 566, 567, 568, 569, 96, 515, 516, 517, 570, 571, 572, 93, 94, 95, 261, 262, 263, 264, 763, 764, 765, 766, 767, 768, 769, 770, 771, 772, 827, 828, 829, 830, 831, 806, 807, 808, 809, 810, 811] (by decide +kernel) (by decide +kernel)
set_option maxRecDepth 20000 in
theorem gL_law_X9_goal : GoodIn wsL_law (wsV RL 103 RX9 yX9_goal wsX9_goal) := goodIn_app (goodIn_of _ (by decide +kernel)) ggL_law_X9_goal
set_option maxRecDepth 20000 in
theorem ggL_law_X10_goal : GoodIn wsL_law wsX10_goal := goodIn_r _ [576, 157, 158, 577, 142, 143, 144, 145, 323, 324, 325, 5, 326, 285, 270, 271, 272, 273, 526, 527, 528, 773, 774, 775, 776, 777, 778, 779, 780, 781, 782, 783, 784, 785, 786, 787, 788, 789, 790, 791, 792, 793, 794, 795, 796, 797, 798, 799, 800, 801, 802, 803, 804, 805] (by decide +kernel) (by decide +kernel)
set_option maxRecDepth 20000 in
theorem gL_law_X10_goal : GoodIn wsL_law (wsV RL 106 RX10 yX10_goal wsX10_goal) := goodIn_app (goodIn_of _ (by decide +kernel)) ggL_law_X10_goal
set_option maxRecDepth 20000 in
theorem ggL_law_X9_confirm : GoodIn wsL_law wsX9_confirm := goodIn_r _ [581, 34, 567, 33, 568, 569, 96, 166, 167, 168, 2, 169, 47, 515, 516, 517, 763, 764, 765, 766, 767, 768, 769, 770, 771, 772, 827, 828, 829, 830, 831] (by decide +kernel) (by decide +kernel)
set_option maxRecDepth 20000 in
theorem gL_law_X9_confirm : GoodIn wsL_law (wsV RL 107 RX9 yX9_confirm wsX9_confirm) := goodIn_app (goodIn_of _ (by decide +kernel)) ggL_law_X9_confirm
set_option maxRecDepth 20000 in
theorem ggL_law_X10_confirm : GoodIn wsL_law wsX10_confirm := goodIn_r _ [585, 157, 158, 577, 145, 180, 181, 182, 5, 183, 526, 527, 528, 773, 774, 775, 776, 777, 778, 779, 780, 781, 782, 783, 784, 785, 786, 787, 788, 789, 790, 791, 792, 793, 794, 795, 796, 797, 798, 799, 800, 801, 802, 803, 804, 805] (by decide +kernel) (by decide +kernel)
set_option maxRecDepth 20000 in
theorem gL_law_X10_confirm : GoodIn wsL_law (wsV RL 110 RX10 yX10_confirm wsX10_confirm) := goodIn_app (goodIn_of _ (by decide +kernel)) ggL_law_X10_confirm
set_option maxRecDepth 20000 in
theorem ggL_law_X9_goalAt : GoodIn wsL_law wsX9_goalAt := goodIn_r _ [589, 34, 567, 33, 568, 569, 96, 254, 255, 256, 2, 257, 47, 515, 516, 517, 590, 591, 592, 93, 593, 594, 595, 596, 95, 94, 261, 262, 263, 264, 763, 764, 765, 766, 767, 768, 769, 770, 771, 772, 827, 828, 829, 830, 831] (by decide +kernel) (by decide +kernel)
set_option maxRecDepth 20000 in
theorem gL_law_X9_goalAt : GoodIn wsL_law (wsV RL 111 RX9 yX9_goalAt wsX9_goalAt) := goodIn_app (goodIn_of _ (by decide +kernel)) ggL_law_X9_goalAt
set_option maxRecDepth 20000 in
theorem ggL_law_X10_goalAt : GoodIn wsL_law wsX10_goalAt := goodIn_r _ [600, 157, 158, 577, 143, 270, 271, 272, 5, 273, 526, 527, 528, 601, 602, 603, 604, 145, 144, 773, 774, 775, 776, 777, 778, 779, 780, 781, 782, 783, 784, 785, 786, 787, 788, 789, 790, 791, 792, 793, 794, 795, 796, 797, 798, 799, 800, 801, 802, 803, 804, 805] (by decide +kernel) (by decide +kernel)
set_option maxRecDepth 20000 in
theorem gL_law_X10_goalAt : GoodIn wsL_law (wsV RL 114 RX10 yX10_goalAt wsX10_goalAt) := goodIn_app (goodIn_of _ (by decide +kernel)) ggL_law_X10_goalAt
set_option maxRecDepth 20000 in
theorem ggL_law_X9_run : GoodIn wsL_law wsX9_run := goodIn_r _ [608, 38, 166, 167, 168, 2, 169, 47, 609, 37, 610, 611, 100, 102, 101, 763, 764, 765, 766, 767, 768, 769, 770, 771, 772, 832, 833, 834] (by decide +kernel) (by decide +kernel)
set_option maxRecDepth 20000 in
theorem gL_law_X9_run : GoodIn wsL_law (wsV RL 115 RX9 yX9_run wsX9_run) := goodIn_app (goodIn_of _ (by decide +kernel)) ggL_law_X9_run
set_option maxRecDepth 20000 in
theorem ggL_law_X10_run : GoodIn wsL_law wsX10_run := goodIn_r _ [615, 157, 158, 616, 146, 147, 180, 181, 182, 5, 183, 773, 774, 775, 776, 777, 778, 779, 780, 781, 782, 783, 784, 785, 786, 787, 788, 789, 790, 791, 792, 793, 794, 795, 796, 797, 798, 799, 800, 801, 802, 803, 804, 805] (by decide +kernel) (by decide +kernel)
set_option maxRecDepth 20000 in
theorem gL_law_X10_run : GoodIn wsL_law (wsV RL 119 RX10 yX10_run wsX10_run) := goodIn_app (goodIn_of _ (by decide +kernel)) ggL_law_X10_run

set_option maxRecDepth 20000 in
theorem ggL_law_X9_elder : GoodIn wsL_law wsX9_elder := goodIn_r _ [250, 18, 251, 252, 2, 253, 254, 255, 256, 257, 47, 258, 17, 259, 260, 54, 59, 261, 262, 263, 264, 763, 764, 765, 766, 767, 768, 769, 770, 771, 772, 806, 807, 808, 809, 810, 811] (by decide +kernel) (by decide +kernel)
set_option maxRecDepth 20000 in
theorem gL_law_X9_elder : GoodIn wsL_law (wsV RL 40 RX9 yX9_elder wsX9_elder) := goodIn_app (goodIn_of _ (by decide +kernel)) ggL_law_X9_elder
set_option maxRecDepth 20000 in
theorem ggL_law_X10_elder : GoodIn wsL_law wsX10_elder := goodIn_r _ [268, 157, 158, 269, 130, 270, 271, 272, 5, 273, 773, 774, 775, 776, 777, 778, 779, 780, 781, 782, 783, 784, 785, 786, 787, 788, 789, 790, 791, 792, 793, 794, 795, 796, 797, 798, 799, 800, 801, 802, 803, 804, 805] (by decide +kernel) (by decide +kernel)
set_option maxRecDepth 20000 in
theorem gL_law_X10_elder : GoodIn wsL_law (wsV RL 44 RX10 yX10_elder wsX10_elder) := goodIn_app (goodIn_of _ (by decide +kernel)) ggL_law_X10_elder
set_option maxRecDepth 20000 in
theorem ggL_law_X9_beginner : GoodIn wsL_law wsX9_beginner := goodIn_r _ [277, 18, 254, 255, 256, 2, 257, 47, 278, 17, 279, 280, 60, 261, 262, 263, 264, 763, 764, 765, 766, 767, 768, 769, 770, 771, 772, 806, 807, 808, 809, 810, 811] (by decide +kernel) (by decide +kernel)
set_option maxRecDepth 20000 in
theorem gL_law_X9_beginner : GoodIn wsL_law (wsV RL 45 RX9 yX9_beginner wsX9_beginner) := goodIn_app (goodIn_of _ (by decide +kernel)) ggL_law_X9_beginner
set_option maxRecDepth 20000 in
theorem ggL_law_X10_beginner : GoodIn wsL_law wsX10_beginner := goodIn_r _ [284, 157, 158, 285, 134, 270, 271, 272, 5, 273, 773, 774, 775, 776, 777, 778, 779, 780, 781, 782, 783, 784, 785, 786, 787, 788, 789, 790, 791, 792, 793, 794, 795, 796, 797, 798, 799, 800, 801, 802, 803, 804, 805] (by decide +kernel) (by decide +kernel)
set_option maxRecDepth 20000 in
theorem gL_law_X10_beginner : GoodIn wsL_law (wsV RL 48 RX10 yX10_beginner wsX10_beginner) := goodIn_app (goodIn_of _ (by decide +kernel)) ggL_law_X10_beginner
set_option maxRecDepth 20000 in
theorem ggL_law_X9_places : GoodIn wsL_law wsX9_places := goodIn_r _ [289, 18, 290, 17, 291, 292, 59, 166, 167, 168, 2, 169, 47, 251, 252, 253, 763, 764, 765, 766, 767, 768, 769, 770, 771, 772, 806, 807, 808, 809, 810, 811] (by decide +kernel) (by decide +kernel)
set_option maxRecDepth 20000 in
theorem gL_law_X9_places : GoodIn wsL_law (wsV RL 49 RX9 yX9_places wsX9_places) := goodIn_app (goodIn_of _ (by decide +kernel)) ggL_law_X9_places
set_option maxRecDepth 20000 in
theorem ggL_law_X10_places : GoodIn wsL_law wsX10_places := goodIn_r _ [296, 157, 158, 130, 297, 298, 299, 5, 300, 269, 180, 181, 182, 183, 773, 774, 775, 776, 777, 778, 779, 780, 781, 782, 783, 784, 785, 786, 787, 788, 789, 790, 791, 792, 793, 794, 795, 796, 797, 798, 799, 800, 801, 802, 803, 804, 805] (by decide +kernel) (by decide +kernel)
set_option maxRecDepth 20000 in
theorem gL_law_X10_places : GoodIn wsL_law (wsV RL 53 RX10 yX10_places wsX10_places) := goodIn_app (goodIn_of _ (by decide +kernel)) ggL_law_X10_places
set_option maxRecDepth 20000 in
theorem ggL_law_X9_like : GoodIn wsL_law wsX9_like := goodIn_r _ [304, 18, 305, 17, 306, 307, 308, 290, 291, 292, 59, 309, 310, 311, 312, 60, 166, 167, 168, 2, 169, 47, 313, 314, 315, 55, 56, 316, 317, 318, 763, 764, 765, 766, 767, 768, 769, 770, 771, 772, 806, 807, 808, 809, 810, 811] (by decide +kernel) (by decide +kernel)
set_option maxRecDepth 20000 in
theorem gL_law_X9_like : GoodIn wsL_law (wsV RL 54 RX9 yX9_like wsX9_like) := goodIn_app (goodIn_of _ (by decide +kernel)) ggL_law_X9_like
set_option maxRecDepth 20000 in
theorem ggL_law_X10_like : GoodIn wsL_law wsX10_like := goodIn_r _ [322, 157, 158, 131, 132, 297, 298, 299, 5, 300, 269, 323, 324, 325, 326, 285, 180, 181, 182, 183, 773, 774, 775, 776, 777, 778, 779, 780, 781, 782, 783, 784, 785, 786, 787, 788, 789, 790, 791, 792, 793, 794, 795, 796, 797, 798, 799, 800, 801, 802, 803, 804, 805] (by decide +kernel) (by decide +kernel)
set_option maxRecDepth 20000 in
theorem gL_law_X10_like : GoodIn wsL_law (wsV RL 58 RX10 yX10_like wsX10_like) := goodIn_app (goodIn_of _ (by decide +kernel)) ggL_law_X10_like
set_option maxRecDepth 20000 in
theorem ggL_law_X9_bar : GoodIn wsL_law wsX9_bar := goodIn_r _ [330, 18, 305, 17, 306, 307, 308, 290, 291, 292, 59, 309, 310, 311, 312, 60, 166, 167, 168, 2, 169, 47, 331, 332, 333, 58, 316, 317, 318, 334, 335, 336, 763, 764, 765, 766, 767, 768, 769, 770, 771, 772, 806, 807, 808, 809, 810, 811] (by decide +kernel) (by decide +kernel)
set_option maxRecDepth 20000 in
theorem gL_law_X9_bar : GoodIn wsL_law (wsV RL 59 RX9 yX9_bar wsX9_bar) := goodIn_app (goodIn_of _ (by decide +kernel)) ggL_law_X9_bar
set_option maxRecDepth 20000 in
theorem ggL_law_X10_bar : GoodIn wsL_law wsX10_bar := goodIn_r _ [340, 157, 158, 133, 297, 298, 299, 5, 300, 269, 323, 324, 325, 326, 285, 180, 181, 182, 183, 773, 774, 775, 776, 777, 778, 779, 780, 781, 782, 783, 784, 785, 786, 787, 788, 789, 790, 791, 792, 793, 794, 795, 796, 797, 798, 799, 800, 801, 802, 803, 804, 805] (by decide +kernel) (by decide +kernel)
set_option maxRecDepth 20000 in
theorem gL_law_X10_bar : GoodIn wsL_law (wsV RL 63 RX10 yX10_bar wsX10_bar) := goodIn_app (goodIn_of _ (by decide +kernel)) ggL_law_X10_bar
set_option maxRecDepth 20000 in
theorem ggL_law_X9_pair : GoodIn wsL_law wsX9_pair := goodIn_r _ [344, 22, 18, 345, 21, 346, 347, 66, 64, 65, 67, 68, 69, 70, 348, 349, 350, 351, 352, 353, 354, 355, 356, 17, 357, 358, 55, 56, 58, 316, 317, 318, 359, 360, 361, 362, 363, 364, 365, 366, 367, 368, 369, 370, 371, 372, 373, 374, 375, 376, 377, 378, 379, 380, 381, 382, 383, 384, 261, 262, 263, 2, 264, 47, 763, 764, 765, 766, 767, 768, 769, 770, 771, 772, 812, 813, 814, 806, 807, 808, 809, 810, 811] (by decide +kernel) (by decide +kernel)
set_option maxRecDepth 20000 in
theorem gL_law_X9_pair : GoodIn wsL_law (wsV RL 64 RX9 yX9_pair wsX9_pair) := goodIn_app (goodIn_of _ (by decide +kernel)) ggL_law_X9_pair
set_option maxRecDepth 20000 in
theorem ggL_law_X10_pair : GoodIn wsL_law wsX10_pair := goodIn_r _ [388, 157, 158, 285, 134, 135, 130, 389, 390, 391, 392, 5, 393, 269, 394, 395, 396, 397, 131, 132, 133, 398, 399, 400, 401, 402, 403, 404, 405, 406, 407, 408, 409, 410, 411, 412, 413, 414, 415, 416, 417, 773, 774, 775, 776, 777, 778, 779, 780, 781, 782, 783, 784, 785, 786, 787, 788, 789, 790, 791, 792, 793, 794, 795, 796, 797, 798, 799, 800, 801, 802, 803, 804, 805] (by decide +kernel) (by decide +kernel)
set_option maxRecDepth 20000 in
theorem gL_law_X10_pair : GoodIn wsL_law (wsV RL 67 RX10 yX10_pair wsX10_pair) := goodIn_app (goodIn_of _ (by decide +kernel)) ggL_law_X10_pair

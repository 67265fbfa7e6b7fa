set_option maxRecDepth 20000 in
theorem ggL_law_X9_elderOf : GoodIn wsL_law wsX9_elderOf := goodIn_r _ [421, 22, 422, 423, 424, 2, 425, 18, 310, 17, 311, 312, 60, 261, 262, 263, 264, 47, 254, 255, 256, 257, 763, 764, 765, 766, 767, 768, 769, 770, 771, 772, 812, 813, 814, 806, 807, 808, 809, 810, 811] (by decide +kernel) (by decide +kernel)
set_option maxRecDepth 20000 in
theorem gL_law_X9_elderOf : GoodIn wsL_law (wsV RL 68 RX9 yX9_elderOf wsX9_elderOf) := goodIn_app (goodIn_of _ (by decide +kernel)) ggL_law_X9_elderOf
set_option maxRecDepth 20000 in
theorem ggL_law_X10_elderOf : GoodIn wsL_law wsX10_elderOf := goodIn_r _ [429, 157, 158, 389, 134, 323, 324, 325, 5, 326, 285, 270, 271, 272, 273, 773, 774, 775, 776, 777, 778, 779, 780, 781, 782, 783, 784, 785, 786, 787, 788, 789, 790, 791, 792, 793, 794, 795, 796, 797, 798, 799, 800, 801, 802, 803, 804, 805] (by decide +kernel) (by decide +kernel)
set_option maxRecDepth 20000 in
theorem gL_law_X10_elderOf : GoodIn wsL_law (wsV RL 71 RX10 yX10_elderOf wsX10_elderOf) := goodIn_app (goodIn_of _ (by decide +kernel)) ggL_law_X10_elderOf
set_option maxRecDepth 20000 in
theorem ggL_law_X9_has : GoodIn wsL_law wsX9_has := goodIn_r _ [433, 18, 22, 290, 17, 291, 292, 59, 254, 255, 256, 2, 257, 47, 371, 21, 372, 373, 64, 261, 262, 263, 264, 763, 764, 765, 766, 767, 768, 769, 770, 771, 772, 812, 813, 814, 806, 807, 808, 809, 810, 811] (by decide +kernel) (by decide +kernel)
set_option maxRecDepth 20000 in
theorem gL_law_X9_has : GoodIn wsL_law (wsV RL 72 RX9 yX9_has wsX9_has) := goodIn_app (goodIn_of _ (by decide +kernel)) ggL_law_X9_has
set_option maxRecDepth 20000 in
theorem ggL_law_X10_has : GoodIn wsL_law wsX10_has := goodIn_r _ [437, 157, 158, 389, 297, 298, 299, 5, 300, 269, 270, 271, 272, 273, 406, 407, 408, 409, 285, 134, 773, 774, 775, 776, 777, 778, 779, 780, 781, 782, 783, 784, 785, 786, 787, 788, 789, 790, 791, 792, 793, 794, 795, 796, 797, 798, 799, 800, 801, 802, 803, 804, 805] (by decide +kernel) (by decide +kernel)
set_option maxRecDepth 20000 in
theorem gL_law_X10_has : GoodIn wsL_law (wsV RL 75 RX10 yX10_has wsX10_has) := goodIn_app (goodIn_of _ (by decide +kernel)) ggL_law_X10_has
set_option maxRecDepth 20000 in
theorem ggL_law_X9_blocks : GoodIn wsL_law wsX9_blocks := goodIn_r _ [441, 22, 18, 254, 255, 256, 2, 257, 47, 442, 21, 443, 444, 445, 446, 447, 448, 64, 356, 17, 357, 358, 55, 56, 58, 316, 317, 318, 359, 360, 361, 366, 367, 368, 369, 370, 371, 372, 373, 374, 375, 376, 377, 378, 379, 380, 261, 262, 263, 264, 763, 764, 765, 766, 767, 768, 769, 770, 771, 772, 812, 813, 814, 806, 807, 808, 809, 810, 811] (by decide +kernel) (by decide +kernel)
set_option maxRecDepth 20000 in
theorem gL_law_X9_blocks : GoodIn wsL_law (wsV RL 76 RX9 yX9_blocks wsX9_blocks) := goodIn_app (goodIn_of _ (by decide +kernel)) ggL_law_X9_blocks
set_option maxRecDepth 20000 in
theorem ggL_law_X10_blocks : GoodIn wsL_law wsX10_blocks := goodIn_r _ [452, 157, 158, 389, 269, 285, 270, 271, 272, 5, 273, 453, 454, 455, 456, 134, 130, 394, 395, 396, 397, 131, 132, 133, 402, 403, 404, 405, 406, 407, 408, 409, 410, 411, 412, 413, 414, 415, 416, 417, 773, 774, 775, 776, 777, 778, 779, 780, 781, 782, 783, 784, 785, 786, 787, 788, 789, 790, 791, 792, 793, 794, 795, 796, 797, 798, 799, 800, 801, 802, 803, 804, 805] (by decide +kernel) (by decide +kernel)
set_option maxRecDepth 20000 in
theorem gL_law_X10_blocks : GoodIn wsL_law (wsV RL 79 RX10 yX10_blocks wsX10_blocks) := goodIn_app (goodIn_of _ (by decide +kernel)) ggL_law_X10_blocks
set_option maxRecDepth 20000 in
theorem ggL_law_X9_block : GoodIn wsL_law wsX9_block := goodIn_r _ [460, 18, 22, 305, 17, 306, 307, 308, 290, 291, 292, 59, 309, 310, 311, 312, 60, 254, 255, 256, 2, 257, 47, 446, 21, 447, 448, 64, 356, 357, 358, 55, 56, 58, 316, 317, 318, 359, 360, 361, 366, 367, 368, 369, 370, 371, 372, 373, 374, 375, 376, 377, 378, 379, 380, 261, 262, 263, 264, 763, 764, 765, 766, 767, 768, 769, 770, 771, 772, 812, 813, 814, 806, 807, 808, 809, 810, 811] (by decide +kernel) (by decide +kernel)
set_option maxRecDepth 20000 in
theorem gL_law_X9_block : GoodIn wsL_law (wsV RL 80 RX9 yX9_block wsX9_block) := goodIn_app (goodIn_of _ (by decide +kernel)) ggL_law_X9_block
set_option maxRecDepth 20000 in
theorem ggL_law_X10_block : GoodIn wsL_law wsX10_block := goodIn_r _ [464, 157, 158, 389, 297, 298, 299, 5, 300, 269, 323, 324, 325, 326, 285, 270, 271, 272, 273, 453, 454, 455, 456, 134, 130, 394, 395, 396, 397, 131, 132, 133, 402, 403, 404, 405, 406, 407, 408, 409, 410, 411, 412, 413, 414, 415, 416, 417, 773, 774, 775, 776, 777, 778, 779, 780, 781, 782, 783, 784, 785, 786, 787, 788, 789, 790, 791, 792, 793, 794, 795, 796, 797, 798, 799, 800, 801, 802, 803, 804, 805] (by decide +kernel) (by decide +kernel)
set_option maxRecDepth 20000 in
theorem gL_law_X10_block : GoodIn wsL_law (wsV RL 84 RX10 yX10_block wsX10_block) := goodIn_app (goodIn_of _ (by decide +kernel)) ggL_law_X10_block
set_option maxRecDepth 20000 in
theorem ggL_law_X9_change : GoodIn wsL_law wsX9_change := goodIn_r _ [468, 22, 26, 18, 422, 423, 424, 2, 425, 310, 17, 311, 312, 60, 254, 255, 256, 257, 47, 469, 25, 470, 471, 75, 77, 74, 76, 78, 472, 68, 69, 70, 473, 474, 475, 476, 477, 478, 479, 356, 357, 358, 55, 56, 58, 316, 317, 318, 480, 481, 482, 483, 371, 21, 372, 373, 64, 484, 485, 486, 487, 488, 489, 490, 491, 334, 335, 336, 492, 493, 494, 261, 262, 263, 264, 763, 764, 765, 766, 767, 768, 769, 770, 771, 772, 812, 813, 814, 806, 807, 808, 809, 810, 811, 815, 816, 817, 818, 819] (by decide +kernel) (by decide +kernel)
set_option maxRecDepth 20000 in
theorem gL_law_X9_change : GoodIn wsL_law (wsV RL 85 RX9 yX9_change wsX9_change) := goodIn_app (goodIn_of _ (by decide +kernel)) ggL_law_X9_change
set_option maxRecDepth 20000 in
theorem ggL_law_X10_change : GoodIn wsL_law wsX10_change := goodIn_r _ [498, 157, 158, 389, 134, 133, 136, 269, 148, 285, 323, 324, 325, 5, 326, 270, 271, 272, 273, 499, 500, 501, 502, 394, 395, 396, 397, 131, 132, 503, 504, 505, 506, 130, 406, 407, 408, 409, 507, 508, 509, 510, 773, 774, 775, 776, 777, 778, 779, 780, 781, 782, 783, 784, 785, 786, 787, 788, 789, 790, 791, 792, 793, 794, 795, 796, 797, 798, 799, 800, 801, 802, 803, 804, 805] (by decide +kernel) (by decide +kernel)
set_option maxRecDepth 20000 in
theorem gL_law_X10_change : GoodIn wsL_law (wsV RL 88 RX10 yX10_change wsX10_change) := goodIn_app (goodIn_of _ (by decide +kernel)) ggL_law_X10_change
set_option maxRecDepth 20000 in
theorem ggL_law_X9_meeting : GoodIn wsL_law wsX9_meeting := goodIn_r _ [514, 18, 30, 310, 17, 311, 312, 60, 254, 255, 256, 2, 257, 47, 515, 516, 517, 518, 29, 519, 520, 82, 87, 83, 261, 262, 263, 264, 763, 764, 765, 766, 767, 768, 769, 770, 771, 772, 820, 821, 822, 823, 824, 825, 826, 806, 807, 808, 809, 810, 811] (by decide +kernel) (by decide +kernel)
set_option maxRecDepth 20000 in
theorem gL_law_X9_meeting : GoodIn wsL_law (wsV RL 89 RX9 yX9_meeting wsX9_meeting) := goodIn_app (goodIn_of _ (by decide +kernel)) ggL_law_X9_meeting
set_option maxRecDepth 20000 in
theorem ggL_law_X10_meeting : GoodIn wsL_law wsX10_meeting := goodIn_r _ [524, 157, 158, 525, 137, 138, 323, 324, 325, 5, 326, 285, 270, 271, 272, 273, 526, 527, 528, 773, 774, 775, 776, 777, 778, 779, 780, 781, 782, 783, 784, 785, 786, 787, 788, 789, 790, 791, 792, 793, 794, 795, 796, 797, 798, 799, 800, 801, 802, 803, 804, 805] (by decide +kernel) (by decide +kernel)
set_option maxRecDepth 20000 in
theorem gL_law_X10_meeting : GoodIn wsL_law (wsV RL 92 RX10 yX10_meeting wsX10_meeting) := goodIn_app (goodIn_of _ (by decide +kernel)) ggL_law_X10_meeting

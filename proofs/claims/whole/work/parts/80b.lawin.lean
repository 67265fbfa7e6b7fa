set_option maxRecDepth 20000 in
theorem wsL_in_12 : ∀ w ∈ wsL_law_r12, w ∈ lw_tbl := in_r _ [424, 906, 907, 908, 909, 777, 910, 912, 63, 913, 425, 426, 427, 428, 431, 11, 432, 914, 915, 916, 917, 778, 433, 434] (by decide +kernel)
set_option maxRecDepth 20000 in
theorem wsL_in_13 : ∀ w ∈ wsL_law_r13, w ∈ lw_tbl := in_r _ [435, 436, 439, 12, 440, 918, 919, 920, 921, 922, 924, 64, 925, 441, 442, 443, 444, 447, 13, 448, 449, 450, 452, 14] (by decide +kernel)
set_option maxRecDepth 20000 in
theorem wsL_in_14 : ∀ w ∈ wsL_law_r14, w ∈ lw_tbl := in_r _ [453, 456, 15, 457, 458, 459, 460, 926, 927, 928, 929, 930, 932, 65, 933, 461, 462, 463, 464, 467, 16, 468, 471, 17] (by decide +kernel)
set_option maxRecDepth 20000 in
theorem wsL_in_15 : ∀ w ∈ wsL_law_r15, w ∈ lw_tbl := in_r _ [472, 934, 935, 936, 937, 473, 474, 475, 476, 479, 18, 480, 481, 483, 19, 484, 485, 487, 20, 488, 491, 21, 492, 495] (by decide +kernel)
set_option maxRecDepth 20000 in
theorem wsL_in_16 : ∀ w ∈ wsL_law_r16, w ∈ lw_tbl := in_r _ [22, 496, 497, 499, 23, 500, 501, 503, 24, 504, 505, 507, 25, 508, 509, 511, 26, 512, 515, 27, 516, 517, 519, 28] (by decide +kernel)
set_option maxRecDepth 20000 in
theorem wsL_in_17 : ∀ w ∈ wsL_law_r17, w ∈ lw_tbl := in_r _ [520, 938, 939, 940, 941, 783, 942, 944, 66, 945, 946, 948, 67, 949, 950, 952, 68, 953, 954, 956, 69, 957, 958, 960] (by decide +kernel)
set_option maxRecDepth 20000 in
theorem wsL_in_18 : ∀ w ∈ wsL_law_r18, w ∈ lw_tbl := in_r _ [70, 961, 962, 964, 71, 965, 966, 968, 72, 969, 521, 522, 523, 524, 525, 527, 29, 528, 970, 971, 972, 973, 530, 531] (by decide +kernel)
set_option maxRecDepth 20000 in
theorem wsL_in_19 : ∀ w ∈ wsL_law_r19, w ∈ lw_tbl := in_r _ [532, 533, 974, 975, 976, 977, 535, 536, 537, 538, 541, 30, 542, 543, 545, 31, 546, 978, 979, 980, 981, 982, 984, 73] (by decide +kernel)
set_option maxRecDepth 20000 in
theorem wsL_in_20 : ∀ w ∈ wsL_law_r20, w ∈ lw_tbl := in_r _ [985, 547, 548, 549, 550, 986, 987, 988, 989, 552, 553, 554, 555, 558, 32, 559, 560, 561, 563, 33, 564, 565, 566, 567] (by decide +kernel)
set_option maxRecDepth 20000 in
theorem wsL_in_21 : ∀ w ∈ wsL_law_r21, w ∈ lw_tbl := in_r _ [569, 571, 34, 572, 574, 576, 35, 577, 578, 580, 36, 581, 584, 37, 585, 990, 991, 992, 993, 994, 996, 74, 997, 998] (by decide +kernel)
set_option maxRecDepth 20000 in
theorem wsL_in_22 : ∀ w ∈ wsL_law_r22, w ∈ lw_tbl := in_r _ [1000, 75, 1001, 1002, 1004, 76, 1005, 586, 587, 588, 589, 590, 591, 592, 595, 38, 596, 1006, 1007, 1008, 1009, 787, 1010, 1011] (by decide +kernel)

set_option maxRecDepth 20000 in
theorem wsL_in_23 : ∀ w ∈ wsL_law_r23, w ∈ lw_tbl := in_r _ [1012, 597, 598, 599, 600, 603, 39, 604, 607, 40, 608, 1013, 1014, 1015, 1016, 788, 609, 610, 611, 612, 615, 41, 616, 617] (by decide +kernel)
set_option maxRecDepth 20000 in
theorem wsL_in_24 : ∀ w ∈ wsL_law_r24, w ∈ lw_tbl := in_r _ [619, 42, 620, 1017, 1018, 1019, 1020, 621, 622, 623, 624, 627, 43, 628, 629, 631, 44, 632, 635, 45, 636, 1021, 1022, 1023] (by decide +kernel)
set_option maxRecDepth 20000 in
theorem wsL_in_25 : ∀ w ∈ wsL_law_r25, w ∈ lw_tbl := in_r _ [1024, 794, 637, 638, 639, 640, 1025, 1026, 1027, 1028, 642, 643, 644, 645, 648, 46, 649, 650, 652, 47, 653, 1029, 1030, 1031] (by decide +kernel)
set_option maxRecDepth 20000 in
theorem wsL_in_26 : ∀ w ∈ wsL_law_r26, w ∈ lw_tbl := in_r _ [1032, 1033, 1035, 77, 1036, 654, 655, 656, 657, 660, 48, 661, 1037, 1038, 1039, 1040, 799, 662, 663, 664, 665, 1041, 1042, 1043] (by decide +kernel)
set_option maxRecDepth 20000 in
theorem wsL_in_27 : ∀ w ∈ wsL_law_r27, w ∈ lw_tbl := in_r _ [1044, 666, 667, 668, 669, 672, 49, 673, 674, 676, 50, 677, 678, 680, 51, 681, 684, 52, 685, 686, 687, 95, 688, 689] (by decide +kernel)
set_option maxRecDepth 20000 in
theorem wsL_in_28 : ∀ w ∈ wsL_law_r28, w ∈ lw_tbl := in_r _ [690, 691, 1045, 1046, 1047, 1048, 1049, 1051, 78, 1052, 772, 1053, 1054, 1055, 1056, 692, 693, 694, 695, 1057, 1058, 1059, 1060, 696] (by decide +kernel)
set_option maxRecDepth 20000 in
theorem wsL_in_29 : ∀ w ∈ wsL_law_r29, w ∈ lw_tbl := in_r _ [697, 698, 699, 1061, 1062, 1063, 1064, 700, 701, 702, 703, 704, 706, 53, 707, 710, 54, 711, 712, 715, 55, 716, 717, 719] (by decide +kernel)
set_option maxRecDepth 20000 in
theorem wsL_in_30 : ∀ w ∈ wsL_law_r30, w ∈ lw_tbl := in_r _ [56, 720, 721, 722, 96, 723, 724, 727, 57, 728, 729, 730, 731, 732, 733, 734, 735, 737, 58, 738, 1065, 1066, 1067, 1068] (by decide +kernel)
set_option maxRecDepth 20000 in
theorem wsL_in_31 : ∀ w ∈ wsL_law_r31, w ∈ lw_tbl := in_r _ [1069, 1071, 79, 1072, 1073, 1074, 1075, 1077, 80, 1078, 740, 741, 742, 743, 746, 59, 747, 748, 749, 750, 751, 752, 753, 1079] (by decide +kernel)
set_option maxRecDepth 20000 in
theorem wsL_in_32 : ∀ w ∈ wsL_law_r32, w ∈ lw_tbl := in_r _ [1080, 1081, 1082, 754, 755, 756, 757, 759, 760, 761, 762, 763, 1083, 1084, 1085, 1086, 1087, 1088, 1089] (by decide +kernel)

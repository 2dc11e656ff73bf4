set_option maxRecDepth 20000 in
theorem ggL_law_X6_settledTicks : GoodIn wsL_law wsX6_settledTicks := goodIn_r _ [734, 276, 136, 27, 719, 723, 735, 736, 457, 737, 446, 738, 456, 458, 630, 474, 475, 26, 476, 66, 72, 477, 2, 478, 479, 480, 481, 482, 875, 876, 877, 878, 879, 880, 881, 882, 883, 884, 885, 912, 913, 914, 915, 916, 917, 918, 919, 920, 921, 922, 923, 924, 925] (by decide +kernel) (by decide +kernel)
set_option maxRecDepth 20000 in
theorem gL_law_X6_settledTicks : GoodIn wsL_law (wsV RL 109 RX6 yX6_settledTicks wsX6_settledTicks) := goodIn_app (goodIn_of _ (by decide +kernel)) ggL_law_X6_settledTicks
set_option maxRecDepth 20000 in
theorem ggL_law_X7_settledTicks : GoodIn wsL_law wsX7_settledTicks := goodIn_r _ [742, 290, 166, 104, 171, 172, 5, 173, 570, 571, 572, 573, 564, 585, 586, 587, 886, 887, 888, 889, 890, 891, 892, 893, 894, 895, 896, 897, 898, 899, 900, 901, 902, 903] (by decide +kernel) (by decide +kernel)
set_option maxRecDepth 20000 in
theorem gL_law_X7_settledTicks : GoodIn wsL_law (wsV RL 112 RX7 yX7_settledTicks wsX7_settledTicks) := goodIn_app (goodIn_of _ (by decide +kernel)) ggL_law_X7_settledTicks
set_option maxRecDepth 20000 in
theorem ggL_law_X6_store : GoodIn wsL_law wsX6_store := goodIn_r _ [746, 30, 315, 27, 747, 748, 749, 2, 750, 28, 29, 751, 752, 753, 26, 754, 66, 67, 68, 69, 70, 71, 755, 42, 43, 44, 72, 76, 80, 756, 757, 758, 75, 759, 85, 86, 87, 88, 89, 760, 761, 762, 79, 763, 94, 764, 95, 96, 97, 98, 875, 876, 877, 878, 879, 880, 881, 882, 883, 884, 885, 912, 913, 914, 915, 916, 917, 918, 919, 920, 921, 922, 923, 924, 925, 926, 927, 928, 929, 930] (by decide +kernel) (by decide +kernel)
set_option maxRecDepth 20000 in
theorem gL_law_X6_store : GoodIn wsL_law (wsV RL 113 RX6 yX6_store wsX6_store) := goodIn_app (goodIn_of _ (by decide +kernel)) ggL_law_X6_store
set_option maxRecDepth 20000 in
theorem ggL_law_X7_store : GoodIn wsL_law wsX7_store := goodIn_r _ [768, 649, 327, 106, 104, 886, 887, 888, 889, 890, 891, 892, 893, 894, 895, 896, 897, 898, 899, 900, 901, 902, 903] (by decide +kernel) (by decide +kernel)
set_option maxRecDepth 20000 in
theorem gL_law_X7_store : GoodIn wsL_law (wsV RL 116 RX7 yX7_store wsX7_store) := goodIn_app (goodIn_of _ (by decide +kernel)) ggL_law_X7_store
set_option maxRecDepth 20000 in
theorem ggL_law_X6_recall : GoodIn wsL_law wsX6_recall := goodIn_r _ [772, 30, 258, 27, 747, 748, 749, 2, 750, 28, 29, 751, 752, 753, 26, 754, 66, 67, 68, 69, 70, 71, 755, 42, 43, 44, 72, 76, 80, 756, 757, 758, 75, 759, 85, 86, 87, 88, 89, 760, 761, 762, 79, 763, 94, 764, 95, 96, 97, 98, 875, 876, 877, 878, 879, 880, 881, 882, 883, 884, 885, 912, 913, 914, 915, 916, 917, 918, 919, 920, 921, 922, 923, 924, 925, 926, 927, 928, 929, 930] (by decide +kernel) (by decide +kernel)
set_option maxRecDepth 20000 in
theorem gL_law_X6_recall : GoodIn wsL_law (wsV RL 117 RX6 yX6_recall wsX6_recall) := goodIn_app (goodIn_of _ (by decide +kernel)) ggL_law_X6_recall
set_option maxRecDepth 20000 in
theorem ggL_law_X7_recall : GoodIn wsL_law wsX7_recall := goodIn_r _ [776, 649, 267, 104, 106, 886, 887, 888, 889, 890, 891, 892, 893, 894, 895, 896, 897, 898, 899, 900, 901, 902, 903] (by decide +kernel) (by decide +kernel)
set_option maxRecDepth 20000 in
theorem gL_law_X7_recall : GoodIn wsL_law (wsV RL 120 RX7 yX7_recall wsX7_recall) := goodIn_app (goodIn_of _ (by decide +kernel)) ggL_law_X7_recall
set_option maxRecDepth 20000 in
theorem ggL_law_X6_correlation : GoodIn wsL_law wsX6_correlation := goodIn_r _ [780, 724, 781, 782, 783, 2, 784, 27, 15, 785, 786, 787, 26, 788, 66, 789, 523, 457, 524, 473, 474, 475, 476, 72, 477, 478, 479, 480, 481, 482, 145, 146, 147, 14, 148, 40, 143, 144, 875, 876, 877, 878, 879, 880, 881, 882, 883, 884, 885, 912, 913, 914, 915, 916, 917, 918, 919, 920, 904] (by decide +kernel) (by decide +kernel)
set_option maxRecDepth 20000 in
theorem gL_law_X6_correlation : GoodIn wsL_law (wsV RL 121 RX6 yX6_correlation wsX6_correlation) := goodIn_app (goodIn_of _ (by decide +kernel)) ggL_law_X6_correlation
set_option maxRecDepth 20000 in
theorem ggL_law_X7_correlation : GoodIn wsL_law wsX7_correlation := goodIn_r _ [793, 794, 730, 171, 172, 5, 173, 795, 796, 797, 798, 104, 324, 559, 107, 570, 571, 572, 573, 564, 886, 887, 888, 889, 890, 891, 892, 893, 894, 895, 896, 897, 898, 899, 900, 901, 902, 903] (by decide +kernel) (by decide +kernel)
set_option maxRecDepth 20000 in
theorem gL_law_X7_correlation : GoodIn wsL_law (wsV RL 124 RX7 yX7_correlation wsX7_correlation) := goodIn_app (goodIn_of _ (by decide +kernel)) ggL_law_X7_correlation

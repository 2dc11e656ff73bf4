set_option maxRecDepth 20000 in
theorem ggL_law_X6_unwatch : GoodIn wsL_law wsX6_unwatch := goodIn_r _ [680, 136, 27, 658, 659, 191, 613, 477, 2, 478, 681, 682, 683, 79, 684, 98, 94, 95, 96, 97, 664, 665, 666, 667, 875, 876, 877, 878, 879, 880, 881, 882, 883, 884, 885, 912, 913, 914, 915, 916, 917, 918, 919, 920, 926, 927, 928, 929, 930] (by decide +kernel) (by decide +kernel)
set_option maxRecDepth 20000 in
theorem gL_law_X6_unwatch : GoodIn wsL_law (wsV RL 92 RX6 yX6_unwatch wsX6_unwatch) := goodIn_app (goodIn_of _ (by decide +kernel)) ggL_law_X6_unwatch
set_option maxRecDepth 20000 in
theorem ggL_law_X7_unwatch : GoodIn wsL_law wsX7_unwatch := goodIn_r _ [688, 166, 248, 104, 689, 690, 618, 619, 5, 620, 621, 171, 172, 173, 673, 674, 675, 676, 886, 887, 888, 889, 890, 891, 892, 893, 894, 895, 896, 897, 898, 899, 900, 901, 902, 903] (by decide +kernel) (by decide +kernel)
set_option maxRecDepth 20000 in
theorem gL_law_X7_unwatch : GoodIn wsL_law (wsV RL 95 RX7 yX7_unwatch wsX7_unwatch) := goodIn_app (goodIn_of _ (by decide +kernel)) ggL_law_X7_unwatch
set_option maxRecDepth 20000 in
theorem ggL_law_X6_watchedAt : GoodIn wsL_law wsX6_watchedAt := goodIn_r _ [694, 136, 27, 658, 659, 695, 191, 875, 876, 877, 878, 879, 880, 881, 882, 883, 884, 885, 912, 913, 914, 915, 916, 917, 918, 919, 920, 926, 927, 928, 929, 930] (by decide +kernel) (by decide +kernel)
set_option maxRecDepth 20000 in
theorem gL_law_X6_watchedAt : GoodIn wsL_law (wsV RL 96 RX6 yX6_watchedAt wsX6_watchedAt) := goodIn_app (goodIn_of _ (by decide +kernel)) ggL_law_X6_watchedAt
set_option maxRecDepth 20000 in
theorem ggL_law_X7_watchedAt : GoodIn wsL_law wsX7_watchedAt := goodIn_r _ [699, 166, 104, 248, 886, 887, 888, 889, 890, 891, 892, 893, 894, 895, 896, 897, 898, 899, 900, 901, 902, 903] (by decide +kernel) (by decide +kernel)
set_option maxRecDepth 20000 in
theorem gL_law_X7_watchedAt : GoodIn wsL_law (wsV RL 99 RX7 yX7_watchedAt wsX7_watchedAt) := goodIn_app (goodIn_of _ (by decide +kernel)) ggL_law_X7_watchedAt
set_option maxRecDepth 20000 in
theorem ggL_law_X6_extreme : GoodIn wsL_law wsX6_extreme := goodIn_r _ [703, 136, 27, 658, 258, 191, 613, 477, 2, 478, 704, 665, 666, 79, 667, 98, 94, 705, 534, 535, 536, 97, 706, 707, 708, 709, 710, 95, 96, 875, 876, 877, 878, 879, 880, 881, 882, 883, 884, 885, 912, 913, 914, 915, 916, 917, 918, 919, 920, 926, 927, 928, 929, 930] (by decide +kernel) (by decide +kernel)
set_option maxRecDepth 20000 in
theorem gL_law_X6_extreme : GoodIn wsL_law (wsV RL 100 RX6 yX6_extreme wsX6_extreme) := goodIn_app (goodIn_of _ (by decide +kernel)) ggL_law_X6_extreme
set_option maxRecDepth 20000 in
theorem ggL_law_X7_extreme : GoodIn wsL_law wsX7_extreme := goodIn_r _ [714, 559, 166, 267, 104, 248, 618, 619, 5, 620, 621, 171, 172, 173, 673, 674, 675, 676, 886, 887, 888, 889, 890, 891, 892, 893, 894, 895, 896, 897, 898, 899, 900, 901, 902, 903] (by decide +kernel) (by decide +kernel)
set_option maxRecDepth 20000 in
theorem gL_law_X7_extreme : GoodIn wsL_law (wsV RL 103 RX7 yX7_extreme wsX7_extreme) := goodIn_app (goodIn_of _ (by decide +kernel)) ggL_law_X7_extreme
set_option maxRecDepth 20000 in
theorem ggL_law_X6_measure : GoodIn wsL_law wsX6_measure := goodIn_r _ [718, 27, 719, 720, 721, 722, 723, 724, 875, 876, 877, 878, 879, 880, 881, 882, 883, 884, 885, 912, 913, 914, 915, 916, 917, 918, 919, 920, 921, 922, 923, 924, 925] (by decide +kernel) (by decide +kernel)
set_option maxRecDepth 20000 in
theorem gL_law_X6_measure : GoodIn wsL_law (wsV RL 104 RX6 yX6_measure wsX6_measure) := goodIn_app (goodIn_of _ (by decide +kernel)) ggL_law_X6_measure
set_option maxRecDepth 20000 in
theorem ggL_law_X7_measure : GoodIn wsL_law wsX7_measure := goodIn_r _ [728, 729, 104, 730, 171, 172, 5, 173, 886, 887, 888, 889, 890, 891, 892, 893, 894, 895, 896, 897, 898, 899, 900, 901, 902, 903] (by decide +kernel) (by decide +kernel)
set_option maxRecDepth 20000 in
theorem gL_law_X7_measure : GoodIn wsL_law (wsV RL 108 RX7 yX7_measure wsX7_measure) := goodIn_app (goodIn_of _ (by decide +kernel)) ggL_law_X7_measure

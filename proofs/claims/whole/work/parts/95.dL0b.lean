set_option maxRecDepth 20000 in
theorem ggL_law_X6_undo : GoodIn wsL_law wsX6_undo := goodIn_r _ [256, 19, 257, 258, 15, 259, 260, 261, 18, 262, 51, 50, 153, 42, 43, 44, 875, 876, 877, 878, 879, 880, 881, 882, 883, 884, 885, 905, 906, 904] (by decide +kernel) (by decide +kernel)
set_option maxRecDepth 20000 in
theorem gL_law_X6_undo : GoodIn wsL_law (wsV RL 27 RX6 yX6_undo wsX6_undo) := goodIn_app (goodIn_of _ (by decide +kernel)) ggL_law_X6_undo
set_option maxRecDepth 20000 in
theorem ggL_law_X7_undo : GoodIn wsL_law wsX7_undo := goodIn_r _ [266, 178, 267, 107, 109, 886, 887, 888, 889, 890, 891, 892, 893, 894, 895, 896, 897, 898, 899, 900, 901, 902, 903] (by decide +kernel) (by decide +kernel)
set_option maxRecDepth 20000 in
theorem gL_law_X7_undo : GoodIn wsL_law (wsV RL 31 RX7 yX7_undo wsX7_undo) := goodIn_app (goodIn_of _ (by decide +kernel)) ggL_law_X7_undo
set_option maxRecDepth 20000 in
theorem ggL_law_X6_setSetpoint : GoodIn wsL_law wsX6_setSetpoint := goodIn_r _ [271, 27, 136, 272, 273, 2, 274, 275, 276, 277, 278, 279, 26, 280, 71, 76, 281, 282, 283, 75, 284, 85, 86, 87, 88, 89, 875, 876, 877, 878, 879, 880, 881, 882, 883, 884, 885, 912, 913, 914, 915, 916, 917, 918, 919, 920, 921, 922, 923, 924, 925] (by decide +kernel) (by decide +kernel)
set_option maxRecDepth 20000 in
theorem gL_law_X6_setSetpoint : GoodIn wsL_law (wsV RL 32 RX6 yX6_setSetpoint wsX6_setSetpoint) := goodIn_app (goodIn_of _ (by decide +kernel)) ggL_law_X6_setSetpoint
set_option maxRecDepth 20000 in
theorem ggL_law_X7_setSetpoint : GoodIn wsL_law wsX7_setSetpoint := goodIn_r _ [288, 289, 290, 166, 104, 171, 172, 5, 173, 886, 887, 888, 889, 890, 891, 892, 893, 894, 895, 896, 897, 898, 899, 900, 901, 902, 903] (by decide +kernel) (by decide +kernel)
set_option maxRecDepth 20000 in
theorem gL_law_X7_setSetpoint : GoodIn wsL_law (wsV RL 35 RX7 yX7_setSetpoint wsX7_setSetpoint) := goodIn_app (goodIn_of _ (by decide +kernel)) ggL_law_X7_setSetpoint
set_option maxRecDepth 20000 in
theorem ggL_law_X6_setLoad : GoodIn wsL_law wsX6_setLoad := goodIn_r _ [294, 136, 27, 295, 272, 273, 2, 274, 275, 276, 875, 876, 877, 878, 879, 880, 881, 882, 883, 884, 885, 912, 913, 914, 915, 916, 917, 918, 919, 920] (by decide +kernel) (by decide +kernel)
set_option maxRecDepth 20000 in
theorem gL_law_X6_setLoad : GoodIn wsL_law (wsV RL 36 RX6 yX6_setLoad wsX6_setLoad) := goodIn_app (goodIn_of _ (by decide +kernel)) ggL_law_X6_setLoad
set_option maxRecDepth 20000 in
theorem ggL_law_X7_setLoad : GoodIn wsL_law wsX7_setLoad := goodIn_r _ [299, 289, 290, 166, 104, 171, 172, 5, 173, 886, 887, 888, 889, 890, 891, 892, 893, 894, 895, 896, 897, 898, 899, 900, 901, 902, 903] (by decide +kernel) (by decide +kernel)
set_option maxRecDepth 20000 in
theorem gL_law_X7_setLoad : GoodIn wsL_law (wsV RL 39 RX7 yX7_setLoad wsX7_setLoad) := goodIn_app (goodIn_of _ (by decide +kernel)) ggL_law_X7_setLoad
set_option maxRecDepth 20000 in
theorem ggL_law_X6_setSeed : GoodIn wsL_law wsX6_setSeed := goodIn_r _ [303, 136, 27, 304, 875, 876, 877, 878, 879, 880, 881, 882, 883, 884, 885, 912, 913, 914, 915, 916, 917, 918, 919, 920] (by decide +kernel) (by decide +kernel)
set_option maxRecDepth 20000 in
theorem gL_law_X6_setSeed : GoodIn wsL_law (wsV RL 40 RX6 yX6_setSeed wsX6_setSeed) := goodIn_app (goodIn_of _ (by decide +kernel)) ggL_law_X6_setSeed
set_option maxRecDepth 20000 in
theorem ggL_law_X7_setSeed : GoodIn wsL_law wsX7_setSeed := goodIn_r _ [308, 309, 166, 104, 171, 172, 5, 173, 886, 887, 888, 889, 890, 891, 892, 893, 894, 895, 896, 897, 898, 899, 900, 901, 902, 903] (by decide +kernel) (by decide +kernel)
set_option maxRecDepth 20000 in
theorem gL_law_X7_setSeed : GoodIn wsL_law (wsV RL 43 RX7 yX7_setSeed wsX7_setSeed) := goodIn_app (goodIn_of _ (by decide +kernel)) ggL_law_X7_setSeed

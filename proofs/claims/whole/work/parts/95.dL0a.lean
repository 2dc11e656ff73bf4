set_option maxRecDepth 20000 in
theorem ggL_law_X6_init : GoodIn wsL_law wsX6_init := goodIn_r _ [8, 9, 10, 11, 12, 13, 14, 15, 16, 17, 18, 19, 20, 21, 22, 23, 24, 25, 26, 27, 28, 29, 30, 31, 32, 33, 34, 35, 36, 37, 38, 39, 40, 41, 42, 43, 44, 45, 46, 47, 48, 49, 50, 51, 52, 53, 54, 55, 56, 57, 58, 59, 60, 61, 62, 63, 64, 65, 66, 67, 68, 69, 70, 71, 72, 73, 74, 75, 76, 77, 78, 79, 80, 81, 82, 83, 84, 85, 86, 87, 88, 89, 90, 91, 92, 93, 94, 95, 96, 97, 98, 904, 875, 876, 877, 878, 879, 880, 881, 882, 883, 884, 885, 905, 906, 907, 908, 909, 910, 911, 912, 913, 914, 915, 916, 917, 918, 919, 920, 921, 922, 923, 924, 925, 926, 927, 928, 929, 930] (by decide +kernel) (by decide +kernel)
set_option maxRecDepth 20000 in
theorem gL_law_X6_init : GoodIn wsL_law (wsX6_init) := ggL_law_X6_init
set_option maxRecDepth 20000 in
theorem ggL_law_X7_init : GoodIn wsL_law wsX7_init := goodIn_r _ [101, 102, 10, 11, 103, 104, 105, 106, 39, 107, 108, 109, 110, 111, 112, 113, 114, 115, 116, 117, 118, 119, 120, 121, 122, 5, 123, 124, 125, 126, 127, 128, 129, 130, 131, 886, 887, 888, 889, 890, 891, 892, 893, 894, 895, 896, 897, 898, 899, 900, 901, 902, 903] (by decide +kernel) (by decide +kernel)
set_option maxRecDepth 20000 in
theorem gL_law_X7_init : GoodIn wsL_law (wsX7_init) := ggL_law_X7_init
set_option maxRecDepth 20000 in
theorem ggL_law_X6_setParameter : GoodIn wsL_law wsX6_setParameter := goodIn_r _ [135, 136, 15, 19, 137, 138, 2, 139, 140, 141, 142, 143, 144, 145, 146, 147, 14, 148, 40, 149, 150, 151, 18, 152, 51, 50, 153, 42, 43, 44, 154, 155, 156, 157, 158, 159, 160, 161, 875, 876, 877, 878, 879, 880, 881, 882, 883, 884, 885, 904, 905, 906] (by decide +kernel) (by decide +kernel)
set_option maxRecDepth 20000 in
theorem gL_law_X6_setParameter : GoodIn wsL_law (wsV RL 13 RX6 yX6_setParameter wsX6_setParameter) := goodIn_app (goodIn_of _ (by decide +kernel)) ggL_law_X6_setParameter
set_option maxRecDepth 20000 in
theorem ggL_law_X7_setParameter : GoodIn wsL_law wsX7_setParameter := goodIn_r _ [165, 110, 111, 166, 107, 167, 168, 5, 169, 170, 171, 172, 173, 174, 175, 176, 177, 178, 109, 886, 887, 888, 889, 890, 891, 892, 893, 894, 895, 896, 897, 898, 899, 900, 901, 902, 903] (by decide +kernel) (by decide +kernel)
set_option maxRecDepth 20000 in
theorem gL_law_X7_setParameter : GoodIn wsL_law (wsV RL 17 RX7 yX7_setParameter wsX7_setParameter) := goodIn_app (goodIn_of _ (by decide +kernel)) ggL_law_X7_setParameter
set_option maxRecDepth 20000 in
theorem ggL_law_X6_parameter : GoodIn wsL_law wsX6_parameter := goodIn_r _ [182, 15, 136, 142, 143, 2, 144, 145, 146, 147, 14, 148, 40, 875, 876, 877, 878, 879, 880, 881, 882, 883, 884, 885, 904] (by decide +kernel) (by decide +kernel)
set_option maxRecDepth 20000 in
theorem gL_law_X6_parameter : GoodIn wsL_law (wsV RL 18 RX6 yX6_parameter wsX6_parameter) := goodIn_app (goodIn_of _ (by decide +kernel)) ggL_law_X6_parameter
set_option maxRecDepth 20000 in
theorem ggL_law_X7_parameter : GoodIn wsL_law wsX7_parameter := goodIn_r _ [186, 107, 166, 167, 168, 5, 169, 170, 171, 172, 173, 886, 887, 888, 889, 890, 891, 892, 893, 894, 895, 896, 897, 898, 899, 900, 901, 902, 903] (by decide +kernel) (by decide +kernel)
set_option maxRecDepth 20000 in
theorem gL_law_X7_parameter : GoodIn wsL_law (wsV RL 22 RX7 yX7_parameter wsX7_parameter) := goodIn_app (goodIn_of _ (by decide +kernel)) ggL_law_X7_parameter
set_option maxRecDepth 20000 in
theorem ggL_law_X6_nameAt : GoodIn wsL_law wsX6_nameAt := goodIn_r _ [190, 136, 191, 142, 143, 2, 144, 192, 193, 194, 195, 196, 197, 198, 199, 200, 201, 202, 203, 204, 205, 206, 207, 208, 209, 210, 211, 212, 213, 214, 215, 216, 217, 218, 219, 220, 221, 222, 223, 224, 225, 226, 227, 228, 229, 230, 231, 232, 233, 234, 235, 236, 237, 238, 239, 240, 241, 242, 243] (by decide +kernel) (by decide +kernel)
set_option maxRecDepth 20000 in
theorem gL_law_X6_nameAt : GoodIn wsL_law (wsV RL 23 RX6 yX6_nameAt wsX6_nameAt) := goodIn_app (goodIn_of _ (by decide +kernel)) ggL_law_X6_nameAt
set_option maxRecDepth 20000 in
theorem ggL_law_X7_nameAt : GoodIn wsL_law wsX7_nameAt := goodIn_r _ [247, 166, 112, 248, 167, 168, 5, 169, 170, 171, 172, 173, 249, 250, 251, 252, 886, 887, 888, 889, 890, 891, 892, 893, 894, 895, 896, 897, 898, 899, 900, 901, 902, 903] (by decide +kernel) (by decide +kernel)
set_option maxRecDepth 20000 in
theorem gL_law_X7_nameAt : GoodIn wsL_law (wsV RL 26 RX7 yX7_nameAt wsX7_nameAt) := goodIn_app (goodIn_of _ (by decide +kernel)) ggL_law_X7_nameAt

set_option maxRecDepth 20000 in
theorem ggL_law_X6_type : GoodIn wsL_law wsX6_type := goodIn_r _ [313, 136, 23, 314, 315, 316, 317, 318, 22, 319, 60, 57, 875, 876, 877, 878, 879, 880, 881, 882, 883, 884, 885, 907, 908, 909, 910, 911] (by decide +kernel) (by decide +kernel)
set_option maxRecDepth 20000 in
theorem gL_law_X6_type : GoodIn wsL_law (wsV RL 44 RX6 yX6_type wsX6_type) := goodIn_app (goodIn_of _ (by decide +kernel)) ggL_law_X6_type
set_option maxRecDepth 20000 in
theorem ggL_law_X7_type : GoodIn wsL_law wsX7_type := goodIn_r _ [323, 324, 325, 166, 326, 327, 113, 171, 172, 5, 173, 886, 887, 888, 889, 890, 891, 892, 893, 894, 895, 896, 897, 898, 899, 900, 901, 902, 903] (by decide +kernel) (by decide +kernel)
set_option maxRecDepth 20000 in
theorem gL_law_X7_type : GoodIn wsL_law (wsV RL 47 RX7 yX7_type wsX7_type) := goodIn_app (goodIn_of _ (by decide +kernel)) ggL_law_X7_type
set_option maxRecDepth 20000 in
theorem ggL_law_X6_clearText : GoodIn wsL_law wsX6_clearText := goodIn_r _ [331, 23, 314, 875, 876, 877, 878, 879, 880, 881, 882, 883, 884, 885, 907, 908, 909, 910, 911] (by decide +kernel) (by decide +kernel)
set_option maxRecDepth 20000 in
theorem gL_law_X6_clearText : GoodIn wsL_law (wsV RL 48 RX6 yX6_clearText wsX6_clearText) := goodIn_app (goodIn_of _ (by decide +kernel)) ggL_law_X6_clearText
set_option maxRecDepth 20000 in
theorem ggL_law_X7_clearText : GoodIn wsL_law wsX7_clearText := goodIn_r _ [335, 326, 886, 887, 888, 889, 890, 891, 892, 893, 894, 895, 896, 897, 898, 899, 900, 901, 902, 903] (by decide +kernel) (by decide +kernel)
set_option maxRecDepth 20000 in
theorem gL_law_X7_clearText : GoodIn wsL_law (wsV RL 51 RX7 yX7_clearText wsX7_clearText) := goodIn_app (goodIn_of _ (by decide +kernel)) ggL_law_X7_clearText
set_option maxRecDepth 20000 in
theorem ggL_law_X6_fault : GoodIn wsL_law wsX6_fault := goodIn_r _ [339, 23, 191, 340, 341, 342, 22, 343, 61, 60, 344, 345, 346, 347, 348, 349, 350, 351, 193, 2, 194, 352, 353, 354, 355, 356, 196, 197, 198, 199, 200, 201, 202, 203, 204, 205, 206, 357, 358, 359, 360, 57, 361, 208, 209, 210, 211, 212, 213, 214, 215, 216, 217, 218, 219, 220, 221, 222, 223, 224, 225, 226, 227, 228, 229, 230, 231, 232, 233, 234, 235, 236, 237, 238, 239, 240, 241, 242, 243, 362, 363, 364, 365, 366, 367, 368, 369, 58, 59, 138, 139, 140, 141, 142, 143, 144, 875, 876, 877, 878, 879, 880, 881, 882, 883, 884, 885, 907, 908, 909, 910, 911] (by decide +kernel) (by decide +kernel)
set_option maxRecDepth 20000 in
theorem gL_law_X6_fault : GoodIn wsL_law (wsV RL 52 RX6 yX6_fault wsX6_fault) := goodIn_app (goodIn_of _ (by decide +kernel)) ggL_law_X6_fault
set_option maxRecDepth 20000 in
theorem ggL_law_X7_fault : GoodIn wsL_law wsX7_fault := goodIn_r _ [373, 374, 375, 376, 5, 377, 378, 326, 248, 379, 380, 381, 382, 383, 384, 385, 386, 387, 110, 111, 388, 389, 390, 391, 112, 249, 250, 251, 252, 392, 393, 394, 395, 113, 171, 172, 173, 886, 887, 888, 889, 890, 891, 892, 893, 894, 895, 896, 897, 898, 899, 900, 901, 902, 903] (by decide +kernel) (by decide +kernel)
set_option maxRecDepth 20000 in
theorem gL_law_X7_fault : GoodIn wsL_law (wsV RL 55 RX7 yX7_fault wsX7_fault) := goodIn_app (goodIn_of _ (by decide +kernel)) ggL_law_X7_fault
set_option maxRecDepth 20000 in
theorem ggL_law_X6_apply : GoodIn wsL_law wsX6_apply := goodIn_r _ [399, 23, 400, 258, 19, 15, 340, 341, 342, 22, 343, 61, 60, 344, 345, 346, 347, 348, 349, 350, 351, 193, 2, 194, 352, 353, 354, 355, 356, 196, 197, 198, 199, 200, 201, 202, 203, 204, 205, 206, 357, 358, 359, 360, 57, 361, 208, 209, 210, 211, 212, 213, 214, 215, 216, 217, 218, 219, 220, 221, 222, 223, 224, 225, 226, 227, 228, 229, 230, 231, 232, 233, 234, 235, 236, 237, 238, 239, 240, 241, 242, 243, 362, 363, 364, 365, 366, 367, 368, 369, 58, 59, 138, 139, 140, 141, 142, 143, 144, 149, 150, 151, 18, 152, 51, 50, 153, 42, 43, 44, 154, 155, 156, 157, 401, 402, 403, 404, 405, 159, 160, 14, 161, 40, 875, 876, 877, 878, 879, 880, 881, 882, 883, 884, 885, 907, 908, 909, 910, 911, 905, 906, 904] (by decide +kernel) (by decide +kernel)
set_option maxRecDepth 20000 in
theorem gL_law_X6_apply : GoodIn wsL_law (wsV RL 56 RX6 yX6_apply wsX6_apply) := goodIn_app (goodIn_of _ (by decide +kernel)) ggL_law_X6_apply
set_option maxRecDepth 20000 in
theorem ggL_law_X7_apply : GoodIn wsL_law wsX7_apply := goodIn_r _ [409, 326, 248, 267, 378, 107, 383, 384, 374, 375, 376, 5, 377, 379, 380, 381, 382, 385, 386, 387, 110, 111, 388, 389, 390, 391, 112, 249, 250, 251, 252, 392, 393, 394, 395, 113, 171, 172, 173, 174, 175, 176, 177, 178, 109, 886, 887, 888, 889, 890, 891, 892, 893, 894, 895, 896, 897, 898, 899, 900, 901, 902, 903] (by decide +kernel) (by decide +kernel)
set_option maxRecDepth 20000 in
theorem gL_law_X7_apply : GoodIn wsL_law (wsV RL 59 RX7 yX7_apply wsX7_apply) := goodIn_app (goodIn_of _ (by decide +kernel)) ggL_law_X7_apply

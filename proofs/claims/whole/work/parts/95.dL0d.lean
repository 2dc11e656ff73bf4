set_option maxRecDepth 20000 in
theorem ggL_law_X6_assigned : GoodIn wsL_law wsX6_assigned := goodIn_r _ [413, 23, 258, 340, 341, 342, 22, 343, 61, 60, 344, 345, 346, 347, 348, 349, 350, 351, 193, 2, 194, 352, 353, 354, 355, 356, 196, 197, 198, 199, 200, 201, 202, 203, 204, 205, 206, 357, 358, 359, 360, 57, 361, 208, 209, 210, 211, 212, 213, 214, 215, 216, 217, 218, 219, 220, 221, 222, 223, 224, 225, 226, 227, 228, 229, 230, 231, 232, 233, 234, 235, 236, 237, 238, 239, 240, 241, 242, 243, 362, 363, 364, 365, 366, 367, 368, 369, 58, 59, 138, 139, 140, 141, 142, 143, 144, 414, 415, 416, 417, 418, 419, 420, 421, 875, 876, 877, 878, 879, 880, 881, 882, 883, 884, 885, 907, 908, 909, 910, 911] (by decide +kernel) (by decide +kernel)
set_option maxRecDepth 20000 in
theorem gL_law_X6_assigned : GoodIn wsL_law (wsV RL 60 RX6 yX6_assigned wsX6_assigned) := goodIn_app (goodIn_of _ (by decide +kernel)) ggL_law_X6_assigned
set_option maxRecDepth 20000 in
theorem ggL_law_X7_assigned : GoodIn wsL_law wsX7_assigned := goodIn_r _ [425, 248, 267, 374, 375, 376, 5, 377, 378, 326, 379, 380, 381, 382, 383, 384, 385, 386, 387, 110, 111, 388, 389, 390, 391, 112, 249, 250, 251, 252, 392, 393, 394, 395, 113, 171, 172, 173, 426, 427, 428, 429, 886, 887, 888, 889, 890, 891, 892, 893, 894, 895, 896, 897, 898, 899, 900, 901, 902, 903] (by decide +kernel) (by decide +kernel)
set_option maxRecDepth 20000 in
theorem gL_law_X7_assigned : GoodIn wsL_law (wsV RL 63 RX7 yX7_assigned wsX7_assigned) := goodIn_app (goodIn_of _ (by decide +kernel)) ggL_law_X7_assigned
set_option maxRecDepth 20000 in
theorem ggL_law_X6_assignedAt : GoodIn wsL_law wsX6_assignedAt := goodIn_r _ [433, 136, 23, 258, 191, 340, 341, 342, 22, 343, 61, 60, 344, 345, 346, 347, 348, 349, 350, 351, 193, 2, 194, 352, 353, 354, 355, 356, 196, 197, 198, 199, 200, 201, 202, 203, 204, 205, 206, 357, 358, 359, 360, 57, 361, 208, 209, 210, 211, 212, 213, 214, 215, 216, 217, 218, 219, 220, 221, 222, 223, 224, 225, 226, 227, 228, 229, 230, 231, 232, 233, 234, 235, 236, 237, 238, 239, 240, 241, 242, 243, 362, 363, 364, 365, 366, 367, 368, 369, 58, 59, 138, 139, 140, 141, 142, 143, 144, 434, 435, 436, 437, 418, 419, 420, 421, 875, 876, 877, 878, 879, 880, 881, 882, 883, 884, 885, 907, 908, 909, 910, 911] (by decide +kernel) (by decide +kernel)
set_option maxRecDepth 20000 in
theorem gL_law_X6_assignedAt : GoodIn wsL_law (wsV RL 64 RX6 yX6_assignedAt wsX6_assignedAt) := goodIn_app (goodIn_of _ (by decide +kernel)) ggL_law_X6_assignedAt
set_option maxRecDepth 20000 in
theorem ggL_law_X7_assignedAt : GoodIn wsL_law wsX7_assignedAt := goodIn_r _ [441, 166, 248, 267, 374, 375, 376, 5, 377, 378, 326, 379, 380, 381, 382, 383, 384, 385, 386, 387, 110, 111, 388, 389, 390, 391, 112, 249, 250, 251, 252, 392, 393, 394, 395, 113, 171, 172, 173, 426, 427, 428, 429, 886, 887, 888, 889, 890, 891, 892, 893, 894, 895, 896, 897, 898, 899, 900, 901, 902, 903] (by decide +kernel) (by decide +kernel)
set_option maxRecDepth 20000 in
theorem gL_law_X7_assignedAt : GoodIn wsL_law (wsV RL 67 RX7 yX7_assignedAt wsX7_assignedAt) := goodIn_app (goodIn_of _ (by decide +kernel)) ggL_law_X7_assignedAt

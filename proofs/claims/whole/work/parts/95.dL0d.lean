set_option maxRecDepth 20000 in
theorem ggL_law_X6_assigned : GoodIn wsL_law wsX6_assigned := goodIn_r _ [413, 23, 258, 340, 341, 342, 22, 343, 61, 60, 344, 345, 346, 347, 348, 349, 350, 351, 193, 2, 194, 352, 353, 354, 355, 356, 196, 197, 198, 199, 200, 201, 202, 203, 204, 205, 206, 357, 358, 359, 360, 57, 361, 208, 209, 210, 211, 212, 213, 214, 215, 216, 217, 218, 219, 220, 221, 222, 223, 224, 225, 226, 227, 228, 229, 230, 231, 232, 233, 234, 235, 236, 237, 238, 239, 240, 241, 242, 243, 362, 363, 364, 365, 366, 367, 368, 369, 58, 59, 138, 139, 140, 141, 142, 143, 144, 414, 415, 416, 417, 418, 419, 420, 421, 875, 876, 877, 878, 879, 880, 881, 882, 883, 884, 885, 907, 908, 909, 910, 911] (by decide +kernel) (by decide +kernel)
set_option maxRecDepth 20000 in
theorem gL_law_X6_assigned : GoodIn wsL_law (wsV RL 60 RX6 yX6_assigned wsX6_assigned) := goodIn_app (goodIn_of _ (by decide +kernel)) ggL_law_X6_assigned
set_option maxRecDepth 20000 in
theorem ggL_law_X7_assigned : GoodIn wsL_law wsX7_assigned := goodIn_r _ [425, 248, 267, 374, 375, 376, 5, 377, 378, 326, 379, 380, 381, 382, 383, 384, 385, 386, 387, 110, 111, 388, 389, 390, 391, 112, 249, 250, 251, 252, 392, 393, 394, 395, 113, 171, 172, 173, 426, 427, 428, 429, 886, 887, 888, 889, 890, 891, 892, 893, 894, 895, 896, 897, 898, 899, 900, 901, 902, 903] (by decide +kernel) (by decide +kernel)
set_option maxRecDepth 20000 in
theorem gL_law_X7_assigned : GoodIn wsL_law (wsV RL 63 RX7 yX7_assigned wsX7_assigned) := goodIn_app (goodIn_of _ (by decide +kernel)) ggL_law_X7_assigned
set_option maxRecDepth 20000 in
theorem ggL_law_X6_assignedAt : GoodIn wsL_law wsX6_assignedAt := goodIn_r _ [433, 136, 23, 258, 191, 340, 341, 342, 22, 343, 61, 60, 344, 345, 346, 347, 348, 349, 350, 351, 193, 2, 194, 352, 353, 354, 355, 356, 196, 197, 198, 199, 200, 201, 202, 203, 204, 205, 206, 357, 358, 359, 360, 57, 361, 208, 209, 210, 211, 212, 213, 214, 215, 216, 217, 218, 219, 220, 221, 222, 223, 224, 225, 226, 227, 228, 229, 230, 231, 232, 233, 234, 235, 236, 237, 238, 239, 240, 241, 242, 243, 362, 363, 364, 365, 366, 367, 368, 369, 58, 59, 138, 139, 140, 141, 142, 143, 144, 434, 435, 436, 437, 418, 419, 420, 421, 875, 876, 877, 878, 879, 880, 881, 882, 883, 884, 885, 907, 908, 909, 910, 911] (by decide +kernel) (by decide +kernel)
set_option maxRecDepth 20000 in
theorem gL_law_X6_assignedAt : GoodIn wsL_law (wsV RL 64 RX6 yX6_assignedAt wsX6_assignedAt) := goodIn_app (goodIn_of _ (by decide +kernel)) ggL_law_X6_assignedAt
set_option maxRecDepth 20000 in
theorem ggL_law_X7_assignedAt : GoodIn wsL_law wsX7_assignedAt := goodIn_r _ [441, 166, 248, 267, 374, 375, 376, 5, 377, 378, 326, 379, 380, 381, 382, 383, 384, 385, 386, 387, 110, 111, 388, 389, 390, 391, 112, 249, 250, 251, 252, 392, 393, 394, 395, 113, 171, 172, 173, 426, 427, 428, 429, 886, 887, 888, 889, 890, 891, 892, 893, 894, 895, 896, 897, 898, 899, 900, 901, 902, 903] (by decide +kernel) (by decide +kernel)
set_option maxRecDepth 20000 in
theorem gL_law_X7_assignedAt : GoodIn wsL_law (wsV RL 67 RX7 yX7_assignedAt wsX7_assignedAt) := goodIn_app (goodIn_of _ (by decide +kernel)) ggL_law_X7_assignedAt
set_option maxRecDepth 20000 in
theorem ggL_law_X6_run : GoodIn wsL_law wsX6_run := goodIn_r _ [445, 136, 276, 27, 446, 315, 447, 448, 449, 2, 450, 15, 451, 452, 453, 26, 454, 71, 455, 456, 457, 458, 76, 80, 66, 459, 146, 147, 14, 148, 40, 143, 144, 460, 461, 462, 463, 464, 465, 68, 466, 467, 468, 469, 470, 471, 472, 473, 474, 475, 476, 72, 477, 478, 479, 480, 481, 482, 483, 484, 485, 486, 487, 488, 489, 490, 491, 492, 493, 494, 495, 496, 69, 70, 497, 498, 499, 500, 501, 502, 503, 504, 505, 506, 507, 508, 509, 510, 511, 512, 513, 514, 515, 516, 517, 518, 519, 75, 520, 85, 521, 86, 87, 89, 522, 523, 524, 88, 525, 526, 527, 79, 528, 98, 94, 529, 530, 531, 532, 95, 96, 97, 533, 534, 535, 536, 537, 538, 539, 540, 67, 875, 876, 877, 878, 879, 880, 881, 882, 883, 884, 885, 912, 913, 914, 915, 916, 917, 918, 919, 920, 904, 921, 922, 923, 924, 925, 926, 927, 928, 929, 930] (by decide +kernel) (by decide +kernel)
set_option maxRecDepth 20000 in
theorem gL_law_X6_run : GoodIn wsL_law (wsV RL 68 RX6 yX6_run wsX6_run) := goodIn_app (goodIn_of _ (by decide +kernel)) ggL_law_X6_run
set_option maxRecDepth 20000 in
theorem ggL_law_X7_run : GoodIn wsL_law wsX7_run := goodIn_r _ [544, 545, 166, 104, 290, 327, 171, 172, 5, 173, 546, 547, 548, 549, 107, 550, 551, 552, 553, 554, 555, 556, 557, 558, 559, 560, 561, 562, 563, 564, 565, 566, 567, 568, 569, 570, 571, 572, 573, 574, 575, 576, 577, 578, 579, 580, 581, 582, 583, 584, 585, 586, 587, 588, 589, 590, 591, 592, 593, 594, 595, 596, 597, 598, 599, 886, 887, 888, 889, 890, 891, 892, 893, 894, 895, 896, 897, 898, 899, 900, 901, 902, 903] (by decide +kernel) (by decide +kernel)
set_option maxRecDepth 20000 in
theorem gL_law_X7_run : GoodIn wsL_law (wsV RL 71 RX7 yX7_run wsX7_run) := goodIn_app (goodIn_of _ (by decide +kernel)) ggL_law_X7_run
set_option maxRecDepth 20000 in
theorem ggL_law_X6_time : GoodIn wsL_law wsX6_time := goodIn_r _ [603, 27, 446, 875, 876, 877, 878, 879, 880, 881, 882, 883, 884, 885, 912, 913, 914, 915, 916, 917, 918, 919, 920] (by decide +kernel) (by decide +kernel)
set_option maxRecDepth 20000 in
theorem gL_law_X6_time : GoodIn wsL_law (wsV RL 72 RX6 yX6_time wsX6_time) := goodIn_app (goodIn_of _ (by decide +kernel)) ggL_law_X6_time
set_option maxRecDepth 20000 in
theorem ggL_law_X7_time : GoodIn wsL_law wsX7_time := goodIn_r _ [607, 104, 886, 887, 888, 889, 890, 891, 892, 893, 894, 895, 896, 897, 898, 899, 900, 901, 902, 903] (by decide +kernel) (by decide +kernel)
set_option maxRecDepth 20000 in
theorem gL_law_X7_time : GoodIn wsL_law (wsV RL 75 RX7 yX7_time wsX7_time) := goodIn_app (goodIn_of _ (by decide +kernel)) ggL_law_X7_time

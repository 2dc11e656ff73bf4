set_option maxRecDepth 20000 in
theorem ggL_law_X6_ahead_1 : GoodIn wsL_law ([.code yX6_ahead cX6_ahead 3 (some .int)]) := goodIn_r _ [827] (by decide +kernel) (by decide +kernel)
set_option maxRecDepth 20000 in
theorem ggL_law_X6_ahead_2 : GoodIn wsL_law (wsX6_ahead_r1) := goodIn_r _ [136, 33, 27, 612, 613, 477, 2, 478, 751, 752, 753, 26, 754, 66, 67, 68, 69, 70, 71, 755, 42, 43, 44, 72] (by decide +kernel) (by decide +kernel)
set_option maxRecDepth 20000 in
theorem ggL_law_X6_ahead_3 : GoodIn wsL_law (wsX6_ahead_r2) := goodIn_r _ [76, 80, 756, 757, 758, 75, 759, 85, 86, 87, 88, 89, 760, 761, 762, 79, 763, 94, 764, 95, 96, 97, 98, 447] (by decide +kernel) (by decide +kernel)
set_option maxRecDepth 20000 in
theorem ggL_law_X6_ahead_4 : GoodIn wsL_law (wsX6_ahead_r3) := goodIn_r _ [448, 449, 450, 15, 451, 452, 453, 454, 455, 456, 457, 458, 459, 146, 147, 14, 148, 40, 143, 144, 460, 461, 462, 463] (by decide +kernel) (by decide +kernel)
set_option maxRecDepth 20000 in
theorem ggL_law_X6_ahead_5 : GoodIn wsL_law (wsX6_ahead_r4) := goodIn_r _ [464, 465, 466, 467, 468, 469, 470, 471, 472, 473, 474, 475, 476, 479, 480, 481, 482, 483, 484, 485, 486, 487, 488, 489] (by decide +kernel) (by decide +kernel)
set_option maxRecDepth 20000 in
theorem ggL_law_X6_ahead_6 : GoodIn wsL_law (wsX6_ahead_r5) := goodIn_r _ [490, 491, 492, 493, 494, 495, 496, 497, 498, 499, 500, 501, 502, 503, 504, 505, 506, 507, 508, 509, 510, 511, 512, 513] (by decide +kernel) (by decide +kernel)
set_option maxRecDepth 20000 in
theorem ggL_law_X6_ahead_7 : GoodIn wsL_law (wsX6_ahead_r6) := goodIn_r _ [514, 515, 516, 517, 518, 519, 520, 521, 522, 523, 524, 525, 526, 527, 528, 529, 530, 531, 532, 533, 534, 535, 536, 537] (by decide +kernel) (by decide +kernel)
set_option maxRecDepth 20000 in
theorem ggL_law_X6_ahead_8 : GoodIn wsL_law (wsX6_ahead_r7) := goodIn_r _ [538, 539, 540] (by decide +kernel) (by decide +kernel)
set_option maxRecDepth 20000 in
theorem ggL_law_X6_ahead : GoodIn wsL_law wsX6_ahead := goodIn_hd ggL_law_X6_ahead_1 (goodIn_app (goodIn_app (goodIn_app (goodIn_app (goodIn_app (goodIn_app ggL_law_X6_ahead_2 (goodIn_app ggL_law_X6_ahead_3 (goodIn_app ggL_law_X6_ahead_4 (goodIn_app ggL_law_X6_ahead_5 (goodIn_app ggL_law_X6_ahead_6 (goodIn_app ggL_law_X6_ahead_7 ggL_law_X6_ahead_8)))))) gwL_wsX60) gwL_wsX10) gwL_wsX20) gwL_wsX50) gwL_wsX30)
set_option maxRecDepth 20000 in
theorem gL_law_X6_ahead : GoodIn wsL_law (wsV RL 133 RX6 yX6_ahead wsX6_ahead) := goodIn_app (goodIn_of _ (by decide +kernel)) ggL_law_X6_ahead
set_option maxRecDepth 20000 in
theorem ggL_law_X7_ahead_1 : GoodIn wsL_law ([.code yX7_ahead cX7_ahead 4 (some .int)]) := goodIn_r _ [831] (by decide +kernel) (by decide +kernel)
set_option maxRecDepth 20000 in
theorem ggL_law_X7_ahead_2 : GoodIn wsL_law (wsX7_ahead_r1) := goodIn_r _ [545, 166, 171, 172, 5, 173, 618, 619, 620, 621, 832, 833, 834, 835, 105, 104, 108, 107, 546, 547, 548, 549, 550, 551] (by decide +kernel) (by decide +kernel)
set_option maxRecDepth 20000 in
theorem ggL_law_X7_ahead_3 : GoodIn wsL_law (wsX7_ahead_r2) := goodIn_r _ [552, 553, 554, 555, 556, 557, 558, 559, 560, 561, 562, 563, 564, 565, 566, 567, 568, 569, 570, 571, 572, 573, 574, 575] (by decide +kernel) (by decide +kernel)
set_option maxRecDepth 20000 in
theorem ggL_law_X7_ahead_4 : GoodIn wsL_law (wsX7_ahead_r3) := goodIn_r _ [576, 577, 578, 579, 580, 581, 582, 583, 584, 585, 586, 587, 588, 589, 590, 591, 592, 593, 594, 595, 596, 597, 598, 599] (by decide +kernel) (by decide +kernel)
set_option maxRecDepth 20000 in
theorem ggL_law_X7_ahead_5 : GoodIn wsL_law (wsX7_ahead_r4) := goodIn_r _ [622, 623, 624, 625, 836, 837, 838, 839] (by decide +kernel) (by decide +kernel)
set_option maxRecDepth 20000 in
theorem ggL_law_X7_ahead : GoodIn wsL_law wsX7_ahead := goodIn_hd ggL_law_X7_ahead_1 (goodIn_app (goodIn_app ggL_law_X7_ahead_2 (goodIn_app ggL_law_X7_ahead_3 (goodIn_app ggL_law_X7_ahead_4 ggL_law_X7_ahead_5))) gwL_wsX70)
set_option maxRecDepth 20000 in
theorem gL_law_X7_ahead : GoodIn wsL_law (wsV RL 136 RX7 yX7_ahead wsX7_ahead) := goodIn_app (goodIn_of _ (by decide +kernel)) ggL_law_X7_ahead

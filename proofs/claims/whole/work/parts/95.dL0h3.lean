set_option maxRecDepth 20000 in
theorem ggL_law_X6_bestGain_1 : GoodIn wsL_law ([.code yX6_bestGain cX6_bestGain 8 (some .int)]) := goodIn_r _ [843] (by decide +kernel) (by decide +kernel)
set_option maxRecDepth 20000 in
theorem ggL_law_X6_bestGain_2 : GoodIn wsL_law (wsX6_bestGain_r1) := goodIn_r _ [136, 844, 845, 846, 2, 847, 31, 15, 33, 27, 612, 738, 456, 457, 458, 848, 849, 850, 14, 851, 40, 41, 42, 43] (by decide +kernel) (by decide +kernel)
set_option maxRecDepth 20000 in
theorem ggL_law_X6_bestGain_3 : GoodIn wsL_law (wsX6_bestGain_r2) := goodIn_r _ [44, 158, 159, 160, 161, 143, 144, 751, 752, 753, 26, 754, 66, 67, 68, 69, 70, 71, 755, 72, 76, 80, 756, 757] (by decide +kernel) (by decide +kernel)
set_option maxRecDepth 20000 in
theorem ggL_law_X6_bestGain_4 : GoodIn wsL_law (wsX6_bestGain_r3) := goodIn_r _ [758, 75, 759, 85, 86, 87, 88, 89, 760, 761, 762, 79, 763, 94, 764, 95, 96, 97, 98, 451, 452, 453, 454, 455] (by decide +kernel) (by decide +kernel)
set_option maxRecDepth 20000 in
theorem ggL_law_X6_bestGain_5 : GoodIn wsL_law (wsX6_bestGain_r4) := goodIn_r _ [459, 146, 147, 148, 460, 461, 462, 463, 464, 465, 466, 467, 468, 469, 470, 471, 472, 473, 474, 475, 476, 477, 478, 479] (by decide +kernel) (by decide +kernel)
set_option maxRecDepth 20000 in
theorem ggL_law_X6_bestGain_6 : GoodIn wsL_law (wsX6_bestGain_r5) := goodIn_r _ [480, 481, 482, 483, 484, 485, 486, 487, 488, 489, 490, 491, 492, 493, 494, 495, 496, 497, 498, 499, 500, 501, 502, 503] (by decide +kernel) (by decide +kernel)
set_option maxRecDepth 20000 in
theorem ggL_law_X6_bestGain_7 : GoodIn wsL_law (wsX6_bestGain_r6) := goodIn_r _ [504, 505, 506, 507, 508, 509, 510, 511, 512, 513, 514, 515, 516, 517, 518, 519, 520, 521, 522, 523, 524, 525, 526, 527] (by decide +kernel) (by decide +kernel)
set_option maxRecDepth 20000 in
theorem ggL_law_X6_bestGain_8 : GoodIn wsL_law (wsX6_bestGain_r7) := goodIn_r _ [528, 529, 530, 531, 532, 533, 534, 535, 536, 537, 538, 539, 540] (by decide +kernel) (by decide +kernel)
set_option maxRecDepth 20000 in
theorem ggL_law_X6_bestGain : GoodIn wsL_law wsX6_bestGain := goodIn_hd ggL_law_X6_bestGain_1 (goodIn_app (goodIn_app (goodIn_app (goodIn_app (goodIn_app (goodIn_app ggL_law_X6_bestGain_2 (goodIn_app ggL_law_X6_bestGain_3 (goodIn_app ggL_law_X6_bestGain_4 (goodIn_app ggL_law_X6_bestGain_5 (goodIn_app ggL_law_X6_bestGain_6 (goodIn_app ggL_law_X6_bestGain_7 ggL_law_X6_bestGain_8)))))) gwL_wsX60) gwL_wsX10) gwL_wsX30) gwL_wsX20) gwL_wsX50)
set_option maxRecDepth 20000 in
theorem gL_law_X6_bestGain : GoodIn wsL_law (wsV RL 137 RX6 yX6_bestGain wsX6_bestGain) := goodIn_app (goodIn_of _ (by decide +kernel)) ggL_law_X6_bestGain
set_option maxRecDepth 20000 in
theorem ggL_law_X7_bestGain_1 : GoodIn wsL_law ([.code yX7_bestGain cX7_bestGain 7 (some .int)]) := goodIn_r _ [855] (by decide +kernel) (by decide +kernel)
set_option maxRecDepth 20000 in
theorem ggL_law_X7_bestGain_2 : GoodIn wsL_law (wsX7_bestGain_r1) := goodIn_r _ [856, 166, 107, 104, 171, 172, 5, 173, 832, 833, 834, 835, 105, 108, 836, 837, 838, 839, 546, 547, 548, 549, 550, 551] (by decide +kernel) (by decide +kernel)
set_option maxRecDepth 20000 in
theorem ggL_law_X7_bestGain_3 : GoodIn wsL_law (wsX7_bestGain_r2) := goodIn_r _ [552, 553, 554, 555, 556, 557, 558, 559, 560, 561, 562, 563, 564, 565, 566, 567, 568, 569, 570, 571, 572, 573, 574, 575] (by decide +kernel) (by decide +kernel)
set_option maxRecDepth 20000 in
theorem ggL_law_X7_bestGain_4 : GoodIn wsL_law (wsX7_bestGain_r3) := goodIn_r _ [576, 577, 578, 579, 580, 581, 582, 583, 584, 585, 586, 587, 588, 589, 590, 591, 592, 593, 594, 595, 596, 597, 598, 599] (by decide +kernel) (by decide +kernel)
set_option maxRecDepth 20000 in
theorem ggL_law_X7_bestGain : GoodIn wsL_law wsX7_bestGain := goodIn_hd ggL_law_X7_bestGain_1 (goodIn_app (goodIn_app ggL_law_X7_bestGain_2 (goodIn_app ggL_law_X7_bestGain_3 ggL_law_X7_bestGain_4)) gwL_wsX70)
set_option maxRecDepth 20000 in
theorem gL_law_X7_bestGain : GoodIn wsL_law (wsV RL 140 RX7 yX7_bestGain wsX7_bestGain) := goodIn_app (goodIn_of _ (by decide +kernel)) ggL_law_X7_bestGain

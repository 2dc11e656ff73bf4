set_option maxRecDepth 20000 in
theorem ggL_law_X6_idealDifference_1 : GoodIn wsL_law ([.code yX6_idealDifference cX6_idealDifference 4 (some .int)]) := goodIn_r _ [860] (by decide +kernel) (by decide +kernel)
set_option maxRecDepth 20000 in
theorem ggL_law_X6_idealDifference_2 : GoodIn wsL_law (wsX6_idealDifference_r1) := goodIn_r _ [136, 15, 33, 31, 34, 32, 861, 523, 457, 524, 862, 863, 864, 2, 865, 27, 612, 848, 849, 850, 14, 851, 40, 41] (by decide +kernel) (by decide +kernel)
set_option maxRecDepth 20000 in
theorem ggL_law_X6_idealDifference_3 : GoodIn wsL_law (wsX6_idealDifference_r2) := goodIn_r _ [42, 43, 44, 158, 159, 160, 161, 143, 144, 640, 641, 642, 26, 643, 66, 67, 68, 69, 70, 71, 76, 80, 644, 281] (by decide +kernel) (by decide +kernel)
set_option maxRecDepth 20000 in
theorem ggL_law_X6_idealDifference_4 : GoodIn wsL_law (wsX6_idealDifference_r3) := goodIn_r _ [282, 283, 75, 284, 85, 86, 87, 88, 89, 277, 278, 279, 280, 145, 146, 147, 148, 451, 452, 453, 454, 455, 456, 458] (by decide +kernel) (by decide +kernel)
set_option maxRecDepth 20000 in
theorem ggL_law_X6_idealDifference_5 : GoodIn wsL_law (wsX6_idealDifference_r4) := goodIn_r _ [459, 460, 461, 462, 463, 464, 465, 466, 467, 468, 469, 470, 471, 472, 473, 474, 475, 476, 72, 477, 478, 479, 480, 481] (by decide +kernel) (by decide +kernel)
set_option maxRecDepth 20000 in
theorem ggL_law_X6_idealDifference_6 : GoodIn wsL_law (wsX6_idealDifference_r5) := goodIn_r _ [482, 483, 484, 485, 486, 487, 488, 489, 490, 491, 492, 493, 494, 495, 496, 497, 498, 499, 500, 501, 502, 503, 504, 505] (by decide +kernel) (by decide +kernel)
set_option maxRecDepth 20000 in
theorem ggL_law_X6_idealDifference_7 : GoodIn wsL_law (wsX6_idealDifference_r6) := goodIn_r _ [506, 507, 508, 509, 510, 511, 512, 513, 514, 515, 516, 517, 518, 519, 520, 521, 522, 525, 526, 527, 79, 528, 98, 94] (by decide +kernel) (by decide +kernel)
set_option maxRecDepth 20000 in
theorem ggL_law_X6_idealDifference_8 : GoodIn wsL_law (wsX6_idealDifference_r7) := goodIn_r _ [529, 530, 531, 532, 95, 96, 97, 533, 534, 535, 536, 537, 538, 539, 540, 866, 867, 868, 869, 738] (by decide +kernel) (by decide +kernel)
set_option maxRecDepth 20000 in
theorem ggL_law_X6_idealDifference : GoodIn wsL_law wsX6_idealDifference := goodIn_hd ggL_law_X6_idealDifference_1 (goodIn_app (goodIn_app (goodIn_app (goodIn_app (goodIn_app (goodIn_app ggL_law_X6_idealDifference_2 (goodIn_app ggL_law_X6_idealDifference_3 (goodIn_app ggL_law_X6_idealDifference_4 (goodIn_app ggL_law_X6_idealDifference_5 (goodIn_app ggL_law_X6_idealDifference_6 (goodIn_app ggL_law_X6_idealDifference_7 ggL_law_X6_idealDifference_8)))))) gwL_wsX60) gwL_wsX10) gwL_wsX30) gwL_wsX50) gwL_wsX20)
set_option maxRecDepth 20000 in
theorem gL_law_X6_idealDifference : GoodIn wsL_law (wsV RL 141 RX6 yX6_idealDifference wsX6_idealDifference) := goodIn_app (goodIn_of _ (by decide +kernel)) ggL_law_X6_idealDifference
set_option maxRecDepth 20000 in
theorem ggL_law_X7_idealDifference_1 : GoodIn wsL_law ([.code yX7_idealDifference cX7_idealDifference 10 (some .int)]) := goodIn_r _ [873] (by decide +kernel) (by decide +kernel)
set_option maxRecDepth 20000 in
theorem ggL_law_X7_idealDifference_2 : GoodIn wsL_law (wsX7_idealDifference_r1) := goodIn_r _ [874, 166, 107, 104, 114, 550, 171, 172, 5, 173, 832, 833, 834, 835, 105, 108, 650, 651, 652, 653, 546, 547, 548, 549] (by decide +kernel) (by decide +kernel)
set_option maxRecDepth 20000 in
theorem ggL_law_X7_idealDifference_3 : GoodIn wsL_law (wsX7_idealDifference_r2) := goodIn_r _ [551, 552, 553, 554, 555, 556, 557, 558, 559, 560, 561, 562, 563, 564, 565, 566, 567, 568, 569, 570, 571, 572, 573, 574] (by decide +kernel) (by decide +kernel)
set_option maxRecDepth 20000 in
theorem ggL_law_X7_idealDifference_4 : GoodIn wsL_law (wsX7_idealDifference_r3) := goodIn_r _ [575, 576, 577, 578, 579, 580, 581, 582, 583, 584, 585, 586, 587, 588, 589, 590, 591, 592, 593, 594, 595, 596, 597, 598] (by decide +kernel) (by decide +kernel)
set_option maxRecDepth 20000 in
theorem ggL_law_X7_idealDifference_5 : GoodIn wsL_law (wsX7_idealDifference_r4) := goodIn_r _ [599, 836, 837, 838, 839] (by decide +kernel) (by decide +kernel)
set_option maxRecDepth 20000 in
theorem ggL_law_X7_idealDifference : GoodIn wsL_law wsX7_idealDifference := goodIn_hd ggL_law_X7_idealDifference_1 (goodIn_app (goodIn_app ggL_law_X7_idealDifference_2 (goodIn_app ggL_law_X7_idealDifference_3 (goodIn_app ggL_law_X7_idealDifference_4 ggL_law_X7_idealDifference_5))) gwL_wsX70)
set_option maxRecDepth 20000 in
theorem gL_law_X7_idealDifference : GoodIn wsL_law (wsV RL 144 RX7 yX7_idealDifference wsX7_idealDifference) := goodIn_app (goodIn_of _ (by decide +kernel)) ggL_law_X7_idealDifference

theorem goodIn_hd {big a : List Cond} {c : Cond} (h : GoodIn big [c]) (ha : GoodIn big a) : GoodIn big (c :: a) := fun w hw => (List.mem_cons.mp hw).elim (fun e => h w (List.mem_cons.mpr (Or.inl e))) (ha w)
set_option maxRecDepth 20000 in
theorem ggL_law_X6_run_1 : GoodIn wsL_law ([.code yX6_run cX6_run 2 (some .int)]) := goodIn_r _ [445] (by decide +kernel) (by decide +kernel)
set_option maxRecDepth 20000 in
theorem ggL_law_X6_run_2 : GoodIn wsL_law (wsX6_run_r1) := goodIn_r _ [136, 276, 27, 446, 315, 447, 448, 449, 2, 450, 15, 451, 452, 453, 26, 454, 71, 455, 456, 457, 458, 76, 80, 66] (by decide +kernel) (by decide +kernel)
set_option maxRecDepth 20000 in
theorem ggL_law_X6_run_3 : GoodIn wsL_law (wsX6_run_r2) := goodIn_r _ [459, 146, 147, 14, 148, 40, 143, 144, 460, 461, 462, 463, 464, 465, 68, 466, 467, 468, 469, 470, 471, 472, 473, 474] (by decide +kernel) (by decide +kernel)
set_option maxRecDepth 20000 in
theorem ggL_law_X6_run_4 : GoodIn wsL_law (wsX6_run_r3) := goodIn_r _ [475, 476, 72, 477, 478, 479, 480, 481, 482, 483, 484, 485, 486, 487, 488, 489, 490, 491, 492, 493, 494, 495, 496, 69] (by decide +kernel) (by decide +kernel)
set_option maxRecDepth 20000 in
theorem ggL_law_X6_run_5 : GoodIn wsL_law (wsX6_run_r4) := goodIn_r _ [70, 497, 498, 499, 500, 501, 502, 503, 504, 505, 506, 507, 508, 509, 510, 511, 512, 513, 514, 515, 516, 517, 518, 519] (by decide +kernel) (by decide +kernel)
set_option maxRecDepth 20000 in
theorem ggL_law_X6_run_6 : GoodIn wsL_law (wsX6_run_r5) := goodIn_r _ [75, 520, 85, 521, 86, 87, 89, 522, 523, 524, 88, 525, 526, 527, 79, 528, 98, 94, 529, 530, 531, 532, 95, 96] (by decide +kernel) (by decide +kernel)
set_option maxRecDepth 20000 in
theorem ggL_law_X6_run_7 : GoodIn wsL_law (wsX6_run_r6) := goodIn_r _ [97, 533, 534, 535, 536, 537, 538, 539, 540, 67] (by decide +kernel) (by decide +kernel)
set_option maxRecDepth 20000 in
theorem gwL_wsX60 : GoodIn wsL_law wsX60 := goodIn_r _ [875, 876, 877, 878, 879, 880, 881, 882, 883, 884, 885] (by decide +kernel) (by decide +kernel)
set_option maxRecDepth 20000 in
theorem gwL_wsX10 : GoodIn wsL_law wsX10 := goodIn_r _ [912, 913, 914, 915, 916, 917, 918, 919, 920] (by decide +kernel) (by decide +kernel)
set_option maxRecDepth 20000 in
theorem gwL_wsX30 : GoodIn wsL_law wsX30 := goodIn_r _ [904] (by decide +kernel) (by decide +kernel)
set_option maxRecDepth 20000 in
theorem gwL_wsX20 : GoodIn wsL_law wsX20 := goodIn_r _ [921, 922, 923, 924, 925] (by decide +kernel) (by decide +kernel)
set_option maxRecDepth 20000 in
theorem gwL_wsX50 : GoodIn wsL_law wsX50 := goodIn_r _ [926, 927, 928, 929, 930] (by decide +kernel) (by decide +kernel)
set_option maxRecDepth 20000 in
theorem ggL_law_X6_run : GoodIn wsL_law wsX6_run := goodIn_hd ggL_law_X6_run_1 (goodIn_app (goodIn_app (goodIn_app (goodIn_app (goodIn_app (goodIn_app ggL_law_X6_run_2 (goodIn_app ggL_law_X6_run_3 (goodIn_app ggL_law_X6_run_4 (goodIn_app ggL_law_X6_run_5 (goodIn_app ggL_law_X6_run_6 ggL_law_X6_run_7))))) gwL_wsX60) gwL_wsX10) gwL_wsX30) gwL_wsX20) gwL_wsX50)
set_option maxRecDepth 20000 in
theorem gL_law_X6_run : GoodIn wsL_law (wsV RL 68 RX6 yX6_run wsX6_run) := goodIn_app (goodIn_of _ (by decide +kernel)) ggL_law_X6_run
set_option maxRecDepth 20000 in
theorem ggL_law_X7_run_1 : GoodIn wsL_law ([.code yX7_run cX7_run 3 (some .int)]) := goodIn_r _ [544] (by decide +kernel) (by decide +kernel)
set_option maxRecDepth 20000 in
theorem ggL_law_X7_run_2 : GoodIn wsL_law (wsX7_run_r1) := goodIn_r _ [545, 166, 104, 290, 327, 171, 172, 5, 173, 546, 547, 548, 549, 107, 550, 551, 552, 553, 554, 555, 556, 557, 558, 559] (by decide +kernel) (by decide +kernel)
set_option maxRecDepth 20000 in
theorem ggL_law_X7_run_3 : GoodIn wsL_law (wsX7_run_r2) := goodIn_r _ [560, 561, 562, 563, 564, 565, 566, 567, 568, 569, 570, 571, 572, 573, 574, 575, 576, 577, 578, 579, 580, 581, 582, 583] (by decide +kernel) (by decide +kernel)
set_option maxRecDepth 20000 in
theorem ggL_law_X7_run_4 : GoodIn wsL_law (wsX7_run_r3) := goodIn_r _ [584, 585, 586, 587, 588, 589, 590, 591, 592, 593, 594, 595, 596, 597, 598, 599] (by decide +kernel) (by decide +kernel)
set_option maxRecDepth 20000 in
theorem gwL_wsX70 : GoodIn wsL_law wsX70 := goodIn_r _ [886, 887, 888, 889, 890, 891, 892, 893, 894, 895, 896, 897, 898, 899, 900, 901, 902, 903] (by decide +kernel) (by decide +kernel)
set_option maxRecDepth 20000 in
theorem ggL_law_X7_run : GoodIn wsL_law wsX7_run := goodIn_hd ggL_law_X7_run_1 (goodIn_app (goodIn_app ggL_law_X7_run_2 (goodIn_app ggL_law_X7_run_3 ggL_law_X7_run_4)) gwL_wsX70)
set_option maxRecDepth 20000 in
theorem gL_law_X7_run : GoodIn wsL_law (wsV RL 71 RX7 yX7_run wsX7_run) := goodIn_app (goodIn_of _ (by decide +kernel)) ggL_law_X7_run
set_option maxRecDepth 20000 in
theorem ggL_law_X6_time_1 : GoodIn wsL_law ([.code yX6_time cX6_time 1 (some .int)]) := goodIn_r _ [603] (by decide +kernel) (by decide +kernel)
set_option maxRecDepth 20000 in
theorem ggL_law_X6_time_2 : GoodIn wsL_law ([.fieldLink RX6 33 "DeadTimeLoop" "loop" "LDeadTimeLoop$Loop;", .fieldLink RX6 135 "DeadTimeLoop$Loop" "now" "I"]) := goodIn_r _ [27, 446] (by decide +kernel) (by decide +kernel)
set_option maxRecDepth 20000 in
theorem ggL_law_X6_time : GoodIn wsL_law wsX6_time := goodIn_hd ggL_law_X6_time_1 (goodIn_app (goodIn_app ggL_law_X6_time_2 gwL_wsX60) gwL_wsX10)
set_option maxRecDepth 20000 in
theorem gL_law_X6_time : GoodIn wsL_law (wsV RL 72 RX6 yX6_time wsX6_time) := goodIn_app (goodIn_of _ (by decide +kernel)) ggL_law_X6_time
set_option maxRecDepth 20000 in
theorem ggL_law_X7_time_1 : GoodIn wsL_law ([.code yX7_time cX7_time 1 (some .int)]) := goodIn_r _ [607] (by decide +kernel) (by decide +kernel)
set_option maxRecDepth 20000 in
theorem ggL_law_X7_time_2 : GoodIn wsL_law ([.fieldLink RX7 7 "DeadTimeLoopModel" "now" "[J"]) := goodIn_r _ [104] (by decide +kernel) (by decide +kernel)
set_option maxRecDepth 20000 in
theorem ggL_law_X7_time : GoodIn wsL_law wsX7_time := goodIn_hd ggL_law_X7_time_1 (goodIn_app ggL_law_X7_time_2 gwL_wsX70)
set_option maxRecDepth 20000 in
theorem gL_law_X7_time : GoodIn wsL_law (wsV RL 75 RX7 yX7_time wsX7_time) := goodIn_app (goodIn_of _ (by decide +kernel)) ggL_law_X7_time

set_option maxRecDepth 20000 in
theorem ggL_law_X6_estimatedLag_1 : GoodIn wsL_law ([.code yX6_estimatedLag cX6_estimatedLag 2 (some .int)]) := goodIn_r _ [802] (by decide +kernel) (by decide +kernel)
set_option maxRecDepth 20000 in
theorem ggL_law_X6_estimatedLag_2 : GoodIn wsL_law (wsX6_estimatedLag_r1) := goodIn_r _ [191, 803, 804, 805, 2, 806, 781, 782, 783, 784, 27, 15, 785, 786, 787, 26, 788, 66, 789, 523, 457, 524, 473, 474] (by decide +kernel) (by decide +kernel)
set_option maxRecDepth 20000 in
theorem ggL_law_X6_estimatedLag_3 : GoodIn wsL_law (wsX6_estimatedLag_r2) := goodIn_r _ [475, 476, 72, 477, 478, 479, 480, 481, 482, 145, 146, 147, 14, 148, 40, 143, 144] (by decide +kernel) (by decide +kernel)
set_option maxRecDepth 20000 in
theorem ggL_law_X6_estimatedLag : GoodIn wsL_law wsX6_estimatedLag := goodIn_hd ggL_law_X6_estimatedLag_1 (goodIn_app (goodIn_app (goodIn_app (goodIn_app ggL_law_X6_estimatedLag_2 ggL_law_X6_estimatedLag_3) gwL_wsX60) gwL_wsX10) gwL_wsX30)
set_option maxRecDepth 20000 in
theorem gL_law_X6_estimatedLag : GoodIn wsL_law (wsV RL 125 RX6 yX6_estimatedLag wsX6_estimatedLag) := goodIn_app (goodIn_of _ (by decide +kernel)) ggL_law_X6_estimatedLag
set_option maxRecDepth 20000 in
theorem ggL_law_X7_estimatedLag_1 : GoodIn wsL_law ([.code yX7_estimatedLag cX7_estimatedLag 1 (some .int)]) := goodIn_r _ [810] (by decide +kernel) (by decide +kernel)
set_option maxRecDepth 20000 in
theorem ggL_law_X7_estimatedLag_2 : GoodIn wsL_law ([.methodLink RX7 229 yX7_bestLag, .instanceMethod yX7_bestLag, .selects RX7 yX7_bestLag yX7_bestLag, .initialized RX7, .code yX7_bestLag cX7_bestLag 7 (some .int), .constant RX7 82 (-2000000004), .methodLink RX7 225 yX7_correlationOf, .instanceMethod yX7_correlationOf, .selects RX7 yX7_correlationOf yX7_correlationOf, .code yX7_correlationOf cX7_correlationOf 6 (some .long), .fieldLink RX7 7 "DeadTimeLoopModel" "now" "[J", .constantLong RX7 90 (32), .constantLong RX7 150 (2), .fieldLink RX7 19 "DeadTimeLoopModel" "par" "[I", .methodLink RX7 132 yX7_at, .instanceMethod yX7_at, .selects RX7 yX7_at yX7_at, .code yX7_at cX7_at 4 (some .long), .constantLong RX7 130 (64)]) := goodIn_r _ [811, 812, 813, 5, 814, 248, 795, 796, 797, 798, 104, 324, 559, 107, 570, 571, 572, 573, 564] (by decide +kernel) (by decide +kernel)
set_option maxRecDepth 20000 in
theorem ggL_law_X7_estimatedLag : GoodIn wsL_law wsX7_estimatedLag := goodIn_hd ggL_law_X7_estimatedLag_1 (goodIn_app ggL_law_X7_estimatedLag_2 gwL_wsX70)
set_option maxRecDepth 20000 in
theorem gL_law_X7_estimatedLag : GoodIn wsL_law (wsV RL 128 RX7 yX7_estimatedLag wsX7_estimatedLag) := goodIn_app (goodIn_of _ (by decide +kernel)) ggL_law_X7_estimatedLag
set_option maxRecDepth 20000 in
theorem ggL_law_X6_tuneDelay_1 : GoodIn wsL_law ([.code yX6_tuneDelay cX6_tuneDelay 6 (some .int)]) := goodIn_r _ [818] (by decide +kernel) (by decide +kernel)
set_option maxRecDepth 20000 in
theorem ggL_law_X6_tuneDelay_2 : GoodIn wsL_law (wsX6_tuneDelay_r1) := goodIn_r _ [819, 258, 19, 15, 803, 804, 805, 2, 806, 781, 782, 783, 784, 27, 785, 786, 787, 26, 788, 66, 789, 523, 457, 524] (by decide +kernel) (by decide +kernel)
set_option maxRecDepth 20000 in
theorem ggL_law_X6_tuneDelay_3 : GoodIn wsL_law (wsX6_tuneDelay_r2) := goodIn_r _ [473, 474, 475, 476, 72, 477, 478, 479, 480, 481, 482, 145, 146, 147, 14, 148, 40, 143, 144, 149, 150, 151, 18, 152] (by decide +kernel) (by decide +kernel)
set_option maxRecDepth 20000 in
theorem ggL_law_X6_tuneDelay_4 : GoodIn wsL_law (wsX6_tuneDelay_r3) := goodIn_r _ [51, 50, 153, 42, 43, 44, 154, 155, 156, 157, 158, 159, 160, 161] (by decide +kernel) (by decide +kernel)
set_option maxRecDepth 20000 in
theorem gwL_wsX00 : GoodIn wsL_law wsX00 := goodIn_r _ [905, 906] (by decide +kernel) (by decide +kernel)
set_option maxRecDepth 20000 in
theorem ggL_law_X6_tuneDelay : GoodIn wsL_law wsX6_tuneDelay := goodIn_hd ggL_law_X6_tuneDelay_1 (goodIn_app (goodIn_app (goodIn_app (goodIn_app (goodIn_app ggL_law_X6_tuneDelay_2 (goodIn_app ggL_law_X6_tuneDelay_3 ggL_law_X6_tuneDelay_4)) gwL_wsX60) gwL_wsX10) gwL_wsX30) gwL_wsX00)
set_option maxRecDepth 20000 in
theorem gL_law_X6_tuneDelay : GoodIn wsL_law (wsV RL 129 RX6 yX6_tuneDelay wsX6_tuneDelay) := goodIn_app (goodIn_of _ (by decide +kernel)) ggL_law_X6_tuneDelay
set_option maxRecDepth 20000 in
theorem ggL_law_X7_tuneDelay_1 : GoodIn wsL_law ([.code yX7_tuneDelay cX7_tuneDelay 4 (some .int)]) := goodIn_r _ [823] (by decide +kernel) (by decide +kernel)
set_option maxRecDepth 20000 in
theorem ggL_law_X7_tuneDelay_2 : GoodIn wsL_law (wsX7_tuneDelay_r1) := goodIn_r _ [559, 267, 107, 811, 812, 813, 5, 814, 248, 795, 796, 797, 798, 104, 324, 570, 571, 572, 573, 564, 174, 175, 176, 177] (by decide +kernel) (by decide +kernel)
set_option maxRecDepth 20000 in
theorem ggL_law_X7_tuneDelay_3 : GoodIn wsL_law (wsX7_tuneDelay_r2) := goodIn_r _ [178, 109] (by decide +kernel) (by decide +kernel)
set_option maxRecDepth 20000 in
theorem ggL_law_X7_tuneDelay : GoodIn wsL_law wsX7_tuneDelay := goodIn_hd ggL_law_X7_tuneDelay_1 (goodIn_app (goodIn_app ggL_law_X7_tuneDelay_2 ggL_law_X7_tuneDelay_3) gwL_wsX70)
set_option maxRecDepth 20000 in
theorem gL_law_X7_tuneDelay : GoodIn wsL_law (wsV RL 132 RX7 yX7_tuneDelay wsX7_tuneDelay) := goodIn_app (goodIn_of _ (by decide +kernel)) ggL_law_X7_tuneDelay

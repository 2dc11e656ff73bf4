set_option maxRecDepth 20000 in
theorem ggL_law_X6_settledTicks_1 : GoodIn wsL_law ([.code yX6_settledTicks cX6_settledTicks 5 (some .int)]) := goodIn_r _ [734] (by decide +kernel) (by decide +kernel)
set_option maxRecDepth 20000 in
theorem ggL_law_X6_settledTicks_2 : GoodIn wsL_law (wsX6_settledTicks_r1) := goodIn_r _ [276, 136, 27, 719, 723, 735, 736, 457, 737, 446, 738, 456, 458, 630, 474, 475, 26, 476, 66, 72, 477, 2, 478, 479] (by decide +kernel) (by decide +kernel)
set_option maxRecDepth 20000 in
theorem ggL_law_X6_settledTicks_3 : GoodIn wsL_law (wsX6_settledTicks_r2) := goodIn_r _ [480, 481, 482] (by decide +kernel) (by decide +kernel)
set_option maxRecDepth 20000 in
theorem ggL_law_X6_settledTicks : GoodIn wsL_law wsX6_settledTicks := goodIn_hd ggL_law_X6_settledTicks_1 (goodIn_app (goodIn_app (goodIn_app (goodIn_app ggL_law_X6_settledTicks_2 ggL_law_X6_settledTicks_3) gwL_wsX60) gwL_wsX10) gwL_wsX20)
set_option maxRecDepth 20000 in
theorem gL_law_X6_settledTicks : GoodIn wsL_law (wsV RL 109 RX6 yX6_settledTicks wsX6_settledTicks) := goodIn_app (goodIn_of _ (by decide +kernel)) ggL_law_X6_settledTicks
set_option maxRecDepth 20000 in
theorem ggL_law_X7_settledTicks_1 : GoodIn wsL_law ([.code yX7_settledTicks cX7_settledTicks 3 (some .int)]) := goodIn_r _ [742] (by decide +kernel) (by decide +kernel)
set_option maxRecDepth 20000 in
theorem ggL_law_X7_settledTicks_2 : GoodIn wsL_law ([.constantLong RX7 86 (100000), .constant RX7 74 (-2000000001), .fieldLink RX7 7 "DeadTimeLoopModel" "now" "[J", .methodLink RX7 66 yX7_in, .static yX7_in, .initialized RX7, .code yX7_in cX7_in 6 (some .boolean), .methodLink RX7 132 yX7_at, .instanceMethod yX7_at, .selects RX7 yX7_at yX7_at, .code yX7_at cX7_at 4 (some .long), .constantLong RX7 130 (64), .methodLink RX7 152 yX7_size, .static yX7_size, .code yX7_size cX7_size 2 (some .long)]) := goodIn_r _ [290, 166, 104, 171, 172, 5, 173, 570, 571, 572, 573, 564, 585, 586, 587] (by decide +kernel) (by decide +kernel)
set_option maxRecDepth 20000 in
theorem ggL_law_X7_settledTicks : GoodIn wsL_law wsX7_settledTicks := goodIn_hd ggL_law_X7_settledTicks_1 (goodIn_app ggL_law_X7_settledTicks_2 gwL_wsX70)
set_option maxRecDepth 20000 in
theorem gL_law_X7_settledTicks : GoodIn wsL_law (wsV RL 112 RX7 yX7_settledTicks wsX7_settledTicks) := goodIn_app (goodIn_of _ (by decide +kernel)) ggL_law_X7_settledTicks
set_option maxRecDepth 20000 in
theorem ggL_law_X6_store_1 : GoodIn wsL_law ([.code yX6_store cX6_store 1 (some .int)]) := goodIn_r _ [746] (by decide +kernel) (by decide +kernel)
set_option maxRecDepth 20000 in
theorem ggL_law_X6_store_2 : GoodIn wsL_law (wsX6_store_r1) := goodIn_r _ [30, 315, 27, 747, 748, 749, 2, 750, 28, 29, 751, 752, 753, 26, 754, 66, 67, 68, 69, 70, 71, 755, 42, 43] (by decide +kernel) (by decide +kernel)
set_option maxRecDepth 20000 in
theorem ggL_law_X6_store_3 : GoodIn wsL_law (wsX6_store_r2) := goodIn_r _ [44, 72, 76, 80, 756, 757, 758, 75, 759, 85, 86, 87, 88, 89, 760, 761, 762, 79, 763, 94, 764, 95, 96, 97] (by decide +kernel) (by decide +kernel)
set_option maxRecDepth 20000 in
theorem ggL_law_X6_store_4 : GoodIn wsL_law (wsX6_store_r3) := goodIn_r _ [98] (by decide +kernel) (by decide +kernel)
set_option maxRecDepth 20000 in
theorem ggL_law_X6_store : GoodIn wsL_law wsX6_store := goodIn_hd ggL_law_X6_store_1 (goodIn_app (goodIn_app (goodIn_app (goodIn_app (goodIn_app ggL_law_X6_store_2 (goodIn_app ggL_law_X6_store_3 ggL_law_X6_store_4)) gwL_wsX60) gwL_wsX10) gwL_wsX20) gwL_wsX50)
set_option maxRecDepth 20000 in
theorem gL_law_X6_store : GoodIn wsL_law (wsV RL 113 RX6 yX6_store wsX6_store) := goodIn_app (goodIn_of _ (by decide +kernel)) ggL_law_X6_store
set_option maxRecDepth 20000 in
theorem ggL_law_X7_store_1 : GoodIn wsL_law ([.code yX7_store cX7_store 2 (some .int)]) := goodIn_r _ [768] (by decide +kernel) (by decide +kernel)
set_option maxRecDepth 20000 in
theorem ggL_law_X7_store_2 : GoodIn wsL_law ([.fieldLink RX7 207 "DeadTimeLoopModel" "keptMany" "I", .constant RX7 97 (-2000000003), .fieldLink RX7 16 "DeadTimeLoopModel" "kept" "[J", .fieldLink RX7 7 "DeadTimeLoopModel" "now" "[J"]) := goodIn_r _ [649, 327, 106, 104] (by decide +kernel) (by decide +kernel)
set_option maxRecDepth 20000 in
theorem ggL_law_X7_store : GoodIn wsL_law wsX7_store := goodIn_hd ggL_law_X7_store_1 (goodIn_app ggL_law_X7_store_2 gwL_wsX70)
set_option maxRecDepth 20000 in
theorem gL_law_X7_store : GoodIn wsL_law (wsV RL 116 RX7 yX7_store wsX7_store) := goodIn_app (goodIn_of _ (by decide +kernel)) ggL_law_X7_store
set_option maxRecDepth 20000 in
theorem ggL_law_X6_recall_1 : GoodIn wsL_law ([.code yX6_recall cX6_recall 1 (some .int)]) := goodIn_r _ [772] (by decide +kernel) (by decide +kernel)
set_option maxRecDepth 20000 in
theorem ggL_law_X6_recall_2 : GoodIn wsL_law (wsX6_recall_r1) := goodIn_r _ [30, 258, 27, 747, 748, 749, 2, 750, 28, 29, 751, 752, 753, 26, 754, 66, 67, 68, 69, 70, 71, 755, 42, 43] (by decide +kernel) (by decide +kernel)
set_option maxRecDepth 20000 in
theorem ggL_law_X6_recall_3 : GoodIn wsL_law (wsX6_recall_r2) := goodIn_r _ [44, 72, 76, 80, 756, 757, 758, 75, 759, 85, 86, 87, 88, 89, 760, 761, 762, 79, 763, 94, 764, 95, 96, 97] (by decide +kernel) (by decide +kernel)
set_option maxRecDepth 20000 in
theorem ggL_law_X6_recall_4 : GoodIn wsL_law (wsX6_recall_r3) := goodIn_r _ [98] (by decide +kernel) (by decide +kernel)
set_option maxRecDepth 20000 in
theorem ggL_law_X6_recall : GoodIn wsL_law wsX6_recall := goodIn_hd ggL_law_X6_recall_1 (goodIn_app (goodIn_app (goodIn_app (goodIn_app (goodIn_app ggL_law_X6_recall_2 (goodIn_app ggL_law_X6_recall_3 ggL_law_X6_recall_4)) gwL_wsX60) gwL_wsX10) gwL_wsX20) gwL_wsX50)
set_option maxRecDepth 20000 in
theorem gL_law_X6_recall : GoodIn wsL_law (wsV RL 117 RX6 yX6_recall wsX6_recall) := goodIn_app (goodIn_of _ (by decide +kernel)) ggL_law_X6_recall
set_option maxRecDepth 20000 in
theorem ggL_law_X7_recall_1 : GoodIn wsL_law ([.code yX7_recall cX7_recall 2 (some .int)]) := goodIn_r _ [776] (by decide +kernel) (by decide +kernel)
set_option maxRecDepth 20000 in
theorem ggL_law_X7_recall_2 : GoodIn wsL_law ([.fieldLink RX7 207 "DeadTimeLoopModel" "keptMany" "I", .constant RX7 83 (-2000000002), .fieldLink RX7 7 "DeadTimeLoopModel" "now" "[J", .fieldLink RX7 16 "DeadTimeLoopModel" "kept" "[J"]) := goodIn_r _ [649, 267, 104, 106] (by decide +kernel) (by decide +kernel)
set_option maxRecDepth 20000 in
theorem ggL_law_X7_recall : GoodIn wsL_law wsX7_recall := goodIn_hd ggL_law_X7_recall_1 (goodIn_app ggL_law_X7_recall_2 gwL_wsX70)
set_option maxRecDepth 20000 in
theorem gL_law_X7_recall : GoodIn wsL_law (wsV RL 120 RX7 yX7_recall wsX7_recall) := goodIn_app (goodIn_of _ (by decide +kernel)) ggL_law_X7_recall
set_option maxRecDepth 20000 in
theorem ggL_law_X6_correlation_1 : GoodIn wsL_law ([.code yX6_correlation cX6_correlation 2 (some .long)]) := goodIn_r _ [780] (by decide +kernel) (by decide +kernel)
set_option maxRecDepth 20000 in
theorem ggL_law_X6_correlation_2 : GoodIn wsL_law (wsX6_correlation_r1) := goodIn_r _ [724, 781, 782, 783, 2, 784, 27, 15, 785, 786, 787, 26, 788, 66, 789, 523, 457, 524, 473, 474, 475, 476, 72, 477] (by decide +kernel) (by decide +kernel)
set_option maxRecDepth 20000 in
theorem ggL_law_X6_correlation_3 : GoodIn wsL_law (wsX6_correlation_r2) := goodIn_r _ [478, 479, 480, 481, 482, 145, 146, 147, 14, 148, 40, 143, 144] (by decide +kernel) (by decide +kernel)
set_option maxRecDepth 20000 in
theorem ggL_law_X6_correlation : GoodIn wsL_law wsX6_correlation := goodIn_hd ggL_law_X6_correlation_1 (goodIn_app (goodIn_app (goodIn_app (goodIn_app ggL_law_X6_correlation_2 ggL_law_X6_correlation_3) gwL_wsX60) gwL_wsX10) gwL_wsX30)
set_option maxRecDepth 20000 in
theorem gL_law_X6_correlation : GoodIn wsL_law (wsV RL 121 RX6 yX6_correlation wsX6_correlation) := goodIn_app (goodIn_of _ (by decide +kernel)) ggL_law_X6_correlation
set_option maxRecDepth 20000 in
theorem ggL_law_X7_correlation_1 : GoodIn wsL_law ([.code yX7_correlation cX7_correlation 2 (some .long)]) := goodIn_r _ [793] (by decide +kernel) (by decide +kernel)
set_option maxRecDepth 20000 in
theorem ggL_law_X7_correlation_2 : GoodIn wsL_law ([.constantLong RX7 223 (30), .constantLong RX7 221 (-2000000001), .methodLink RX7 66 yX7_in, .static yX7_in, .initialized RX7, .code yX7_in cX7_in 6 (some .boolean), .methodLink RX7 225 yX7_correlationOf, .instanceMethod yX7_correlationOf, .selects RX7 yX7_correlationOf yX7_correlationOf, .code yX7_correlationOf cX7_correlationOf 6 (some .long), .fieldLink RX7 7 "DeadTimeLoopModel" "now" "[J", .constantLong RX7 90 (32), .constantLong RX7 150 (2), .fieldLink RX7 19 "DeadTimeLoopModel" "par" "[I", .methodLink RX7 132 yX7_at, .instanceMethod yX7_at, .selects RX7 yX7_at yX7_at, .code yX7_at cX7_at 4 (some .long), .constantLong RX7 130 (64)]) := goodIn_r _ [794, 730, 171, 172, 5, 173, 795, 796, 797, 798, 104, 324, 559, 107, 570, 571, 572, 573, 564] (by decide +kernel) (by decide +kernel)
set_option maxRecDepth 20000 in
theorem ggL_law_X7_correlation : GoodIn wsL_law wsX7_correlation := goodIn_hd ggL_law_X7_correlation_1 (goodIn_app ggL_law_X7_correlation_2 gwL_wsX70)
set_option maxRecDepth 20000 in
theorem gL_law_X7_correlation : GoodIn wsL_law (wsV RL 124 RX7 yX7_correlation wsX7_correlation) := goodIn_app (goodIn_of _ (by decide +kernel)) ggL_law_X7_correlation

set_option maxRecDepth 20000 in
theorem ggL_law_X6_unwatch_1 : GoodIn wsL_law ([.code yX6_unwatch cX6_unwatch 2 (some .int)]) := goodIn_r _ [680] (by decide +kernel) (by decide +kernel)
set_option maxRecDepth 20000 in
theorem ggL_law_X6_unwatch_2 : GoodIn wsL_law ([.constant RX6 63 (-2000000001), .fieldLink RX6 33 "DeadTimeLoop" "loop" "LDeadTimeLoop$Loop;", .fieldLink RX6 156 "DeadTimeLoop$Loop" "watches" "LDeadTimeLoop$Watches;", .fieldLink RX6 165 "DeadTimeLoop$Watches" "count" "I", .constant RX6 94 (-2000000004), .methodLink RX6 142 yX6_isSignal, .static yX6_isSignal, .initialized RX6, .code yX6_isSignal cX6_isSignal 1 (some .boolean), .methodLink RX6 166 yX5_remove, .instanceMethod yX5_remove, .selects RX5 yX5_remove yX5_remove, .initialized RX5, .code yX5_remove cX5_remove 4 (some .boolean), .fieldLink RX5 24 "DeadTimeLoop$Watches" "count" "I", .fieldLink RX5 9 "DeadTimeLoop$Watches" "signals" "[I", .fieldLink RX5 15 "DeadTimeLoop$Watches" "least" "[I", .fieldLink RX5 18 "DeadTimeLoop$Watches" "greatest" "[I", .fieldLink RX5 21 "DeadTimeLoop$Watches" "greatestTick" "[I", .methodLink RX5 34 yX5_placeOf, .instanceMethod yX5_placeOf, .selects RX5 yX5_placeOf yX5_placeOf, .code yX5_placeOf cX5_placeOf 3 (some .int)]) := goodIn_r _ [136, 27, 658, 659, 191, 613, 477, 2, 478, 681, 682, 683, 79, 684, 98, 94, 95, 96, 97, 664, 665, 666, 667] (by decide +kernel) (by decide +kernel)
set_option maxRecDepth 20000 in
theorem ggL_law_X6_unwatch : GoodIn wsL_law wsX6_unwatch := goodIn_hd ggL_law_X6_unwatch_1 (goodIn_app (goodIn_app (goodIn_app ggL_law_X6_unwatch_2 gwL_wsX60) gwL_wsX10) gwL_wsX50)
set_option maxRecDepth 20000 in
theorem gL_law_X6_unwatch : GoodIn wsL_law (wsV RL 92 RX6 yX6_unwatch wsX6_unwatch) := goodIn_app (goodIn_of _ (by decide +kernel)) ggL_law_X6_unwatch
set_option maxRecDepth 20000 in
theorem ggL_law_X7_unwatch_1 : GoodIn wsL_law ([.code yX7_unwatch cX7_unwatch 4 (some .int)]) := goodIn_r _ [688] (by decide +kernel) (by decide +kernel)
set_option maxRecDepth 20000 in
theorem ggL_law_X7_unwatch_2 : GoodIn wsL_law ([.constant RX7 74 (-2000000001), .constant RX7 82 (-2000000004), .fieldLink RX7 7 "DeadTimeLoopModel" "now" "[J", .constantLong RX7 215 (661), .constantLong RX7 217 (5), .methodLink RX7 196 yX7_isSignal, .static yX7_isSignal, .initialized RX7, .code yX7_isSignal cX7_isSignal 1 (some .boolean), .constantLong RX7 194 (9), .methodLink RX7 66 yX7_in, .static yX7_in, .code yX7_in cX7_in 6 (some .boolean), .methodLink RX7 210 yX7_placeOf, .instanceMethod yX7_placeOf, .selects RX7 yX7_placeOf yX7_placeOf, .code yX7_placeOf cX7_placeOf 3 (some .int)]) := goodIn_r _ [166, 248, 104, 689, 690, 618, 619, 5, 620, 621, 171, 172, 173, 673, 674, 675, 676] (by decide +kernel) (by decide +kernel)
set_option maxRecDepth 20000 in
theorem ggL_law_X7_unwatch : GoodIn wsL_law wsX7_unwatch := goodIn_hd ggL_law_X7_unwatch_1 (goodIn_app ggL_law_X7_unwatch_2 gwL_wsX70)
set_option maxRecDepth 20000 in
theorem gL_law_X7_unwatch : GoodIn wsL_law (wsV RL 95 RX7 yX7_unwatch wsX7_unwatch) := goodIn_app (goodIn_of _ (by decide +kernel)) ggL_law_X7_unwatch
set_option maxRecDepth 20000 in
theorem ggL_law_X6_watchedAt_1 : GoodIn wsL_law ([.code yX6_watchedAt cX6_watchedAt 2 (some .int)]) := goodIn_r _ [694] (by decide +kernel) (by decide +kernel)
set_option maxRecDepth 20000 in
theorem ggL_law_X6_watchedAt_2 : GoodIn wsL_law ([.constant RX6 63 (-2000000001), .fieldLink RX6 33 "DeadTimeLoop" "loop" "LDeadTimeLoop$Loop;", .fieldLink RX6 156 "DeadTimeLoop$Loop" "watches" "LDeadTimeLoop$Watches;", .fieldLink RX6 165 "DeadTimeLoop$Watches" "count" "I", .fieldLink RX6 169 "DeadTimeLoop$Watches" "signals" "[I", .constant RX6 94 (-2000000004)]) := goodIn_r _ [136, 27, 658, 659, 695, 191] (by decide +kernel) (by decide +kernel)
set_option maxRecDepth 20000 in
theorem ggL_law_X6_watchedAt : GoodIn wsL_law wsX6_watchedAt := goodIn_hd ggL_law_X6_watchedAt_1 (goodIn_app (goodIn_app (goodIn_app ggL_law_X6_watchedAt_2 gwL_wsX60) gwL_wsX10) gwL_wsX50)
set_option maxRecDepth 20000 in
theorem gL_law_X6_watchedAt : GoodIn wsL_law (wsV RL 96 RX6 yX6_watchedAt wsX6_watchedAt) := goodIn_app (goodIn_of _ (by decide +kernel)) ggL_law_X6_watchedAt
set_option maxRecDepth 20000 in
theorem ggL_law_X7_watchedAt_1 : GoodIn wsL_law ([.code yX7_watchedAt cX7_watchedAt 2 (some .int)]) := goodIn_r _ [699] (by decide +kernel) (by decide +kernel)
set_option maxRecDepth 20000 in
theorem ggL_law_X7_watchedAt_2 : GoodIn wsL_law ([.constant RX7 74 (-2000000001), .fieldLink RX7 7 "DeadTimeLoopModel" "now" "[J", .constant RX7 82 (-2000000004)]) := goodIn_r _ [166, 104, 248] (by decide +kernel) (by decide +kernel)
set_option maxRecDepth 20000 in
theorem ggL_law_X7_watchedAt : GoodIn wsL_law wsX7_watchedAt := goodIn_hd ggL_law_X7_watchedAt_1 (goodIn_app ggL_law_X7_watchedAt_2 gwL_wsX70)
set_option maxRecDepth 20000 in
theorem gL_law_X7_watchedAt : GoodIn wsL_law (wsV RL 99 RX7 yX7_watchedAt wsX7_watchedAt) := goodIn_app (goodIn_of _ (by decide +kernel)) ggL_law_X7_watchedAt
set_option maxRecDepth 20000 in
theorem ggL_law_X6_extreme_1 : GoodIn wsL_law ([.code yX6_extreme cX6_extreme 4 (some .int)]) := goodIn_r _ [703] (by decide +kernel) (by decide +kernel)
set_option maxRecDepth 20000 in
theorem ggL_law_X6_extreme_2 : GoodIn wsL_law (wsX6_extreme_r1) := goodIn_r _ [136, 27, 658, 258, 191, 613, 477, 2, 478, 704, 665, 666, 79, 667, 98, 94, 705, 534, 535, 536, 97, 706, 707, 708] (by decide +kernel) (by decide +kernel)
set_option maxRecDepth 20000 in
theorem ggL_law_X6_extreme_3 : GoodIn wsL_law (wsX6_extreme_r2) := goodIn_r _ [709, 710, 95, 96] (by decide +kernel) (by decide +kernel)
set_option maxRecDepth 20000 in
theorem ggL_law_X6_extreme : GoodIn wsL_law wsX6_extreme := goodIn_hd ggL_law_X6_extreme_1 (goodIn_app (goodIn_app (goodIn_app (goodIn_app ggL_law_X6_extreme_2 ggL_law_X6_extreme_3) gwL_wsX60) gwL_wsX10) gwL_wsX50)
set_option maxRecDepth 20000 in
theorem gL_law_X6_extreme : GoodIn wsL_law (wsV RL 100 RX6 yX6_extreme wsX6_extreme) := goodIn_app (goodIn_of _ (by decide +kernel)) ggL_law_X6_extreme
set_option maxRecDepth 20000 in
theorem ggL_law_X7_extreme_1 : GoodIn wsL_law ([.code yX7_extreme cX7_extreme 4 (some .int)]) := goodIn_r _ [714] (by decide +kernel) (by decide +kernel)
set_option maxRecDepth 20000 in
theorem ggL_law_X7_extreme_2 : GoodIn wsL_law ([.constantLong RX7 150 (2), .constant RX7 74 (-2000000001), .constant RX7 83 (-2000000002), .fieldLink RX7 7 "DeadTimeLoopModel" "now" "[J", .constant RX7 82 (-2000000004), .methodLink RX7 196 yX7_isSignal, .static yX7_isSignal, .initialized RX7, .code yX7_isSignal cX7_isSignal 1 (some .boolean), .constantLong RX7 194 (9), .methodLink RX7 66 yX7_in, .static yX7_in, .code yX7_in cX7_in 6 (some .boolean), .methodLink RX7 210 yX7_placeOf, .instanceMethod yX7_placeOf, .selects RX7 yX7_placeOf yX7_placeOf, .code yX7_placeOf cX7_placeOf 3 (some .int)]) := goodIn_r _ [559, 166, 267, 104, 248, 618, 619, 5, 620, 621, 171, 172, 173, 673, 674, 675, 676] (by decide +kernel) (by decide +kernel)
set_option maxRecDepth 20000 in
theorem ggL_law_X7_extreme : GoodIn wsL_law wsX7_extreme := goodIn_hd ggL_law_X7_extreme_1 (goodIn_app ggL_law_X7_extreme_2 gwL_wsX70)
set_option maxRecDepth 20000 in
theorem gL_law_X7_extreme : GoodIn wsL_law (wsV RL 103 RX7 yX7_extreme wsX7_extreme) := goodIn_app (goodIn_of _ (by decide +kernel)) ggL_law_X7_extreme
set_option maxRecDepth 20000 in
theorem ggL_law_X6_measure_1 : GoodIn wsL_law ([.code yX6_measure cX6_measure 2 (some .long)]) := goodIn_r _ [718] (by decide +kernel) (by decide +kernel)
set_option maxRecDepth 20000 in
theorem ggL_law_X6_measure_2 : GoodIn wsL_law ([.fieldLink RX6 33 "DeadTimeLoop" "loop" "LDeadTimeLoop$Loop;", .fieldLink RX6 180 "DeadTimeLoop$Loop" "section" "LDeadTimeLoop$Section;", .fieldLink RX6 184 "DeadTimeLoop$Section" "errorSum" "J", .fieldLink RX6 190 "DeadTimeLoop$Section" "effort" "J", .fieldLink RX6 193 "DeadTimeLoop$Section" "overshoot" "I", .fieldLink RX6 196 "DeadTimeLoop$Section" "ticks" "I", .constantLong RX6 199 (-2000000001)]) := goodIn_r _ [27, 719, 720, 721, 722, 723, 724] (by decide +kernel) (by decide +kernel)
set_option maxRecDepth 20000 in
theorem ggL_law_X6_measure : GoodIn wsL_law wsX6_measure := goodIn_hd ggL_law_X6_measure_1 (goodIn_app (goodIn_app (goodIn_app ggL_law_X6_measure_2 gwL_wsX60) gwL_wsX10) gwL_wsX20)
set_option maxRecDepth 20000 in
theorem gL_law_X6_measure : GoodIn wsL_law (wsV RL 104 RX6 yX6_measure wsX6_measure) := goodIn_app (goodIn_of _ (by decide +kernel)) ggL_law_X6_measure
set_option maxRecDepth 20000 in
theorem ggL_law_X7_measure_1 : GoodIn wsL_law ([.code yX7_measure cX7_measure 2 (some .long)]) := goodIn_r _ [728] (by decide +kernel) (by decide +kernel)
set_option maxRecDepth 20000 in
theorem ggL_law_X7_measure_2 : GoodIn wsL_law ([.constantLong RX7 219 (3), .fieldLink RX7 7 "DeadTimeLoopModel" "now" "[J", .constantLong RX7 221 (-2000000001), .methodLink RX7 66 yX7_in, .static yX7_in, .initialized RX7, .code yX7_in cX7_in 6 (some .boolean)]) := goodIn_r _ [729, 104, 730, 171, 172, 5, 173] (by decide +kernel) (by decide +kernel)
set_option maxRecDepth 20000 in
theorem ggL_law_X7_measure : GoodIn wsL_law wsX7_measure := goodIn_hd ggL_law_X7_measure_1 (goodIn_app ggL_law_X7_measure_2 gwL_wsX70)
set_option maxRecDepth 20000 in
theorem gL_law_X7_measure : GoodIn wsL_law (wsV RL 108 RX7 yX7_measure wsX7_measure) := goodIn_app (goodIn_of _ (by decide +kernel)) ggL_law_X7_measure

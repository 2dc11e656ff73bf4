set_option maxRecDepth 20000 in
theorem ggL_law_X6_value_1 : GoodIn wsL_law ([.code yX6_value cX6_value 2 (some .int)]) := goodIn_r _ [611] (by decide +kernel) (by decide +kernel)
set_option maxRecDepth 20000 in
theorem ggL_law_X6_value_2 : GoodIn wsL_law ([.fieldLink RX6 33 "DeadTimeLoop" "loop" "LDeadTimeLoop$Loop;", .fieldLink RX6 145 "DeadTimeLoop$Loop" "present" "[I", .constant RX6 63 (-2000000001), .methodLink RX6 142 yX6_isSignal, .static yX6_isSignal, .initialized RX6, .code yX6_isSignal cX6_isSignal 1 (some .boolean)]) := goodIn_r _ [27, 612, 136, 613, 477, 2, 478] (by decide +kernel) (by decide +kernel)
set_option maxRecDepth 20000 in
theorem ggL_law_X6_value : GoodIn wsL_law wsX6_value := goodIn_hd ggL_law_X6_value_1 (goodIn_app (goodIn_app ggL_law_X6_value_2 gwL_wsX60) gwL_wsX10)
set_option maxRecDepth 20000 in
theorem gL_law_X6_value : GoodIn wsL_law (wsV RL 76 RX6 yX6_value wsX6_value) := goodIn_app (goodIn_of _ (by decide +kernel)) ggL_law_X6_value
set_option maxRecDepth 20000 in
theorem ggL_law_X7_value_1 : GoodIn wsL_law ([.code yX7_value cX7_value 2 (some .int)]) := goodIn_r _ [617] (by decide +kernel) (by decide +kernel)
set_option maxRecDepth 20000 in
theorem ggL_law_X7_value_2 : GoodIn wsL_law ([.constant RX7 74 (-2000000001), .methodLink RX7 196 yX7_isSignal, .static yX7_isSignal, .initialized RX7, .code yX7_isSignal cX7_isSignal 1 (some .boolean), .constantLong RX7 194 (9), .methodLink RX7 66 yX7_in, .static yX7_in, .code yX7_in cX7_in 6 (some .boolean), .methodLink RX7 199 yX7_present, .instanceMethod yX7_present, .selects RX7 yX7_present yX7_present, .code yX7_present cX7_present 2 (some .int), .fieldLink RX7 7 "DeadTimeLoopModel" "now" "[J"]) := goodIn_r _ [166, 618, 619, 5, 620, 621, 171, 172, 173, 622, 623, 624, 625, 104] (by decide +kernel) (by decide +kernel)
set_option maxRecDepth 20000 in
theorem ggL_law_X7_value : GoodIn wsL_law wsX7_value := goodIn_hd ggL_law_X7_value_1 (goodIn_app ggL_law_X7_value_2 gwL_wsX70)
set_option maxRecDepth 20000 in
theorem gL_law_X7_value : GoodIn wsL_law (wsV RL 79 RX7 yX7_value wsX7_value) := goodIn_app (goodIn_of _ (by decide +kernel)) ggL_law_X7_value
set_option maxRecDepth 20000 in
theorem ggL_law_X6_recorded_1 : GoodIn wsL_law ([.code yX6_recorded cX6_recorded 3 (some .int)]) := goodIn_r _ [629] (by decide +kernel) (by decide +kernel)
set_option maxRecDepth 20000 in
theorem ggL_law_X6_recorded_2 : GoodIn wsL_law ([.constant RX6 63 (-2000000001), .fieldLink RX6 33 "DeadTimeLoop" "loop" "LDeadTimeLoop$Loop;", .fieldLink RX6 135 "DeadTimeLoop$Loop" "now" "I", .constant RX6 94 (-2000000004), .methodLink RX6 142 yX6_isSignal, .static yX6_isSignal, .initialized RX6, .code yX6_isSignal cX6_isSignal 1 (some .boolean), .methodLink RX6 149 yX1_recordOf, .instanceMethod yX1_recordOf, .selects RX1 yX1_recordOf yX1_recordOf, .initialized RX1, .code yX1_recordOf cX1_recordOf 3 (some .int), .fieldLink RX1 9 "DeadTimeLoop$Loop" "now" "I", .fieldLink RX1 31 "DeadTimeLoop$Loop" "records" "[I", .methodLink RX1 72 yJ9_floorMod_7cf53, .static yJ9_floorMod_7cf53, .initialized RJ9, .code yJ9_floorMod_7cf53 cJ9_floorMod_7cf53 3 (some .int)]) := goodIn_r _ [136, 27, 446, 191, 613, 477, 2, 478, 630, 474, 475, 26, 476, 66, 72, 479, 480, 481, 482] (by decide +kernel) (by decide +kernel)
set_option maxRecDepth 20000 in
theorem ggL_law_X6_recorded : GoodIn wsL_law wsX6_recorded := goodIn_hd ggL_law_X6_recorded_1 (goodIn_app (goodIn_app ggL_law_X6_recorded_2 gwL_wsX60) gwL_wsX10)
set_option maxRecDepth 20000 in
theorem gL_law_X6_recorded : GoodIn wsL_law (wsV RL 80 RX6 yX6_recorded wsX6_recorded) := goodIn_app (goodIn_of _ (by decide +kernel)) ggL_law_X6_recorded
set_option maxRecDepth 20000 in
theorem ggL_law_X7_recorded_1 : GoodIn wsL_law ([.code yX7_recorded cX7_recorded 3 (some .int)]) := goodIn_r _ [634] (by decide +kernel) (by decide +kernel)
set_option maxRecDepth 20000 in
theorem ggL_law_X7_recorded_2 : GoodIn wsL_law ([.constantLong RX7 202 (63), .constant RX7 74 (-2000000001), .fieldLink RX7 7 "DeadTimeLoopModel" "now" "[J", .constant RX7 82 (-2000000004), .methodLink RX7 196 yX7_isSignal, .static yX7_isSignal, .initialized RX7, .code yX7_isSignal cX7_isSignal 1 (some .boolean), .constantLong RX7 194 (9), .methodLink RX7 66 yX7_in, .static yX7_in, .code yX7_in cX7_in 6 (some .boolean), .methodLink RX7 132 yX7_at, .instanceMethod yX7_at, .selects RX7 yX7_at yX7_at, .code yX7_at cX7_at 4 (some .long), .constantLong RX7 130 (64)]) := goodIn_r _ [635, 166, 104, 248, 618, 619, 5, 620, 621, 171, 172, 173, 570, 571, 572, 573, 564] (by decide +kernel) (by decide +kernel)
set_option maxRecDepth 20000 in
theorem ggL_law_X7_recorded : GoodIn wsL_law wsX7_recorded := goodIn_hd ggL_law_X7_recorded_1 (goodIn_app ggL_law_X7_recorded_2 gwL_wsX70)
set_option maxRecDepth 20000 in
theorem gL_law_X7_recorded : GoodIn wsL_law (wsV RL 83 RX7 yX7_recorded wsX7_recorded) := goodIn_app (goodIn_of _ (by decide +kernel)) ggL_law_X7_recorded
set_option maxRecDepth 20000 in
theorem ggL_law_X6_restart_1 : GoodIn wsL_law ([.code yX6_restart cX6_restart 2 (some .int)]) := goodIn_r _ [639] (by decide +kernel) (by decide +kernel)
set_option maxRecDepth 20000 in
theorem ggL_law_X6_restart_2 : GoodIn wsL_law (wsX6_restart_r1) := goodIn_r _ [27, 446, 30, 640, 641, 642, 26, 643, 66, 67, 68, 69, 70, 71, 76, 80, 644, 281, 282, 283, 75, 284, 85, 86] (by decide +kernel) (by decide +kernel)
set_option maxRecDepth 20000 in
theorem ggL_law_X6_restart_3 : GoodIn wsL_law (wsX6_restart_r2) := goodIn_r _ [87, 88, 89] (by decide +kernel) (by decide +kernel)
set_option maxRecDepth 20000 in
theorem ggL_law_X6_restart : GoodIn wsL_law wsX6_restart := goodIn_hd ggL_law_X6_restart_1 (goodIn_app (goodIn_app (goodIn_app (goodIn_app (goodIn_app ggL_law_X6_restart_2 ggL_law_X6_restart_3) gwL_wsX60) gwL_wsX10) gwL_wsX50) gwL_wsX20)
set_option maxRecDepth 20000 in
theorem gL_law_X6_restart : GoodIn wsL_law (wsV RL 84 RX6 yX6_restart wsX6_restart) := goodIn_app (goodIn_of _ (by decide +kernel)) ggL_law_X6_restart
set_option maxRecDepth 20000 in
theorem ggL_law_X7_restart_1 : GoodIn wsL_law ([.code yX7_restart cX7_restart 2 (some .int)]) := goodIn_r _ [648] (by decide +kernel) (by decide +kernel)
set_option maxRecDepth 20000 in
theorem ggL_law_X7_restart_2 : GoodIn wsL_law ([.fieldLink RX7 7 "DeadTimeLoopModel" "now" "[J", .fieldLink RX7 207 "DeadTimeLoopModel" "keptMany" "I", .methodLink RX7 204 yX7_clears, .instanceMethod yX7_clears, .selects RX7 yX7_clears yX7_clears, .initialized RX7, .code yX7_clears cX7_clears 2 none]) := goodIn_r _ [104, 649, 650, 651, 652, 5, 653] (by decide +kernel) (by decide +kernel)
set_option maxRecDepth 20000 in
theorem ggL_law_X7_restart : GoodIn wsL_law wsX7_restart := goodIn_hd ggL_law_X7_restart_1 (goodIn_app ggL_law_X7_restart_2 gwL_wsX70)
set_option maxRecDepth 20000 in
theorem gL_law_X7_restart : GoodIn wsL_law (wsV RL 87 RX7 yX7_restart wsX7_restart) := goodIn_app (goodIn_of _ (by decide +kernel)) ggL_law_X7_restart
set_option maxRecDepth 20000 in
theorem ggL_law_X6_watch_1 : GoodIn wsL_law ([.code yX6_watch cX6_watch 2 (some .int)]) := goodIn_r _ [657] (by decide +kernel) (by decide +kernel)
set_option maxRecDepth 20000 in
theorem ggL_law_X6_watch_2 : GoodIn wsL_law ([.constant RX6 63 (-2000000001), .fieldLink RX6 33 "DeadTimeLoop" "loop" "LDeadTimeLoop$Loop;", .fieldLink RX6 156 "DeadTimeLoop$Loop" "watches" "LDeadTimeLoop$Watches;", .fieldLink RX6 165 "DeadTimeLoop$Watches" "count" "I", .constant RX6 120 (-2000000003), .methodLink RX6 142 yX6_isSignal, .static yX6_isSignal, .initialized RX6, .code yX6_isSignal cX6_isSignal 1 (some .boolean), .methodLink RX6 160 yX5_add, .instanceMethod yX5_add, .selects RX5 yX5_add yX5_add, .initialized RX5, .code yX5_add cX5_add 3 (some .boolean), .fieldLink RX5 24 "DeadTimeLoop$Watches" "count" "I", .fieldLink RX5 9 "DeadTimeLoop$Watches" "signals" "[I", .fieldLink RX5 21 "DeadTimeLoop$Watches" "greatestTick" "[I", .methodLink RX5 34 yX5_placeOf, .instanceMethod yX5_placeOf, .selects RX5 yX5_placeOf yX5_placeOf, .code yX5_placeOf cX5_placeOf 3 (some .int)]) := goodIn_r _ [136, 27, 658, 659, 315, 613, 477, 2, 478, 660, 661, 662, 79, 663, 98, 94, 97, 664, 665, 666, 667] (by decide +kernel) (by decide +kernel)
set_option maxRecDepth 20000 in
theorem ggL_law_X6_watch : GoodIn wsL_law wsX6_watch := goodIn_hd ggL_law_X6_watch_1 (goodIn_app (goodIn_app (goodIn_app ggL_law_X6_watch_2 gwL_wsX60) gwL_wsX10) gwL_wsX50)
set_option maxRecDepth 20000 in
theorem gL_law_X6_watch : GoodIn wsL_law (wsV RL 88 RX6 yX6_watch wsX6_watch) := goodIn_app (goodIn_of _ (by decide +kernel)) ggL_law_X6_watch
set_option maxRecDepth 20000 in
theorem ggL_law_X7_watch_1 : GoodIn wsL_law ([.code yX7_watch cX7_watch 3 (some .int)]) := goodIn_r _ [671] (by decide +kernel) (by decide +kernel)
set_option maxRecDepth 20000 in
theorem ggL_law_X7_watch_2 : GoodIn wsL_law ([.constant RX7 74 (-2000000001), .fieldLink RX7 7 "DeadTimeLoopModel" "now" "[J", .constantLong RX7 213 (4), .constant RX7 97 (-2000000003), .methodLink RX7 196 yX7_isSignal, .static yX7_isSignal, .initialized RX7, .code yX7_isSignal cX7_isSignal 1 (some .boolean), .constantLong RX7 194 (9), .methodLink RX7 66 yX7_in, .static yX7_in, .code yX7_in cX7_in 6 (some .boolean), .methodLink RX7 210 yX7_placeOf, .instanceMethod yX7_placeOf, .selects RX7 yX7_placeOf yX7_placeOf, .code yX7_placeOf cX7_placeOf 3 (some .int), .constant RX7 82 (-2000000004)]) := goodIn_r _ [166, 104, 672, 327, 618, 619, 5, 620, 621, 171, 172, 173, 673, 674, 675, 676, 248] (by decide +kernel) (by decide +kernel)
set_option maxRecDepth 20000 in
theorem ggL_law_X7_watch : GoodIn wsL_law wsX7_watch := goodIn_hd ggL_law_X7_watch_1 (goodIn_app ggL_law_X7_watch_2 gwL_wsX70)
set_option maxRecDepth 20000 in
theorem gL_law_X7_watch : GoodIn wsL_law (wsV RL 91 RX7 yX7_watch wsX7_watch) := goodIn_app (goodIn_of _ (by decide +kernel)) ggL_law_X7_watch

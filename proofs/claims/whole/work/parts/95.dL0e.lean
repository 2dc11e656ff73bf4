set_option maxRecDepth 20000 in
theorem ggL_law_X6_value : GoodIn wsL_law wsX6_value := goodIn_r _ [611, 27, 612, 136, 613, 477, 2, 478, 875, 876, 877, 878, 879, 880, 881, 882, 883, 884, 885, 912, 913, 914, 915, 916, 917, 918, 919, 920] (by decide +kernel) (by decide +kernel)
set_option maxRecDepth 20000 in
theorem gL_law_X6_value : GoodIn wsL_law (wsV RL 76 RX6 yX6_value wsX6_value) := goodIn_app (goodIn_of _ (by decide +kernel)) ggL_law_X6_value
set_option maxRecDepth 20000 in
theorem ggL_law_X7_value : GoodIn wsL_law wsX7_value := goodIn_r _ [617, 166, 618, 619, 5, 620, 621, 171, 172, 173, 622, 623, 624, 625, 104, 886, 887, 888, 889, 890, 891, 892, 893, 894, 895, 896, 897, 898, 899, 900, 901, 902, 903] (by decide +kernel) (by decide +kernel)
set_option maxRecDepth 20000 in
theorem gL_law_X7_value : GoodIn wsL_law (wsV RL 79 RX7 yX7_value wsX7_value) := goodIn_app (goodIn_of _ (by decide +kernel)) ggL_law_X7_value
set_option maxRecDepth 20000 in
theorem ggL_law_X6_recorded : GoodIn wsL_law wsX6_recorded := goodIn_r _ [629, 136, 27, 446, 191, 613, 477, 2, 478, 630, 474, 475, 26, 476, 66, 72, 479, 480, 481, 482, 875, 876, 877, 878, 879, 880, 881, 882, 883, 884, 885, 912, 913, 914, 915, 916, 917, 918, 919, 920] (by decide +kernel) (by decide +kernel)
set_option maxRecDepth 20000 in
theorem gL_law_X6_recorded : GoodIn wsL_law (wsV RL 80 RX6 yX6_recorded wsX6_recorded) := goodIn_app (goodIn_of _ (by decide +kernel)) ggL_law_X6_recorded
set_option maxRecDepth 20000 in
theorem ggL_law_X7_recorded : GoodIn wsL_law wsX7_recorded := goodIn_r _ [634, 635, 166, 104, 248, 618, 619, 5, 620, 621, 171, 172, 173, 570, 571, 572, 573, 564, 886, 887, 888, 889, 890, 891, 892, 893, 894, 895, 896, 897, 898, 899, 900, 901, 902, 903] (by decide +kernel) (by decide +kernel)
set_option maxRecDepth 20000 in
theorem gL_law_X7_recorded : GoodIn wsL_law (wsV RL 83 RX7 yX7_recorded wsX7_recorded) := goodIn_app (goodIn_of _ (by decide +kernel)) ggL_law_X7_recorded
set_option maxRecDepth 20000 in
theorem ggL_law_X6_restart : GoodIn wsL_law wsX6_restart := goodIn_r _ [639, 27, 446, 30, 640, 641, 642, 26, 643, 66, 67, 68, 69, 70, 71, 76, 80, 644, 281, 282, 283, 75, 284, 85, 86, 87, 88, 89, 875, 876, 877, 878, 879, 880, 881, 882, 883, 884, 885, 912, 913, 914, 915, 916, 917, 918, 919, 920, 926, 927, 928, 929, 930, 921, 922, 923, 924, 925] (by decide +kernel) (by decide +kernel)
set_option maxRecDepth 20000 in
theorem gL_law_X6_restart : GoodIn wsL_law (wsV RL 84 RX6 yX6_restart wsX6_restart) := goodIn_app (goodIn_of _ (by decide +kernel)) ggL_law_X6_restart
set_option maxRecDepth 20000 in
theorem ggL_law_X7_restart : GoodIn wsL_law wsX7_restart := goodIn_r _ [648, 104, 649, 650, 651, 652, 5, 653, 886, 887, 888, 889, 890, 891, 892, 893, 894, 895, 896, 897, 898, 899, 900, 901, 902, 903] (by decide +kernel) (by decide +kernel)
set_option maxRecDepth 20000 in
theorem gL_law_X7_restart : GoodIn wsL_law (wsV RL 87 RX7 yX7_restart wsX7_restart) := goodIn_app (goodIn_of _ (by decide +kernel)) ggL_law_X7_restart
set_option maxRecDepth 20000 in
theorem ggL_law_X6_watch : GoodIn wsL_law wsX6_watch := goodIn_r _ [657, 136, 27, 658, 659, 315, 613, 477, 2, 478, 660, 661, 662, 79, 663, 98, 94, 97, 664, 665, 666, 667, 875, 876, 877, 878, 879, 880, 881, 882, 883, 884, 885, 912, 913, 914, 915, 916, 917, 918, 919, 920, 926, 927, 928, 929, 930] (by decide +kernel) (by decide +kernel)
set_option maxRecDepth 20000 in
theorem gL_law_X6_watch : GoodIn wsL_law (wsV RL 88 RX6 yX6_watch wsX6_watch) := goodIn_app (goodIn_of _ (by decide +kernel)) ggL_law_X6_watch
set_option maxRecDepth 20000 in
theorem ggL_law_X7_watch : GoodIn wsL_law wsX7_watch := goodIn_r _ [671, 166, 104, 672, 327, 618, 619, 5, 620, 621, 171, 172, 173, 673, 674, 675, 676, 248, 886, 887, 888, 889, 890, 891, 892, 893, 894, 895, 896, 897, 898, 899, 900, 901, 902, 903] (by decide +kernel) (by decide +kernel)
set_option maxRecDepth 20000 in
theorem gL_law_X7_watch : GoodIn wsL_law (wsV RL 91 RX7 yX7_watch wsX7_watch) := goodIn_app (goodIn_of _ (by decide +kernel)) ggL_law_X7_watch

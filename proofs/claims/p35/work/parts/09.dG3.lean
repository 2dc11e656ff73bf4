set_option maxRecDepth 20000 in
theorem ggL_law_L_isBounded_1 : GoodIn wsL_law ([.code yL_isBounded cL_isBounded 15 (some .boolean)]) := goodIn_r _ [342] (by decide +kernel) (by decide +kernel)
set_option maxRecDepth 20000 in
theorem ggL_law_L_isBounded_2 : GoodIn wsL_law (wsL_isBounded_r1) := goodIn_r _ [9, 10, 11, 343, 344, 12, 345, 346, 14, 15, 16, 17, 18, 19, 20, 21, 22, 23, 24, 25, 26, 27, 28, 29] (by decide +kernel) (by decide +kernel)
set_option maxRecDepth 20000 in
theorem ggL_law_L_isBounded_3 : GoodIn wsL_law (wsL_isBounded_r2) := goodIn_r _ [30, 31, 32, 33, 34, 35, 36, 37, 38, 39, 40, 41, 42, 43, 44, 45, 46, 47, 48, 49, 50, 51, 52, 53] (by decide +kernel) (by decide +kernel)
set_option maxRecDepth 20000 in
theorem ggL_law_L_isBounded_4 : GoodIn wsL_law (wsL_isBounded_r3) := goodIn_r _ [54, 55, 56, 57, 58, 59, 60, 61, 62, 63, 64, 65, 66, 67, 68, 69, 70, 71, 72, 73, 74, 75, 76, 77] (by decide +kernel) (by decide +kernel)
set_option maxRecDepth 20000 in
theorem ggL_law_L_isBounded_5 : GoodIn wsL_law (wsL_isBounded_r4) := goodIn_r _ [78, 79, 80, 81, 82, 83, 84, 85, 86, 87, 88, 89, 90, 91, 92, 93, 94, 95, 96, 97, 98, 99, 100, 101] (by decide +kernel) (by decide +kernel)
set_option maxRecDepth 20000 in
theorem ggL_law_L_isBounded_6 : GoodIn wsL_law (wsL_isBounded_r5) := goodIn_r _ [102, 103, 104, 105, 106, 107, 108, 109, 110, 111, 112, 113, 114, 115, 116, 117, 118, 119, 120, 121, 122, 123, 124, 125] (by decide +kernel) (by decide +kernel)
set_option maxRecDepth 20000 in
theorem ggL_law_L_isBounded_7 : GoodIn wsL_law (wsL_isBounded_r6) := goodIn_r _ [126, 127, 128, 129, 130, 131, 132, 133, 134, 135, 136, 137, 138, 139, 140, 141, 142, 143, 144, 145, 146, 147, 148, 149] (by decide +kernel) (by decide +kernel)
set_option maxRecDepth 20000 in
theorem ggL_law_L_isBounded_8 : GoodIn wsL_law (wsL_isBounded_r7) := goodIn_r _ [150, 151, 152, 153, 268, 269, 270, 271, 272, 273, 274, 275, 276, 277, 176, 177, 178, 179, 180, 181, 160, 182, 183, 184] (by decide +kernel) (by decide +kernel)
set_option maxRecDepth 20000 in
theorem ggL_law_L_isBounded_9 : GoodIn wsL_law (wsL_isBounded_r8) := goodIn_r _ [185, 186, 187, 188, 189, 190, 191, 192, 193, 194, 195, 196, 197, 198, 199, 200, 201, 202, 203, 204, 205, 206, 207, 208] (by decide +kernel) (by decide +kernel)
set_option maxRecDepth 20000 in
theorem ggL_law_L_isBounded_10 : GoodIn wsL_law (wsL_isBounded_r9) := goodIn_r _ [209, 210, 211, 212, 213, 214, 215, 216, 217, 218, 219, 220, 221, 222, 223, 224, 225, 226, 227, 228, 229, 230, 231, 232] (by decide +kernel) (by decide +kernel)
set_option maxRecDepth 20000 in
theorem ggL_law_L_isBounded_11 : GoodIn wsL_law (wsL_isBounded_r10) := goodIn_r _ [233, 234, 235, 236, 237, 238, 239, 240, 241, 242, 243, 244, 245, 246, 159, 161, 247, 248, 249, 250, 251, 252, 253, 254] (by decide +kernel) (by decide +kernel)
set_option maxRecDepth 20000 in
theorem ggL_law_L_isBounded_12 : GoodIn wsL_law (wsL_isBounded_r11) := goodIn_r _ [255, 256, 257, 258, 259, 260, 261, 262, 278, 279, 280, 281, 166, 282, 347, 348, 349, 350, 351, 352, 325, 326, 327, 328] (by decide +kernel) (by decide +kernel)
set_option maxRecDepth 20000 in
theorem ggL_law_L_isBounded_13 : GoodIn wsL_law (wsL_isBounded_r12) := goodIn_r _ [329, 330, 331, 332, 333, 334, 353, 354, 355, 356, 357, 339, 358, 359, 360, 361] (by decide +kernel) (by decide +kernel)
set_option maxRecDepth 20000 in
theorem ggL_law_L_isBounded : GoodIn wsL_law wsL_isBounded := goodIn_hd ggL_law_L_isBounded_1 (goodIn_app (goodIn_app (goodIn_app (goodIn_app (goodIn_app (goodIn_app (goodIn_app (goodIn_app ggL_law_L_isBounded_2 (goodIn_app ggL_law_L_isBounded_3 (goodIn_app ggL_law_L_isBounded_4 (goodIn_app ggL_law_L_isBounded_5 (goodIn_app ggL_law_L_isBounded_6 (goodIn_app ggL_law_L_isBounded_7 (goodIn_app ggL_law_L_isBounded_8 (goodIn_app ggL_law_L_isBounded_9 (goodIn_app ggL_law_L_isBounded_10 (goodIn_app ggL_law_L_isBounded_11 (goodIn_app ggL_law_L_isBounded_12 ggL_law_L_isBounded_13))))))))))) gwL_wsX60) gwL_wsX30) gwL_wsX00) gwL_wsX40) gwL_wsX10) gwL_wsX20) gwL_wsX50)

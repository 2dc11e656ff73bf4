set_option maxRecDepth 20000 in
theorem ggL_law_L_isAhead_1 : GoodIn wsL_law ([.code yL_isAhead cL_isAhead 14 (some .boolean)]) := goodIn_r _ [285] (by decide +kernel) (by decide +kernel)
set_option maxRecDepth 20000 in
theorem ggL_law_L_isAhead_2 : GoodIn wsL_law (wsL_isAhead_r1) := goodIn_r _ [9, 10, 11, 14, 15, 16, 17, 18, 19, 20, 21, 22, 23, 24, 25, 26, 27, 28, 29, 30, 31, 32, 33, 34] (by decide +kernel) (by decide +kernel)
set_option maxRecDepth 20000 in
theorem ggL_law_L_isAhead_3 : GoodIn wsL_law (wsL_isAhead_r2) := goodIn_r _ [35, 36, 37, 38, 39, 40, 41, 42, 43, 44, 45, 46, 47, 48, 49, 50, 51, 52, 53, 54, 55, 56, 57, 58] (by decide +kernel) (by decide +kernel)
set_option maxRecDepth 20000 in
theorem ggL_law_L_isAhead_4 : GoodIn wsL_law (wsL_isAhead_r3) := goodIn_r _ [59, 60, 61, 62, 63, 64, 65, 66, 67, 68, 69, 70, 71, 72, 73, 74, 75, 76, 77, 78, 79, 80, 81, 82] (by decide +kernel) (by decide +kernel)
set_option maxRecDepth 20000 in
theorem ggL_law_L_isAhead_5 : GoodIn wsL_law (wsL_isAhead_r4) := goodIn_r _ [83, 84, 85, 86, 87, 88, 89, 90, 91, 92, 93, 94, 95, 96, 97, 98, 99, 100, 101, 102, 103, 104, 105, 106] (by decide +kernel) (by decide +kernel)
set_option maxRecDepth 20000 in
theorem ggL_law_L_isAhead_6 : GoodIn wsL_law (wsL_isAhead_r5) := goodIn_r _ [107, 108, 109, 110, 111, 112, 113, 114, 115, 116, 117, 118, 119, 120, 121, 122, 123, 124, 125, 126, 127, 128, 129, 130] (by decide +kernel) (by decide +kernel)
set_option maxRecDepth 20000 in
theorem ggL_law_L_isAhead_7 : GoodIn wsL_law (wsL_isAhead_r6) := goodIn_r _ [131, 132, 133, 134, 135, 136, 137, 138, 139, 140, 141, 142, 143, 144, 145, 146, 147, 148, 149, 150, 151, 152, 153, 286] (by decide +kernel) (by decide +kernel)
set_option maxRecDepth 20000 in
theorem ggL_law_L_isAhead_8 : GoodIn wsL_law (wsL_isAhead_r7) := goodIn_r _ [287, 288, 289, 290, 268, 269, 270, 271, 272, 273, 274, 275, 276, 277, 176, 177, 178, 179, 180, 181, 160, 182, 183, 184] (by decide +kernel) (by decide +kernel)
set_option maxRecDepth 20000 in
theorem ggL_law_L_isAhead_9 : GoodIn wsL_law (wsL_isAhead_r8) := goodIn_r _ [185, 186, 187, 188, 189, 190, 191, 192, 193, 194, 195, 196, 197, 198, 199, 200, 201, 202, 203, 204, 205, 206, 207, 208] (by decide +kernel) (by decide +kernel)
set_option maxRecDepth 20000 in
theorem ggL_law_L_isAhead_10 : GoodIn wsL_law (wsL_isAhead_r9) := goodIn_r _ [209, 210, 211, 212, 213, 214, 215, 216, 217, 218, 219, 220, 221, 222, 223, 224, 225, 226, 227, 228, 229, 230, 231, 232] (by decide +kernel) (by decide +kernel)
set_option maxRecDepth 20000 in
theorem ggL_law_L_isAhead_11 : GoodIn wsL_law (wsL_isAhead_r10) := goodIn_r _ [233, 234, 235, 236, 237, 238, 239, 240, 241, 242, 243, 244, 245, 246, 159, 161, 247, 248, 249, 250, 251, 252, 253, 254] (by decide +kernel) (by decide +kernel)
set_option maxRecDepth 20000 in
theorem ggL_law_L_isAhead_12 : GoodIn wsL_law (wsL_isAhead_r11) := goodIn_r _ [255, 256, 257, 258, 259, 260, 261, 262, 291, 292, 293, 294, 295, 296, 297, 298, 166, 267, 167, 168, 169, 170, 299, 300] (by decide +kernel) (by decide +kernel)
set_option maxRecDepth 20000 in
theorem ggL_law_L_isAhead_13 : GoodIn wsL_law (wsL_isAhead_r12) := goodIn_r _ [301, 302, 303, 304, 305, 306, 307, 308, 309, 310, 311, 312, 313, 314, 315, 316, 282, 317, 318, 319, 320, 321, 322, 323] (by decide +kernel) (by decide +kernel)
set_option maxRecDepth 20000 in
theorem ggL_law_L_isAhead_14 : GoodIn wsL_law (wsL_isAhead_r13) := goodIn_r _ [324, 325, 326, 327, 328, 329, 330, 331, 332, 333, 334, 335, 336, 337, 338, 339, 278, 279, 280, 281] (by decide +kernel) (by decide +kernel)
set_option maxRecDepth 20000 in
theorem ggL_law_L_isAhead : GoodIn wsL_law wsL_isAhead := goodIn_hd ggL_law_L_isAhead_1 (goodIn_app (goodIn_app (goodIn_app (goodIn_app (goodIn_app (goodIn_app (goodIn_app (goodIn_app ggL_law_L_isAhead_2 (goodIn_app ggL_law_L_isAhead_3 (goodIn_app ggL_law_L_isAhead_4 (goodIn_app ggL_law_L_isAhead_5 (goodIn_app ggL_law_L_isAhead_6 (goodIn_app ggL_law_L_isAhead_7 (goodIn_app ggL_law_L_isAhead_8 (goodIn_app ggL_law_L_isAhead_9 (goodIn_app ggL_law_L_isAhead_10 (goodIn_app ggL_law_L_isAhead_11 (goodIn_app ggL_law_L_isAhead_12 (goodIn_app ggL_law_L_isAhead_13 ggL_law_L_isAhead_14)))))))))))) gwL_wsX60) gwL_wsX30) gwL_wsX00) gwL_wsX40) gwL_wsX10) gwL_wsX20) gwL_wsX50)

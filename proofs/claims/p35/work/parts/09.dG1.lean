set_option maxRecDepth 20000 in
theorem ggL_law_L_isExact_1 : GoodIn wsL_law ([.code yL_isExact cL_isExact 7 (some .boolean)]) := goodIn_r _ [8] (by decide +kernel) (by decide +kernel)
set_option maxRecDepth 20000 in
theorem ggL_law_L_isExact_2 : GoodIn wsL_law (wsL_isExact_r1) := goodIn_r _ [9, 10, 11, 12, 13, 14, 15, 16, 17, 18, 19, 20, 21, 22, 23, 24, 25, 26, 27, 28, 29, 30, 31, 32] (by decide +kernel) (by decide +kernel)
set_option maxRecDepth 20000 in
theorem ggL_law_L_isExact_3 : GoodIn wsL_law (wsL_isExact_r2) := goodIn_r _ [33, 34, 35, 36, 37, 38, 39, 40, 41, 42, 43, 44, 45, 46, 47, 48, 49, 50, 51, 52, 53, 54, 55, 56] (by decide +kernel) (by decide +kernel)
set_option maxRecDepth 20000 in
theorem ggL_law_L_isExact_4 : GoodIn wsL_law (wsL_isExact_r3) := goodIn_r _ [57, 58, 59, 60, 61, 62, 63, 64, 65, 66, 67, 68, 69, 70, 71, 72, 73, 74, 75, 76, 77, 78, 79, 80] (by decide +kernel) (by decide +kernel)
set_option maxRecDepth 20000 in
theorem ggL_law_L_isExact_5 : GoodIn wsL_law (wsL_isExact_r4) := goodIn_r _ [81, 82, 83, 84, 85, 86, 87, 88, 89, 90, 91, 92, 93, 94, 95, 96, 97, 98, 99, 100, 101, 102, 103, 104] (by decide +kernel) (by decide +kernel)
set_option maxRecDepth 20000 in
theorem ggL_law_L_isExact_6 : GoodIn wsL_law (wsL_isExact_r5) := goodIn_r _ [105, 106, 107, 108, 109, 110, 111, 112, 113, 114, 115, 116, 117, 118, 119, 120, 121, 122, 123, 124, 125, 126, 127, 128] (by decide +kernel) (by decide +kernel)
set_option maxRecDepth 20000 in
theorem ggL_law_L_isExact_7 : GoodIn wsL_law (wsL_isExact_r6) := goodIn_r _ [129, 130, 131, 132, 133, 134, 135, 136, 137, 138, 139, 140, 141, 142, 143, 144, 145, 146, 147, 148, 149, 150, 151, 152] (by decide +kernel) (by decide +kernel)
set_option maxRecDepth 20000 in
theorem ggL_law_L_isExact_8 : GoodIn wsL_law (wsL_isExact_r7) := goodIn_r _ [153, 154, 155, 156, 157, 158, 159, 160, 161, 162, 163, 164, 165, 166, 167, 168, 169, 170, 171, 172, 173, 174, 175, 176] (by decide +kernel) (by decide +kernel)
set_option maxRecDepth 20000 in
theorem ggL_law_L_isExact_9 : GoodIn wsL_law (wsL_isExact_r8) := goodIn_r _ [177, 178, 179, 180, 181, 182, 183, 184, 185, 186, 187, 188, 189, 190, 191, 192, 193, 194, 195, 196, 197, 198, 199, 200] (by decide +kernel) (by decide +kernel)
set_option maxRecDepth 20000 in
theorem ggL_law_L_isExact_10 : GoodIn wsL_law (wsL_isExact_r9) := goodIn_r _ [201, 202, 203, 204, 205, 206, 207, 208, 209, 210, 211, 212, 213, 214, 215, 216, 217, 218, 219, 220, 221, 222, 223, 224] (by decide +kernel) (by decide +kernel)
set_option maxRecDepth 20000 in
theorem ggL_law_L_isExact_11 : GoodIn wsL_law (wsL_isExact_r10) := goodIn_r _ [225, 226, 227, 228, 229, 230, 231, 232, 233, 234, 235, 236, 237, 238, 239, 240, 241, 242, 243, 244, 245, 246, 247, 248] (by decide +kernel) (by decide +kernel)
set_option maxRecDepth 20000 in
theorem ggL_law_L_isExact_12 : GoodIn wsL_law (wsL_isExact_r11) := goodIn_r _ [249, 250, 251, 252, 253, 254, 255, 256, 257, 258, 259, 260, 261, 262, 263, 264, 265, 266, 267, 268, 269, 270, 271, 272] (by decide +kernel) (by decide +kernel)
set_option maxRecDepth 20000 in
theorem ggL_law_L_isExact_13 : GoodIn wsL_law (wsL_isExact_r12) := goodIn_r _ [273, 274, 275, 276, 277, 278, 279, 280, 281, 282] (by decide +kernel) (by decide +kernel)
set_option maxRecDepth 20000 in
theorem gwL_wsX60 : GoodIn wsL_law wsX60 := goodIn_r _ [362, 363, 364, 365, 366, 367, 368, 369, 370, 371, 372] (by decide +kernel) (by decide +kernel)
set_option maxRecDepth 20000 in
theorem gwL_wsX30 : GoodIn wsL_law wsX30 := goodIn_r _ [373] (by decide +kernel) (by decide +kernel)
set_option maxRecDepth 20000 in
theorem gwL_wsX00 : GoodIn wsL_law wsX00 := goodIn_r _ [374, 375] (by decide +kernel) (by decide +kernel)
set_option maxRecDepth 20000 in
theorem gwL_wsX40 : GoodIn wsL_law wsX40 := goodIn_r _ [376, 377, 378, 379, 380] (by decide +kernel) (by decide +kernel)
set_option maxRecDepth 20000 in
theorem gwL_wsX10 : GoodIn wsL_law wsX10 := goodIn_r _ [381, 382, 383, 384, 385, 386, 387, 388, 389] (by decide +kernel) (by decide +kernel)
set_option maxRecDepth 20000 in
theorem gwL_wsX20 : GoodIn wsL_law wsX20 := goodIn_r _ [390, 391, 392, 393, 394] (by decide +kernel) (by decide +kernel)
set_option maxRecDepth 20000 in
theorem gwL_wsX50 : GoodIn wsL_law wsX50 := goodIn_r _ [395, 396, 397, 398, 399] (by decide +kernel) (by decide +kernel)
set_option maxRecDepth 20000 in
theorem ggL_law_L_isExact : GoodIn wsL_law wsL_isExact := goodIn_hd ggL_law_L_isExact_1 (goodIn_app (goodIn_app (goodIn_app (goodIn_app (goodIn_app (goodIn_app (goodIn_app (goodIn_app ggL_law_L_isExact_2 (goodIn_app ggL_law_L_isExact_3 (goodIn_app ggL_law_L_isExact_4 (goodIn_app ggL_law_L_isExact_5 (goodIn_app ggL_law_L_isExact_6 (goodIn_app ggL_law_L_isExact_7 (goodIn_app ggL_law_L_isExact_8 (goodIn_app ggL_law_L_isExact_9 (goodIn_app ggL_law_L_isExact_10 (goodIn_app ggL_law_L_isExact_11 (goodIn_app ggL_law_L_isExact_12 ggL_law_L_isExact_13))))))))))) gwL_wsX60) gwL_wsX30) gwL_wsX00) gwL_wsX40) gwL_wsX10) gwL_wsX20) gwL_wsX50)

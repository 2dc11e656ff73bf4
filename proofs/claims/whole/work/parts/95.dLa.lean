set_option maxRecDepth 20000 in
theorem ggL_law_X6_init : GoodIn wsL_law wsX6_init := goodIn_r _ [8, 9, 10, 11, 12, 13, 14, 15, 16, 17, 18, 19, 20, 21, 22, 23, 24, 25, 26, 27, 28, 29, 30, 31, 32, 33, 34, 35, 36, 37, 38, 39, 40, 41, 42, 43, 44, 45, 46, 47, 48, 49, 50, 51, 52, 53, 54, 55, 56, 57, 58, 59, 60, 61, 62, 63, 64, 65, 66, 67, 68, 69, 70, 71, 72, 73, 74, 75, 76, 77, 78, 79, 80, 81, 82, 83, 84, 85, 86, 87, 88, 89, 90, 91, 92, 93, 94, 95, 96, 97, 98, 904, 875, 876, 877, 878, 879, 880, 881, 882, 883, 884, 885, 905, 906, 907, 908, 909, 910, 911, 912, 913, 914, 915, 916, 917, 918, 919, 920, 921, 922, 923, 924, 925, 926, 927, 928, 929, 930] (by decide +kernel) (by decide +kernel)
set_option maxRecDepth 20000 in
theorem gL_law_X6_init : GoodIn wsL_law (wsX6_init) := ggL_law_X6_init
set_option maxRecDepth 20000 in
theorem ggL_law_X7_init : GoodIn wsL_law wsX7_init := goodIn_r _ [101, 102, 10, 11, 103, 104, 105, 106, 39, 107, 108, 109, 110, 111, 112, 113, 114, 115, 116, 117, 118, 119, 120, 121, 122, 5, 123, 124, 125, 126, 127, 128, 129, 130, 131, 886, 887, 888, 889, 890, 891, 892, 893, 894, 895, 896, 897, 898, 899, 900, 901, 902, 903] (by decide +kernel) (by decide +kernel)
set_option maxRecDepth 20000 in
theorem gL_law_X7_init : GoodIn wsL_law (wsX7_init) := ggL_law_X7_init
set_option maxRecDepth 20000 in
theorem ggL_law_X6_setParameter : GoodIn wsL_law wsX6_setParameter := goodIn_r _ [135, 136, 15, 19, 137, 138, 2, 139, 140, 141, 142, 143, 144, 145, 146, 147, 14, 148, 40, 149, 150, 151, 18, 152, 51, 50, 153, 42, 43, 44, 154, 155, 156, 157, 158, 159, 160, 161, 875, 876, 877, 878, 879, 880, 881, 882, 883, 884, 885, 904, 905, 906] (by decide +kernel) (by decide +kernel)
set_option maxRecDepth 20000 in
theorem gL_law_X6_setParameter : GoodIn wsL_law (wsV RL 13 RX6 yX6_setParameter wsX6_setParameter) := goodIn_app (goodIn_of _ (by decide +kernel)) ggL_law_X6_setParameter
set_option maxRecDepth 20000 in
theorem ggL_law_X7_setParameter : GoodIn wsL_law wsX7_setParameter := goodIn_r _ [165, 110, 111, 166, 107, 167, 168, 5, 169, 170, 171, 172, 173, 174, 175, 176, 177, 178, 109, 886, 887, 888, 889, 890, 891, 892, 893, 894, 895, 896, 897, 898, 899, 900, 901, 902, 903] (by decide +kernel) (by decide +kernel)
set_option maxRecDepth 20000 in
theorem gL_law_X7_setParameter : GoodIn wsL_law (wsV RL 17 RX7 yX7_setParameter wsX7_setParameter) := goodIn_app (goodIn_of _ (by decide +kernel)) ggL_law_X7_setParameter
set_option maxRecDepth 20000 in
theorem ggL_law_X6_parameter : GoodIn wsL_law wsX6_parameter := goodIn_r _ [182, 15, 136, 142, 143, 2, 144, 145, 146, 147, 14, 148, 40, 875, 876, 877, 878, 879, 880, 881, 882, 883, 884, 885, 904] (by decide +kernel) (by decide +kernel)
set_option maxRecDepth 20000 in
theorem gL_law_X6_parameter : GoodIn wsL_law (wsV RL 18 RX6 yX6_parameter wsX6_parameter) := goodIn_app (goodIn_of _ (by decide +kernel)) ggL_law_X6_parameter
set_option maxRecDepth 20000 in
theorem ggL_law_X7_parameter : GoodIn wsL_law wsX7_parameter := goodIn_r _ [186, 107, 166, 167, 168, 5, 169, 170, 171, 172, 173, 886, 887, 888, 889, 890, 891, 892, 893, 894, 895, 896, 897, 898, 899, 900, 901, 902, 903] (by decide +kernel) (by decide +kernel)
set_option maxRecDepth 20000 in
theorem gL_law_X7_parameter : GoodIn wsL_law (wsV RL 22 RX7 yX7_parameter wsX7_parameter) := goodIn_app (goodIn_of _ (by decide +kernel)) ggL_law_X7_parameter
set_option maxRecDepth 20000 in
theorem ggL_law_X6_nameAt : GoodIn wsL_law wsX6_nameAt := goodIn_r _ [190, 136, 191, 142, 143, 2, 144, 192, 193, 194, 195, 196, 197, 198, 199, 200, 201, 202, 203, 204, 205, 206, 207, 208, 209, 210, 211, 212, 213, 214, 215, 216, 217, 218, 219, 220, 221, 222, 223, 224, 225, 226, 227, 228, 229, 230, 231, 232, 233, 234, 235, 236, 237, 238, 239, 240, 241, 242, 243] (by decide +kernel) (by decide +kernel)
set_option maxRecDepth 20000 in
theorem gL_law_X6_nameAt : GoodIn wsL_law (wsV RL 23 RX6 yX6_nameAt wsX6_nameAt) := goodIn_app (goodIn_of _ (by decide +kernel)) ggL_law_X6_nameAt
set_option maxRecDepth 20000 in
theorem ggL_law_X7_nameAt : GoodIn wsL_law wsX7_nameAt := goodIn_r _ [247, 166, 112, 248, 167, 168, 5, 169, 170, 171, 172, 173, 249, 250, 251, 252, 886, 887, 888, 889, 890, 891, 892, 893, 894, 895, 896, 897, 898, 899, 900, 901, 902, 903] (by decide +kernel) (by decide +kernel)
set_option maxRecDepth 20000 in
theorem gL_law_X7_nameAt : GoodIn wsL_law (wsV RL 26 RX7 yX7_nameAt wsX7_nameAt) := goodIn_app (goodIn_of _ (by decide +kernel)) ggL_law_X7_nameAt
set_option maxRecDepth 20000 in
theorem ggL_law_X6_undo : GoodIn wsL_law wsX6_undo := goodIn_r _ [256, 19, 257, 258, 15, 259, 260, 261, 18, 262, 51, 50, 153, 42, 43, 44, 875, 876, 877, 878, 879, 880, 881, 882, 883, 884, 885, 905, 906, 904] (by decide +kernel) (by decide +kernel)
set_option maxRecDepth 20000 in
theorem gL_law_X6_undo : GoodIn wsL_law (wsV RL 27 RX6 yX6_undo wsX6_undo) := goodIn_app (goodIn_of _ (by decide +kernel)) ggL_law_X6_undo
set_option maxRecDepth 20000 in
theorem ggL_law_X7_undo : GoodIn wsL_law wsX7_undo := goodIn_r _ [266, 178, 267, 107, 109, 886, 887, 888, 889, 890, 891, 892, 893, 894, 895, 896, 897, 898, 899, 900, 901, 902, 903] (by decide +kernel) (by decide +kernel)
set_option maxRecDepth 20000 in
theorem gL_law_X7_undo : GoodIn wsL_law (wsV RL 31 RX7 yX7_undo wsX7_undo) := goodIn_app (goodIn_of _ (by decide +kernel)) ggL_law_X7_undo
set_option maxRecDepth 20000 in
theorem ggL_law_X6_setSetpoint : GoodIn wsL_law wsX6_setSetpoint := goodIn_r _ [271, 27, 136, 272, 273, 2, 274, 275, 276, 277, 278, 279, 26, 280, 71, 76, 281, 282, 283, 75, 284, 85, 86, 87, 88, 89, 875, 876, 877, 878, 879, 880, 881, 882, 883, 884, 885, 912, 913, 914, 915, 916, 917, 918, 919, 920, 921, 922, 923, 924, 925] (by decide +kernel) (by decide +kernel)
set_option maxRecDepth 20000 in
theorem gL_law_X6_setSetpoint : GoodIn wsL_law (wsV RL 32 RX6 yX6_setSetpoint wsX6_setSetpoint) := goodIn_app (goodIn_of _ (by decide +kernel)) ggL_law_X6_setSetpoint
set_option maxRecDepth 20000 in
theorem ggL_law_X7_setSetpoint : GoodIn wsL_law wsX7_setSetpoint := goodIn_r _ [288, 289, 290, 166, 104, 171, 172, 5, 173, 886, 887, 888, 889, 890, 891, 892, 893, 894, 895, 896, 897, 898, 899, 900, 901, 902, 903] (by decide +kernel) (by decide +kernel)
set_option maxRecDepth 20000 in
theorem gL_law_X7_setSetpoint : GoodIn wsL_law (wsV RL 35 RX7 yX7_setSetpoint wsX7_setSetpoint) := goodIn_app (goodIn_of _ (by decide +kernel)) ggL_law_X7_setSetpoint
set_option maxRecDepth 20000 in
theorem ggL_law_X6_setLoad : GoodIn wsL_law wsX6_setLoad := goodIn_r _ [294, 136, 27, 295, 272, 273, 2, 274, 275, 276, 875, 876, 877, 878, 879, 880, 881, 882, 883, 884, 885, 912, 913, 914, 915, 916, 917, 918, 919, 920] (by decide +kernel) (by decide +kernel)
set_option maxRecDepth 20000 in
theorem gL_law_X6_setLoad : GoodIn wsL_law (wsV RL 36 RX6 yX6_setLoad wsX6_setLoad) := goodIn_app (goodIn_of _ (by decide +kernel)) ggL_law_X6_setLoad
set_option maxRecDepth 20000 in
theorem ggL_law_X7_setLoad : GoodIn wsL_law wsX7_setLoad := goodIn_r _ [299, 289, 290, 166, 104, 171, 172, 5, 173, 886, 887, 888, 889, 890, 891, 892, 893, 894, 895, 896, 897, 898, 899, 900, 901, 902, 903] (by decide +kernel) (by decide +kernel)
set_option maxRecDepth 20000 in
theorem gL_law_X7_setLoad : GoodIn wsL_law (wsV RL 39 RX7 yX7_setLoad wsX7_setLoad) := goodIn_app (goodIn_of _ (by decide +kernel)) ggL_law_X7_setLoad
set_option maxRecDepth 20000 in
theorem ggL_law_X6_setSeed : GoodIn wsL_law wsX6_setSeed := goodIn_r _ [303, 136, 27, 304, 875, 876, 877, 878, 879, 880, 881, 882, 883, 884, 885, 912, 913, 914, 915, 916, 917, 918, 919, 920] (by decide +kernel) (by decide +kernel)
set_option maxRecDepth 20000 in
theorem gL_law_X6_setSeed : GoodIn wsL_law (wsV RL 40 RX6 yX6_setSeed wsX6_setSeed) := goodIn_app (goodIn_of _ (by decide +kernel)) ggL_law_X6_setSeed
set_option maxRecDepth 20000 in
theorem ggL_law_X7_setSeed : GoodIn wsL_law wsX7_setSeed := goodIn_r _ [308, 309, 166, 104, 171, 172, 5, 173, 886, 887, 888, 889, 890, 891, 892, 893, 894, 895, 896, 897, 898, 899, 900, 901, 902, 903] (by decide +kernel) (by decide +kernel)
set_option maxRecDepth 20000 in
theorem gL_law_X7_setSeed : GoodIn wsL_law (wsV RL 43 RX7 yX7_setSeed wsX7_setSeed) := goodIn_app (goodIn_of _ (by decide +kernel)) ggL_law_X7_setSeed
set_option maxRecDepth 20000 in
theorem ggL_law_X6_type : GoodIn wsL_law wsX6_type := goodIn_r _ [313, 136, 23, 314, 315, 316, 317, 318, 22, 319, 60, 57, 875, 876, 877, 878, 879, 880, 881, 882, 883, 884, 885, 907, 908, 909, 910, 911] (by decide +kernel) (by decide +kernel)
set_option maxRecDepth 20000 in
theorem gL_law_X6_type : GoodIn wsL_law (wsV RL 44 RX6 yX6_type wsX6_type) := goodIn_app (goodIn_of _ (by decide +kernel)) ggL_law_X6_type
set_option maxRecDepth 20000 in
theorem ggL_law_X7_type : GoodIn wsL_law wsX7_type := goodIn_r _ [323, 324, 325, 166, 326, 327, 113, 171, 172, 5, 173, 886, 887, 888, 889, 890, 891, 892, 893, 894, 895, 896, 897, 898, 899, 900, 901, 902, 903] (by decide +kernel) (by decide +kernel)
set_option maxRecDepth 20000 in
theorem gL_law_X7_type : GoodIn wsL_law (wsV RL 47 RX7 yX7_type wsX7_type) := goodIn_app (goodIn_of _ (by decide +kernel)) ggL_law_X7_type
set_option maxRecDepth 20000 in
theorem ggL_law_X6_clearText : GoodIn wsL_law wsX6_clearText := goodIn_r _ [331, 23, 314, 875, 876, 877, 878, 879, 880, 881, 882, 883, 884, 885, 907, 908, 909, 910, 911] (by decide +kernel) (by decide +kernel)
set_option maxRecDepth 20000 in
theorem gL_law_X6_clearText : GoodIn wsL_law (wsV RL 48 RX6 yX6_clearText wsX6_clearText) := goodIn_app (goodIn_of _ (by decide +kernel)) ggL_law_X6_clearText
set_option maxRecDepth 20000 in
theorem ggL_law_X7_clearText : GoodIn wsL_law wsX7_clearText := goodIn_r _ [335, 326, 886, 887, 888, 889, 890, 891, 892, 893, 894, 895, 896, 897, 898, 899, 900, 901, 902, 903] (by decide +kernel) (by decide +kernel)
set_option maxRecDepth 20000 in
theorem gL_law_X7_clearText : GoodIn wsL_law (wsV RL 51 RX7 yX7_clearText wsX7_clearText) := goodIn_app (goodIn_of _ (by decide +kernel)) ggL_law_X7_clearText
set_option maxRecDepth 20000 in
theorem ggL_law_X6_fault : GoodIn wsL_law wsX6_fault := goodIn_r _ [339, 23, 191, 340, 341, 342, 22, 343, 61, 60, 344, 345, 346, 347, 348, 349, 350, 351, 193, 2, 194, 352, 353, 354, 355, 356, 196, 197, 198, 199, 200, 201, 202, 203, 204, 205, 206, 357, 358, 359, 360, 57, 361, 208, 209, 210, 211, 212, 213, 214, 215, 216, 217, 218, 219, 220, 221, 222, 223, 224, 225, 226, 227, 228, 229, 230, 231, 232, 233, 234, 235, 236, 237, 238, 239, 240, 241, 242, 243, 362, 363, 364, 365, 366, 367, 368, 369, 58, 59, 138, 139, 140, 141, 142, 143, 144, 875, 876, 877, 878, 879, 880, 881, 882, 883, 884, 885, 907, 908, 909, 910, 911] (by decide +kernel) (by decide +kernel)
set_option maxRecDepth 20000 in
theorem gL_law_X6_fault : GoodIn wsL_law (wsV RL 52 RX6 yX6_fault wsX6_fault) := goodIn_app (goodIn_of _ (by decide +kernel)) ggL_law_X6_fault
set_option maxRecDepth 20000 in
theorem ggL_law_X7_fault : GoodIn wsL_law wsX7_fault := goodIn_r _ [373, 374, 375, 376, 5, 377, 378, 326, 248, 379, 380, 381, 382, 383, 384, 385, 386, 387, 110, 111, 388, 389, 390, 391, 112, 249, 250, 251, 252, 392, 393, 394, 395, 113, 171, 172, 173, 886, 887, 888, 889, 890, 891, 892, 893, 894, 895, 896, 897, 898, 899, 900, 901, 902, 903] (by decide +kernel) (by decide +kernel)
set_option maxRecDepth 20000 in
theorem gL_law_X7_fault : GoodIn wsL_law (wsV RL 55 RX7 yX7_fault wsX7_fault) := goodIn_app (goodIn_of _ (by decide +kernel)) ggL_law_X7_fault
set_option maxRecDepth 20000 in
theorem ggL_law_X6_apply : GoodIn wsL_law wsX6_apply := goodIn_r _ [399, 23, 400, 258, 19, 15, 340, 341, 342, 22, 343, 61, 60, 344, 345, 346, 347, 348, 349, 350, 351, 193, 2, 194, 352, 353, 354, 355, 356, 196, 197, 198, 199, 200, 201, 202, 203, 204, 205, 206, 357, 358, 359, 360, 57, 361, 208, 209, 210, 211, 212, 213, 214, 215, 216, 217, 218, 219, 220, 221, 222, 223, 224, 225, 226, 227, 228, 229, 230, 231, 232, 233, 234, 235, 236, 237, 238, 239, 240, 241, 242, 243, 362, 363, 364, 365, 366, 367, 368, 369, 58, 59, 138, 139, 140, 141, 142, 143, 144, 149, 150, 151, 18, 152, 51, 50, 153, 42, 43, 44, 154, 155, 156, 157, 401, 402, 403, 404, 405, 159, 160, 14, 161, 40, 875, 876, 877, 878, 879, 880, 881, 882, 883, 884, 885, 907, 908, 909, 910, 911, 905, 906, 904] (by decide +kernel) (by decide +kernel)
set_option maxRecDepth 20000 in
theorem gL_law_X6_apply : GoodIn wsL_law (wsV RL 56 RX6 yX6_apply wsX6_apply) := goodIn_app (goodIn_of _ (by decide +kernel)) ggL_law_X6_apply
set_option maxRecDepth 20000 in
theorem ggL_law_X7_apply : GoodIn wsL_law wsX7_apply := goodIn_r _ [409, 326, 248, 267, 378, 107, 383, 384, 374, 375, 376, 5, 377, 379, 380, 381, 382, 385, 386, 387, 110, 111, 388, 389, 390, 391, 112, 249, 250, 251, 252, 392, 393, 394, 395, 113, 171, 172, 173, 174, 175, 176, 177, 178, 109, 886, 887, 888, 889, 890, 891, 892, 893, 894, 895, 896, 897, 898, 899, 900, 901, 902, 903] (by decide +kernel) (by decide +kernel)
set_option maxRecDepth 20000 in
theorem gL_law_X7_apply : GoodIn wsL_law (wsV RL 59 RX7 yX7_apply wsX7_apply) := goodIn_app (goodIn_of _ (by decide +kernel)) ggL_law_X7_apply
set_option maxRecDepth 20000 in
theorem ggL_law_X6_assigned : GoodIn wsL_law wsX6_assigned := goodIn_r _ [413, 23, 258, 340, 341, 342, 22, 343, 61, 60, 344, 345, 346, 347, 348, 349, 350, 351, 193, 2, 194, 352, 353, 354, 355, 356, 196, 197, 198, 199, 200, 201, 202, 203, 204, 205, 206, 357, 358, 359, 360, 57, 361, 208, 209, 210, 211, 212, 213, 214, 215, 216, 217, 218, 219, 220, 221, 222, 223, 224, 225, 226, 227, 228, 229, 230, 231, 232, 233, 234, 235, 236, 237, 238, 239, 240, 241, 242, 243, 362, 363, 364, 365, 366, 367, 368, 369, 58, 59, 138, 139, 140, 141, 142, 143, 144, 414, 415, 416, 417, 418, 419, 420, 421, 875, 876, 877, 878, 879, 880, 881, 882, 883, 884, 885, 907, 908, 909, 910, 911] (by decide +kernel) (by decide +kernel)
set_option maxRecDepth 20000 in
theorem gL_law_X6_assigned : GoodIn wsL_law (wsV RL 60 RX6 yX6_assigned wsX6_assigned) := goodIn_app (goodIn_of _ (by decide +kernel)) ggL_law_X6_assigned
set_option maxRecDepth 20000 in
theorem ggL_law_X7_assigned : GoodIn wsL_law wsX7_assigned := goodIn_r _ [425, 248, 267, 374, 375, 376, 5, 377, 378, 326, 379, 380, 381, 382, 383, 384, 385, 386, 387, 110, 111, 388, 389, 390, 391, 112, 249, 250, 251, 252, 392, 393, 394, 395, 113, 171, 172, 173, 426, 427, 428, 429, 886, 887, 888, 889, 890, 891, 892, 893, 894, 895, 896, 897, 898, 899, 900, 901, 902, 903] (by decide +kernel) (by decide +kernel)
set_option maxRecDepth 20000 in
theorem gL_law_X7_assigned : GoodIn wsL_law (wsV RL 63 RX7 yX7_assigned wsX7_assigned) := goodIn_app (goodIn_of _ (by decide +kernel)) ggL_law_X7_assigned
set_option maxRecDepth 20000 in
theorem ggL_law_X6_assignedAt : GoodIn wsL_law wsX6_assignedAt := goodIn_r _ [433, 136, 23, 258, 191, 340, 341, 342, 22, 343, 61, 60, 344, 345, 346, 347, 348, 349, 350, 351, 193, 2, 194, 352, 353, 354, 355, 356, 196, 197, 198, 199, 200, 201, 202, 203, 204, 205, 206, 357, 358, 359, 360, 57, 361, 208, 209, 210, 211, 212, 213, 214, 215, 216, 217, 218, 219, 220, 221, 222, 223, 224, 225, 226, 227, 228, 229, 230, 231, 232, 233, 234, 235, 236, 237, 238, 239, 240, 241, 242, 243, 362, 363, 364, 365, 366, 367, 368, 369, 58, 59, 138, 139, 140, 141, 142, 143, 144, 434, 435, 436, 437, 418, 419, 420, 421, 875, 876, 877, 878, 879, 880, 881, 882, 883, 884, 885, 907, 908, 909, 910, 911] (by decide +kernel) (by decide +kernel)
set_option maxRecDepth 20000 in
theorem gL_law_X6_assignedAt : GoodIn wsL_law (wsV RL 64 RX6 yX6_assignedAt wsX6_assignedAt) := goodIn_app (goodIn_of _ (by decide +kernel)) ggL_law_X6_assignedAt
set_option maxRecDepth 20000 in
theorem ggL_law_X7_assignedAt : GoodIn wsL_law wsX7_assignedAt := goodIn_r _ [441, 166, 248, 267, 374, 375, 376, 5, 377, 378, 326, 379, 380, 381, 382, 383, 384, 385, 386, 387, 110, 111, 388, 389, 390, 391, 112, 249, 250, 251, 252, 392, 393, 394, 395, 113, 171, 172, 173, 426, 427, 428, 429, 886, 887, 888, 889, 890, 891, 892, 893, 894, 895, 896, 897, 898, 899, 900, 901, 902, 903] (by decide +kernel) (by decide +kernel)
set_option maxRecDepth 20000 in
theorem gL_law_X7_assignedAt : GoodIn wsL_law (wsV RL 67 RX7 yX7_assignedAt wsX7_assignedAt) := goodIn_app (goodIn_of _ (by decide +kernel)) ggL_law_X7_assignedAt
set_option maxRecDepth 20000 in
theorem ggL_law_X6_run : GoodIn wsL_law wsX6_run := goodIn_r _ [445, 136, 276, 27, 446, 315, 447, 448, 449, 2, 450, 15, 451, 452, 453, 26, 454, 71, 455, 456, 457, 458, 76, 80, 66, 459, 146, 147, 14, 148, 40, 143, 144, 460, 461, 462, 463, 464, 465, 68, 466, 467, 468, 469, 470, 471, 472, 473, 474, 475, 476, 72, 477, 478, 479, 480, 481, 482, 483, 484, 485, 486, 487, 488, 489, 490, 491, 492, 493, 494, 495, 496, 69, 70, 497, 498, 499, 500, 501, 502, 503, 504, 505, 506, 507, 508, 509, 510, 511, 512, 513, 514, 515, 516, 517, 518, 519, 75, 520, 85, 521, 86, 87, 89, 522, 523, 524, 88, 525, 526, 527, 79, 528, 98, 94, 529, 530, 531, 532, 95, 96, 97, 533, 534, 535, 536, 537, 538, 539, 540, 67, 875, 876, 877, 878, 879, 880, 881, 882, 883, 884, 885, 912, 913, 914, 915, 916, 917, 918, 919, 920, 904, 921, 922, 923, 924, 925, 926, 927, 928, 929, 930] (by decide +kernel) (by decide +kernel)
set_option maxRecDepth 20000 in
theorem gL_law_X6_run : GoodIn wsL_law (wsV RL 68 RX6 yX6_run wsX6_run) := goodIn_app (goodIn_of _ (by decide +kernel)) ggL_law_X6_run
set_option maxRecDepth 20000 in
theorem ggL_law_X7_run : GoodIn wsL_law wsX7_run := goodIn_r _ [544, 545, 166, 104, 290, 327, 171, 172, 5, 173, 546, 547, 548, 549, 107, 550, 551, 552, 553, 554, 555, 556, 557, 558, 559, 560, 561, 562, 563, 564, 565, 566, 567, 568, 569, 570, 571, 572, 573, 574, 575, 576, 577, 578, 579, 580, 581, 582, 583, 584, 585, 586, 587, 588, 589, 590, 591, 592, 593, 594, 595, 596, 597, 598, 599, 886, 887, 888, 889, 890, 891, 892, 893, 894, 895, 896, 897, 898, 899, 900, 901, 902, 903] (by decide +kernel) (by decide +kernel)
set_option maxRecDepth 20000 in
theorem gL_law_X7_run : GoodIn wsL_law (wsV RL 71 RX7 yX7_run wsX7_run) := goodIn_app (goodIn_of _ (by decide +kernel)) ggL_law_X7_run
set_option maxRecDepth 20000 in
theorem ggL_law_X6_time : GoodIn wsL_law wsX6_time := goodIn_r _ [603, 27, 446, 875, 876, 877, 878, 879, 880, 881, 882, 883, 884, 885, 912, 913, 914, 915, 916, 917, 918, 919, 920] (by decide +kernel) (by decide +kernel)
set_option maxRecDepth 20000 in
theorem gL_law_X6_time : GoodIn wsL_law (wsV RL 72 RX6 yX6_time wsX6_time) := goodIn_app (goodIn_of _ (by decide +kernel)) ggL_law_X6_time
set_option maxRecDepth 20000 in
theorem ggL_law_X7_time : GoodIn wsL_law wsX7_time := goodIn_r _ [607, 104, 886, 887, 888, 889, 890, 891, 892, 893, 894, 895, 896, 897, 898, 899, 900, 901, 902, 903] (by decide +kernel) (by decide +kernel)
set_option maxRecDepth 20000 in
theorem gL_law_X7_time : GoodIn wsL_law (wsV RL 75 RX7 yX7_time wsX7_time) := goodIn_app (goodIn_of _ (by decide +kernel)) ggL_law_X7_time
set_option maxRecDepth 20000 in
theorem ggL_law_X6_value : GoodIn wsL_law wsX6_value := goodIn_r _ [611, 27, 612, 136, 613, 477, 2, 478, 875, 876, 877, 878, 879, 880, 881, 882, 883, 884, 885, 912, 913, 914, 915, 916, 917, 918, 919, 920] (by decide +kernel) (by decide +kernel)
set_option maxRecDepth 20000 in
theorem gL_law_X6_value : GoodIn wsL_law (wsV RL 76 RX6 yX6_value wsX6_value) := goodIn_app (goodIn_of _ (by decide +kernel)) ggL_law_X6_value
set_option maxRecDepth 20000 in
theorem ggL_law_X7_value : GoodIn wsL_law wsX7_value := goodIn_r _ [617, 166, 618, 619, 5, 620, 621, 171, 172, 173, 622, 623, 624, 625, 104, 886, 887, 888, 889, 890, 891, 892, 893, 894, 895, 896, 897, 898, 899, 900, 901, 902, 903] (by decide +kernel) (by decide +kernel)
set_option maxRecDepth 20000 in
theorem gL_law_X7_value : GoodIn wsL_law (wsV RL 79 RX7 yX7_value wsX7_value) := goodIn_app (goodIn_of _ (by decide +kernel)) ggL_law_X7_value
set_option maxRecDepth 20000 in
theorem ggL_law_X6_recorded : GoodIn wsL_law wsX6_recorded := goodIn_r _ [629, 136, 27, 446, 191, 613, 477, 2, 478, 630, 474, 475, 26, 476, 66, 72, 479, 480, 481, 482, 875, 876, 877, 878, 879, 880, 881, 882, 883, 884, 885, 912, 913, 914, 915, 916, 917, 918, 919, 920] (by decide +kernel) (by decide +kernel)
set_option maxRecDepth 20000 in
theorem gL_law_X6_recorded : GoodIn wsL_law (wsV RL 80 RX6 yX6_recorded wsX6_recorded) := goodIn_app (goodIn_of _ (by decide +kernel)) ggL_law_X6_recorded
set_option maxRecDepth 20000 in
theorem ggL_law_X7_recorded : GoodIn wsL_law wsX7_recorded := goodIn_r _ [634, 635, 166, 104, 248, 618, 619, 5, 620, 621, 171, 172, 173, 570, 571, 572, 573, 564, 886, 887, 888, 889, 890, 891, 892, 893, 894, 895, 896, 897, 898, 899, 900, 901, 902, 903] (by decide +kernel) (by decide +kernel)
set_option maxRecDepth 20000 in
theorem gL_law_X7_recorded : GoodIn wsL_law (wsV RL 83 RX7 yX7_recorded wsX7_recorded) := goodIn_app (goodIn_of _ (by decide +kernel)) ggL_law_X7_recorded
set_option maxRecDepth 20000 in
theorem ggL_law_X6_restart : GoodIn wsL_law wsX6_restart := goodIn_r _ [639, 27, 446, 30, 640, 641, 642, 26, 643, 66, 67, 68, 69, 70, 71, 76, 80, 644, 281, 282, 283, 75, 284, 85, 86, 87, 88, 89, 875, 876, 877, 878, 879, 880, 881, 882, 883, 884, 885, 912, 913, 914, 915, 916, 917, 918, 919, 920, 926, 927, 928, 929, 930, 921, 922, 923, 924, 925] (by decide +kernel) (by decide +kernel)
set_option maxRecDepth 20000 in
theorem gL_law_X6_restart : GoodIn wsL_law (wsV RL 84 RX6 yX6_restart wsX6_restart) := goodIn_app (goodIn_of _ (by decide +kernel)) ggL_law_X6_restart
set_option maxRecDepth 20000 in
theorem ggL_law_X7_restart : GoodIn wsL_law wsX7_restart := goodIn_r _ [648, 104, 649, 650, 651, 652, 5, 653, 886, 887, 888, 889, 890, 891, 892, 893, 894, 895, 896, 897, 898, 899, 900, 901, 902, 903] (by decide +kernel) (by decide +kernel)
set_option maxRecDepth 20000 in
theorem gL_law_X7_restart : GoodIn wsL_law (wsV RL 87 RX7 yX7_restart wsX7_restart) := goodIn_app (goodIn_of _ (by decide +kernel)) ggL_law_X7_restart
set_option maxRecDepth 20000 in
theorem ggL_law_X6_watch : GoodIn wsL_law wsX6_watch := goodIn_r _ [657, 136, 27, 658, 659, 315, 613, 477, 2, 478, 660, 661, 662, 79, 663, 98, 94, 97, 664, 665, 666, 667, 875, 876, 877, 878, 879, 880, 881, 882, 883, 884, 885, 912, 913, 914, 915, 916, 917, 918, 919, 920, 926, 927, 928, 929, 930] (by decide +kernel) (by decide +kernel)
set_option maxRecDepth 20000 in
theorem gL_law_X6_watch : GoodIn wsL_law (wsV RL 88 RX6 yX6_watch wsX6_watch) := goodIn_app (goodIn_of _ (by decide +kernel)) ggL_law_X6_watch
set_option maxRecDepth 20000 in
theorem ggL_law_X7_watch : GoodIn wsL_law wsX7_watch := goodIn_r _ [671, 166, 104, 672, 327, 618, 619, 5, 620, 621, 171, 172, 173, 673, 674, 675, 676, 248, 886, 887, 888, 889, 890, 891, 892, 893, 894, 895, 896, 897, 898, 899, 900, 901, 902, 903] (by decide +kernel) (by decide +kernel)
set_option maxRecDepth 20000 in
theorem gL_law_X7_watch : GoodIn wsL_law (wsV RL 91 RX7 yX7_watch wsX7_watch) := goodIn_app (goodIn_of _ (by decide +kernel)) ggL_law_X7_watch
set_option maxRecDepth 20000 in
theorem ggL_law_X6_unwatch : GoodIn wsL_law wsX6_unwatch := goodIn_r _ [680, 136, 27, 658, 659, 191, 613, 477, 2, 478, 681, 682, 683, 79, 684, 98, 94, 95, 96, 97, 664, 665, 666, 667, 875, 876, 877, 878, 879, 880, 881, 882, 883, 884, 885, 912, 913, 914, 915, 916, 917, 918, 919, 920, 926, 927, 928, 929, 930] (by decide +kernel) (by decide +kernel)
set_option maxRecDepth 20000 in
theorem gL_law_X6_unwatch : GoodIn wsL_law (wsV RL 92 RX6 yX6_unwatch wsX6_unwatch) := goodIn_app (goodIn_of _ (by decide +kernel)) ggL_law_X6_unwatch
set_option maxRecDepth 20000 in
theorem ggL_law_X7_unwatch : GoodIn wsL_law wsX7_unwatch := goodIn_r _ [688, 166, 248, 104, 689, 690, 618, 619, 5, 620, 621, 171, 172, 173, 673, 674, 675, 676, 886, 887, 888, 889, 890, 891, 892, 893, 894, 895, 896, 897, 898, 899, 900, 901, 902, 903] (by decide +kernel) (by decide +kernel)
set_option maxRecDepth 20000 in
theorem gL_law_X7_unwatch : GoodIn wsL_law (wsV RL 95 RX7 yX7_unwatch wsX7_unwatch) := goodIn_app (goodIn_of _ (by decide +kernel)) ggL_law_X7_unwatch
set_option maxRecDepth 20000 in
theorem ggL_law_X6_watchedAt : GoodIn wsL_law wsX6_watchedAt := goodIn_r _ [694, 136, 27, 658, 659, 695, 191, 875, 876, 877, 878, 879, 880, 881, 882, 883, 884, 885, 912, 913, 914, 915, 916, 917, 918, 919, 920, 926, 927, 928, 929, 930] (by decide +kernel) (by decide +kernel)
set_option maxRecDepth 20000 in
theorem gL_law_X6_watchedAt : GoodIn wsL_law (wsV RL 96 RX6 yX6_watchedAt wsX6_watchedAt) := goodIn_app (goodIn_of _ (by decide +kernel)) ggL_law_X6_watchedAt
set_option maxRecDepth 20000 in
theorem ggL_law_X7_watchedAt : GoodIn wsL_law wsX7_watchedAt := goodIn_r _ [699, 166, 104, 248, 886, 887, 888, 889, 890, 891, 892, 893, 894, 895, 896, 897, 898, 899, 900, 901, 902, 903] (by decide +kernel) (by decide +kernel)
set_option maxRecDepth 20000 in
theorem gL_law_X7_watchedAt : GoodIn wsL_law (wsV RL 99 RX7 yX7_watchedAt wsX7_watchedAt) := goodIn_app (goodIn_of _ (by decide +kernel)) ggL_law_X7_watchedAt
set_option maxRecDepth 20000 in
theorem ggL_law_X6_extreme : GoodIn wsL_law wsX6_extreme := goodIn_r _ [703, 136, 27, 658, 258, 191, 613, 477, 2, 478, 704, 665, 666, 79, 667, 98, 94, 705, 534, 535, 536, 97, 706, 707, 708, 709, 710, 95, 96, 875, 876, 877, 878, 879, 880, 881, 882, 883, 884, 885, 912, 913, 914, 915, 916, 917, 918, 919, 920, 926, 927, 928, 929, 930] (by decide +kernel) (by decide +kernel)
set_option maxRecDepth 20000 in
theorem gL_law_X6_extreme : GoodIn wsL_law (wsV RL 100 RX6 yX6_extreme wsX6_extreme) := goodIn_app (goodIn_of _ (by decide +kernel)) ggL_law_X6_extreme
set_option maxRecDepth 20000 in
theorem ggL_law_X7_extreme : GoodIn wsL_law wsX7_extreme := goodIn_r _ [714, 559, 166, 267, 104, 248, 618, 619, 5, 620, 621, 171, 172, 173, 673, 674, 675, 676, 886, 887, 888, 889, 890, 891, 892, 893, 894, 895, 896, 897, 898, 899, 900, 901, 902, 903] (by decide +kernel) (by decide +kernel)
set_option maxRecDepth 20000 in
theorem gL_law_X7_extreme : GoodIn wsL_law (wsV RL 103 RX7 yX7_extreme wsX7_extreme) := goodIn_app (goodIn_of _ (by decide +kernel)) ggL_law_X7_extreme
set_option maxRecDepth 20000 in
theorem ggL_law_X6_measure : GoodIn wsL_law wsX6_measure := goodIn_r _ [718, 27, 719, 720, 721, 722, 723, 724, 875, 876, 877, 878, 879, 880, 881, 882, 883, 884, 885, 912, 913, 914, 915, 916, 917, 918, 919, 920, 921, 922, 923, 924, 925] (by decide +kernel) (by decide +kernel)
set_option maxRecDepth 20000 in
theorem gL_law_X6_measure : GoodIn wsL_law (wsV RL 104 RX6 yX6_measure wsX6_measure) := goodIn_app (goodIn_of _ (by decide +kernel)) ggL_law_X6_measure
set_option maxRecDepth 20000 in
theorem ggL_law_X7_measure : GoodIn wsL_law wsX7_measure := goodIn_r _ [728, 729, 104, 730, 171, 172, 5, 173, 886, 887, 888, 889, 890, 891, 892, 893, 894, 895, 896, 897, 898, 899, 900, 901, 902, 903] (by decide +kernel) (by decide +kernel)
set_option maxRecDepth 20000 in
theorem gL_law_X7_measure : GoodIn wsL_law (wsV RL 108 RX7 yX7_measure wsX7_measure) := goodIn_app (goodIn_of _ (by decide +kernel)) ggL_law_X7_measure
set_option maxRecDepth 20000 in
theorem ggL_law_X6_settledTicks : GoodIn wsL_law wsX6_settledTicks := goodIn_r _ [734, 276, 136, 27, 719, 723, 735, 736, 457, 737, 446, 738, 456, 458, 630, 474, 475, 26, 476, 66, 72, 477, 2, 478, 479, 480, 481, 482, 875, 876, 877, 878, 879, 880, 881, 882, 883, 884, 885, 912, 913, 914, 915, 916, 917, 918, 919, 920, 921, 922, 923, 924, 925] (by decide +kernel) (by decide +kernel)
set_option maxRecDepth 20000 in
theorem gL_law_X6_settledTicks : GoodIn wsL_law (wsV RL 109 RX6 yX6_settledTicks wsX6_settledTicks) := goodIn_app (goodIn_of _ (by decide +kernel)) ggL_law_X6_settledTicks
set_option maxRecDepth 20000 in
theorem ggL_law_X7_settledTicks : GoodIn wsL_law wsX7_settledTicks := goodIn_r _ [742, 290, 166, 104, 171, 172, 5, 173, 570, 571, 572, 573, 564, 585, 586, 587, 886, 887, 888, 889, 890, 891, 892, 893, 894, 895, 896, 897, 898, 899, 900, 901, 902, 903] (by decide +kernel) (by decide +kernel)
set_option maxRecDepth 20000 in
theorem gL_law_X7_settledTicks : GoodIn wsL_law (wsV RL 112 RX7 yX7_settledTicks wsX7_settledTicks) := goodIn_app (goodIn_of _ (by decide +kernel)) ggL_law_X7_settledTicks
set_option maxRecDepth 20000 in
theorem ggL_law_X6_store : GoodIn wsL_law wsX6_store := goodIn_r _ [746, 30, 315, 27, 747, 748, 749, 2, 750, 28, 29, 751, 752, 753, 26, 754, 66, 67, 68, 69, 70, 71, 755, 42, 43, 44, 72, 76, 80, 756, 757, 758, 75, 759, 85, 86, 87, 88, 89, 760, 761, 762, 79, 763, 94, 764, 95, 96, 97, 98, 875, 876, 877, 878, 879, 880, 881, 882, 883, 884, 885, 912, 913, 914, 915, 916, 917, 918, 919, 920, 921, 922, 923, 924, 925, 926, 927, 928, 929, 930] (by decide +kernel) (by decide +kernel)
set_option maxRecDepth 20000 in
theorem gL_law_X6_store : GoodIn wsL_law (wsV RL 113 RX6 yX6_store wsX6_store) := goodIn_app (goodIn_of _ (by decide +kernel)) ggL_law_X6_store
set_option maxRecDepth 20000 in
theorem ggL_law_X7_store : GoodIn wsL_law wsX7_store := goodIn_r _ [768, 649, 327, 106, 104, 886, 887, 888, 889, 890, 891, 892, 893, 894, 895, 896, 897, 898, 899, 900, 901, 902, 903] (by decide +kernel) (by decide +kernel)
set_option maxRecDepth 20000 in
theorem gL_law_X7_store : GoodIn wsL_law (wsV RL 116 RX7 yX7_store wsX7_store) := goodIn_app (goodIn_of _ (by decide +kernel)) ggL_law_X7_store
set_option maxRecDepth 20000 in
theorem ggL_law_X6_recall : GoodIn wsL_law wsX6_recall := goodIn_r _ [772, 30, 258, 27, 747, 748, 749, 2, 750, 28, 29, 751, 752, 753, 26, 754, 66, 67, 68, 69, 70, 71, 755, 42, 43, 44, 72, 76, 80, 756, 757, 758, 75, 759, 85, 86, 87, 88, 89, 760, 761, 762, 79, 763, 94, 764, 95, 96, 97, 98, 875, 876, 877, 878, 879, 880, 881, 882, 883, 884, 885, 912, 913, 914, 915, 916, 917, 918, 919, 920, 921, 922, 923, 924, 925, 926, 927, 928, 929, 930] (by decide +kernel) (by decide +kernel)
set_option maxRecDepth 20000 in
theorem gL_law_X6_recall : GoodIn wsL_law (wsV RL 117 RX6 yX6_recall wsX6_recall) := goodIn_app (goodIn_of _ (by decide +kernel)) ggL_law_X6_recall
set_option maxRecDepth 20000 in
theorem ggL_law_X7_recall : GoodIn wsL_law wsX7_recall := goodIn_r _ [776, 649, 267, 104, 106, 886, 887, 888, 889, 890, 891, 892, 893, 894, 895, 896, 897, 898, 899, 900, 901, 902, 903] (by decide +kernel) (by decide +kernel)
set_option maxRecDepth 20000 in
theorem gL_law_X7_recall : GoodIn wsL_law (wsV RL 120 RX7 yX7_recall wsX7_recall) := goodIn_app (goodIn_of _ (by decide +kernel)) ggL_law_X7_recall
set_option maxRecDepth 20000 in
theorem ggL_law_X6_correlation : GoodIn wsL_law wsX6_correlation := goodIn_r _ [780, 724, 781, 782, 783, 2, 784, 27, 15, 785, 786, 787, 26, 788, 66, 789, 523, 457, 524, 473, 474, 475, 476, 72, 477, 478, 479, 480, 481, 482, 145, 146, 147, 14, 148, 40, 143, 144, 875, 876, 877, 878, 879, 880, 881, 882, 883, 884, 885, 912, 913, 914, 915, 916, 917, 918, 919, 920, 904] (by decide +kernel) (by decide +kernel)
set_option maxRecDepth 20000 in
theorem gL_law_X6_correlation : GoodIn wsL_law (wsV RL 121 RX6 yX6_correlation wsX6_correlation) := goodIn_app (goodIn_of _ (by decide +kernel)) ggL_law_X6_correlation
set_option maxRecDepth 20000 in
theorem ggL_law_X7_correlation : GoodIn wsL_law wsX7_correlation := goodIn_r _ [793, 794, 730, 171, 172, 5, 173, 795, 796, 797, 798, 104, 324, 559, 107, 570, 571, 572, 573, 564, 886, 887, 888, 889, 890, 891, 892, 893, 894, 895, 896, 897, 898, 899, 900, 901, 902, 903] (by decide +kernel) (by decide +kernel)
set_option maxRecDepth 20000 in
theorem gL_law_X7_correlation : GoodIn wsL_law (wsV RL 124 RX7 yX7_correlation wsX7_correlation) := goodIn_app (goodIn_of _ (by decide +kernel)) ggL_law_X7_correlation
set_option maxRecDepth 20000 in
theorem ggL_law_X6_estimatedLag : GoodIn wsL_law wsX6_estimatedLag := goodIn_r _ [802, 191, 803, 804, 805, 2, 806, 781, 782, 783, 784, 27, 15, 785, 786, 787, 26, 788, 66, 789, 523, 457, 524, 473, 474, 475, 476, 72, 477, 478, 479, 480, 481, 482, 145, 146, 147, 14, 148, 40, 143, 144, 875, 876, 877, 878, 879, 880, 881, 882, 883, 884, 885, 912, 913, 914, 915, 916, 917, 918, 919, 920, 904] (by decide +kernel) (by decide +kernel)
set_option maxRecDepth 20000 in
theorem gL_law_X6_estimatedLag : GoodIn wsL_law (wsV RL 125 RX6 yX6_estimatedLag wsX6_estimatedLag) := goodIn_app (goodIn_of _ (by decide +kernel)) ggL_law_X6_estimatedLag
set_option maxRecDepth 20000 in
theorem ggL_law_X7_estimatedLag : GoodIn wsL_law wsX7_estimatedLag := goodIn_r _ [810, 811, 812, 813, 5, 814, 248, 795, 796, 797, 798, 104, 324, 559, 107, 570, 571, 572, 573, 564, 886, 887, 888, 889, 890, 891, 892, 893, 894, 895, 896, 897, 898, 899, 900, 901, 902, 903] (by decide +kernel) (by decide +kernel)
set_option maxRecDepth 20000 in
theorem gL_law_X7_estimatedLag : GoodIn wsL_law (wsV RL 128 RX7 yX7_estimatedLag wsX7_estimatedLag) := goodIn_app (goodIn_of _ (by decide +kernel)) ggL_law_X7_estimatedLag
set_option maxRecDepth 20000 in
theorem ggL_law_X6_tuneDelay : GoodIn wsL_law wsX6_tuneDelay := goodIn_r _ [818, 819, 258, 19, 15, 803, 804, 805, 2, 806, 781, 782, 783, 784, 27, 785, 786, 787, 26, 788, 66, 789, 523, 457, 524, 473, 474, 475, 476, 72, 477, 478, 479, 480, 481, 482, 145, 146, 147, 14, 148, 40, 143, 144, 149, 150, 151, 18, 152, 51, 50, 153, 42, 43, 44, 154, 155, 156, 157, 158, 159, 160, 161, 875, 876, 877, 878, 879, 880, 881, 882, 883, 884, 885, 912, 913, 914, 915, 916, 917, 918, 919, 920, 904, 905, 906] (by decide +kernel) (by decide +kernel)
set_option maxRecDepth 20000 in
theorem gL_law_X6_tuneDelay : GoodIn wsL_law (wsV RL 129 RX6 yX6_tuneDelay wsX6_tuneDelay) := goodIn_app (goodIn_of _ (by decide +kernel)) ggL_law_X6_tuneDelay
set_option maxRecDepth 20000 in
theorem ggL_law_X7_tuneDelay : GoodIn wsL_law wsX7_tuneDelay := goodIn_r _ [823, 559, 267, 107, 811, 812, 813, 5, 814, 248, 795, 796, 797, 798, 104, 324, 570, 571, 572, 573, 564, 174, 175, 176, 177, 178, 109, 886, 887, 888, 889, 890, 891, 892, 893, 894, 895, 896, 897, 898, 899, 900, 901, 902, 903] (by decide +kernel) (by decide +kernel)
set_option maxRecDepth 20000 in
theorem gL_law_X7_tuneDelay : GoodIn wsL_law (wsV RL 132 RX7 yX7_tuneDelay wsX7_tuneDelay) := goodIn_app (goodIn_of _ (by decide +kernel)) ggL_law_X7_tuneDelay
set_option maxRecDepth 20000 in
theorem ggL_law_X6_ahead : GoodIn wsL_law wsX6_ahead := goodIn_r _ [827, 136, 33, 27, 612, 613, 477, 2, 478, 751, 752, 753, 26, 754, 66, 67, 68, 69, 70, 71, 755, 42, 43, 44, 72, 76, 80, 756, 757, 758, 75, 759, 85, 86, 87, 88, 89, 760, 761, 762, 79, 763, 94, 764, 95, 96, 97, 98, 447, 448, 449, 450, 15, 451, 452, 453, 454, 455, 456, 457, 458, 459, 146, 147, 14, 148, 40, 143, 144, 460, 461, 462, 463, 464, 465, 466, 467, 468, 469, 470, 471, 472, 473, 474, 475, 476, 479, 480, 481, 482, 483, 484, 485, 486, 487, 488, 489, 490, 491, 492, 493, 494, 495, 496, 497, 498, 499, 500, 501, 502, 503, 504, 505, 506, 507, 508, 509, 510, 511, 512, 513, 514, 515, 516, 517, 518, 519, 520, 521, 522, 523, 524, 525, 526, 527, 528, 529, 530, 531, 532, 533, 534, 535, 536, 537, 538, 539, 540, 875, 876, 877, 878, 879, 880, 881, 882, 883, 884, 885, 912, 913, 914, 915, 916, 917, 918, 919, 920, 921, 922, 923, 924, 925, 926, 927, 928, 929, 930, 904] (by decide +kernel) (by decide +kernel)
set_option maxRecDepth 20000 in
theorem gL_law_X6_ahead : GoodIn wsL_law (wsV RL 133 RX6 yX6_ahead wsX6_ahead) := goodIn_app (goodIn_of _ (by decide +kernel)) ggL_law_X6_ahead
set_option maxRecDepth 20000 in
theorem ggL_law_X7_ahead : GoodIn wsL_law wsX7_ahead := goodIn_r _ [831, 545, 166, 171, 172, 5, 173, 618, 619, 620, 621, 832, 833, 834, 835, 105, 104, 108, 107, 546, 547, 548, 549, 550, 551, 552, 553, 554, 555, 556, 557, 558, 559, 560, 561, 562, 563, 564, 565, 566, 567, 568, 569, 570, 571, 572, 573, 574, 575, 576, 577, 578, 579, 580, 581, 582, 583, 584, 585, 586, 587, 588, 589, 590, 591, 592, 593, 594, 595, 596, 597, 598, 599, 622, 623, 624, 625, 836, 837, 838, 839, 886, 887, 888, 889, 890, 891, 892, 893, 894, 895, 896, 897, 898, 899, 900, 901, 902, 903] (by decide +kernel) (by decide +kernel)
set_option maxRecDepth 20000 in
theorem gL_law_X7_ahead : GoodIn wsL_law (wsV RL 136 RX7 yX7_ahead wsX7_ahead) := goodIn_app (goodIn_of _ (by decide +kernel)) ggL_law_X7_ahead
set_option maxRecDepth 20000 in
theorem ggL_law_X6_bestGain : GoodIn wsL_law wsX6_bestGain := goodIn_r _ [843, 136, 844, 845, 846, 2, 847, 31, 15, 33, 27, 612, 738, 456, 457, 458, 848, 849, 850, 14, 851, 40, 41, 42, 43, 44, 158, 159, 160, 161, 143, 144, 751, 752, 753, 26, 754, 66, 67, 68, 69, 70, 71, 755, 72, 76, 80, 756, 757, 758, 75, 759, 85, 86, 87, 88, 89, 760, 761, 762, 79, 763, 94, 764, 95, 96, 97, 98, 451, 452, 453, 454, 455, 459, 146, 147, 148, 460, 461, 462, 463, 464, 465, 466, 467, 468, 469, 470, 471, 472, 473, 474, 475, 476, 477, 478, 479, 480, 481, 482, 483, 484, 485, 486, 487, 488, 489, 490, 491, 492, 493, 494, 495, 496, 497, 498, 499, 500, 501, 502, 503, 504, 505, 506, 507, 508, 509, 510, 511, 512, 513, 514, 515, 516, 517, 518, 519, 520, 521, 522, 523, 524, 525, 526, 527, 528, 529, 530, 531, 532, 533, 534, 535, 536, 537, 538, 539, 540, 875, 876, 877, 878, 879, 880, 881, 882, 883, 884, 885, 912, 913, 914, 915, 916, 917, 918, 919, 920, 904, 921, 922, 923, 924, 925, 926, 927, 928, 929, 930] (by decide +kernel) (by decide +kernel)
set_option maxRecDepth 20000 in
theorem gL_law_X6_bestGain : GoodIn wsL_law (wsV RL 137 RX6 yX6_bestGain wsX6_bestGain) := goodIn_app (goodIn_of _ (by decide +kernel)) ggL_law_X6_bestGain
set_option maxRecDepth 20000 in
theorem ggL_law_X7_bestGain : GoodIn wsL_law wsX7_bestGain := goodIn_r _ [855, 856, 166, 107, 104, 171, 172, 5, 173, 832, 833, 834, 835, 105, 108, 836, 837, 838, 839, 546, 547, 548, 549, 550, 551, 552, 553, 554, 555, 556, 557, 558, 559, 560, 561, 562, 563, 564, 565, 566, 567, 568, 569, 570, 571, 572, 573, 574, 575, 576, 577, 578, 579, 580, 581, 582, 583, 584, 585, 586, 587, 588, 589, 590, 591, 592, 593, 594, 595, 596, 597, 598, 599, 886, 887, 888, 889, 890, 891, 892, 893, 894, 895, 896, 897, 898, 899, 900, 901, 902, 903] (by decide +kernel) (by decide +kernel)
set_option maxRecDepth 20000 in
theorem gL_law_X7_bestGain : GoodIn wsL_law (wsV RL 140 RX7 yX7_bestGain wsX7_bestGain) := goodIn_app (goodIn_of _ (by decide +kernel)) ggL_law_X7_bestGain
set_option maxRecDepth 20000 in
theorem ggL_law_X6_idealDifference : GoodIn wsL_law wsX6_idealDifference := goodIn_r _ [860, 136, 15, 33, 31, 34, 32, 861, 523, 457, 524, 862, 863, 864, 2, 865, 27, 612, 848, 849, 850, 14, 851, 40, 41, 42, 43, 44, 158, 159, 160, 161, 143, 144, 640, 641, 642, 26, 643, 66, 67, 68, 69, 70, 71, 76, 80, 644, 281, 282, 283, 75, 284, 85, 86, 87, 88, 89, 277, 278, 279, 280, 145, 146, 147, 148, 451, 452, 453, 454, 455, 456, 458, 459, 460, 461, 462, 463, 464, 465, 466, 467, 468, 469, 470, 471, 472, 473, 474, 475, 476, 72, 477, 478, 479, 480, 481, 482, 483, 484, 485, 486, 487, 488, 489, 490, 491, 492, 493, 494, 495, 496, 497, 498, 499, 500, 501, 502, 503, 504, 505, 506, 507, 508, 509, 510, 511, 512, 513, 514, 515, 516, 517, 518, 519, 520, 521, 522, 525, 526, 527, 79, 528, 98, 94, 529, 530, 531, 532, 95, 96, 97, 533, 534, 535, 536, 537, 538, 539, 540, 866, 867, 868, 869, 738, 875, 876, 877, 878, 879, 880, 881, 882, 883, 884, 885, 912, 913, 914, 915, 916, 917, 918, 919, 920, 904, 926, 927, 928, 929, 930, 921, 922, 923, 924, 925] (by decide +kernel) (by decide +kernel)
set_option maxRecDepth 20000 in
theorem gL_law_X6_idealDifference : GoodIn wsL_law (wsV RL 141 RX6 yX6_idealDifference wsX6_idealDifference) := goodIn_app (goodIn_of _ (by decide +kernel)) ggL_law_X6_idealDifference
set_option maxRecDepth 20000 in
theorem ggL_law_X7_idealDifference : GoodIn wsL_law wsX7_idealDifference := goodIn_r _ [873, 874, 166, 107, 104, 114, 550, 171, 172, 5, 173, 832, 833, 834, 835, 105, 108, 650, 651, 652, 653, 546, 547, 548, 549, 551, 552, 553, 554, 555, 556, 557, 558, 559, 560, 561, 562, 563, 564, 565, 566, 567, 568, 569, 570, 571, 572, 573, 574, 575, 576, 577, 578, 579, 580, 581, 582, 583, 584, 585, 586, 587, 588, 589, 590, 591, 592, 593, 594, 595, 596, 597, 598, 599, 836, 837, 838, 839, 886, 887, 888, 889, 890, 891, 892, 893, 894, 895, 896, 897, 898, 899, 900, 901, 902, 903] (by decide +kernel) (by decide +kernel)
set_option maxRecDepth 20000 in
theorem gL_law_X7_idealDifference : GoodIn wsL_law (wsV RL 144 RX7 yX7_idealDifference wsX7_idealDifference) := goodIn_app (goodIn_of _ (by decide +kernel)) ggL_law_X7_idealDifference
theorem dL_law_0 : decode cL_law 0 = .ok (.new 7, 3) := by decide +kernel
theorem dL_law_3 : decode cL_law 3 = .ok (.dup, 1) := by decide +kernel
theorem dL_law_4 : decode cL_law 4 = .ok (.invokespecial 9, 3) := by decide +kernel
theorem dL_law_7 : decode cL_law 7 = .ok (.astore_n 1, 1) := by decide +kernel
theorem dL_law_8 : decode cL_law 8 = .ok (.new 10, 3) := by decide +kernel
theorem dL_law_11 : decode cL_law 11 = .ok (.dup, 1) := by decide +kernel
theorem dL_law_12 : decode cL_law 12 = .ok (.invokespecial 12, 3) := by decide +kernel
theorem dL_law_15 : decode cL_law 15 = .ok (.astore_n 2, 1) := by decide +kernel
theorem dL_law_16 : decode cL_law 16 = .ok (.iconst 0, 1) := by decide +kernel
theorem dL_law_17 : decode cL_law 17 = .ok (.istore_n 3, 1) := by decide +kernel
theorem dL_law_18 : decode cL_law 18 = .ok (.iload_n 3, 1) := by decide +kernel
theorem dL_law_19 : decode cL_law 19 = .ok (.aload_n 0, 1) := by decide +kernel
theorem dL_law_20 : decode cL_law 20 = .ok (.arraylength, 1) := by decide +kernel
theorem dL_law_21 : decode cL_law 21 = .ok (.iconst 3, 1) := by decide +kernel
theorem dL_law_22 : decode cL_law 22 = .ok (.isub, 1) := by decide +kernel
theorem dL_law_23 : decode cL_law 23 = .ok (.if_icmp .gt 837, 3) := by decide +kernel
theorem dL_law_26 : decode cL_law 26 = .ok (.aload_n 0, 1) := by decide +kernel
theorem dL_law_27 : decode cL_law 27 = .ok (.iload_n 3, 1) := by decide +kernel
theorem dL_law_28 : decode cL_law 28 = .ok (.iaload, 1) := by decide +kernel
theorem dL_law_29 : decode cL_law 29 = .ok (.bipush 31, 2) := by decide +kernel
theorem dL_law_31 : decode cL_law 31 = .ok (.iand, 1) := by decide +kernel
theorem dL_law_32 : decode cL_law 32 = .ok (.tableswitch 822 0 31 #[144, 177, 200, 233, 246, 269, 292, 315, 338, 351, 364, 377, 390, 413, 436, 449, 472, 505, 518, 541, 564, 587, 620, 644, 667, 680, 693, 717, 730, 743, 776, 799], 144) := by decide +kernel
theorem dL_law_176 : decode cL_law 176 = .ok (.aload_n 1, 1) := by decide +kernel
theorem dL_law_177 : decode cL_law 177 = .ok (.aload_n 0, 1) := by decide +kernel
theorem dL_law_178 : decode cL_law 178 = .ok (.iload_n 3, 1) := by decide +kernel
theorem dL_law_179 : decode cL_law 179 = .ok (.iconst 1, 1) := by decide +kernel
theorem dL_law_180 : decode cL_law 180 = .ok (.iadd, 1) := by decide +kernel
theorem dL_law_181 : decode cL_law 181 = .ok (.iaload, 1) := by decide +kernel
theorem dL_law_182 : decode cL_law 182 = .ok (.aload_n 0, 1) := by decide +kernel
theorem dL_law_183 : decode cL_law 183 = .ok (.iload_n 3, 1) := by decide +kernel
theorem dL_law_184 : decode cL_law 184 = .ok (.iconst 2, 1) := by decide +kernel
theorem dL_law_185 : decode cL_law 185 = .ok (.iadd, 1) := by decide +kernel
theorem dL_law_186 : decode cL_law 186 = .ok (.iaload, 1) := by decide +kernel
theorem dL_law_187 : decode cL_law 187 = .ok (.invokevirtual 13, 3) := by decide +kernel
theorem dL_law_190 : decode cL_law 190 = .ok (.aload_n 2, 1) := by decide +kernel
theorem dL_law_191 : decode cL_law 191 = .ok (.aload_n 0, 1) := by decide +kernel

set_option maxRecDepth 20000 in
theorem ggL_isAhead_X6_init : GoodIn wsL_isAhead wsX6_init := goodIn_r _ [6, 7, 8, 9, 10, 11, 12, 13, 14, 15, 16, 17, 18, 19, 20, 21, 22, 23, 24, 25, 26, 27, 28, 29, 30, 31, 32, 33, 34, 35, 36, 37, 38, 39, 40, 41, 42, 43, 44, 45, 46, 47, 48, 49, 50, 51, 52, 53, 54, 55, 56, 57, 58, 59, 60, 61, 62, 63, 64, 65, 66, 67, 68, 69, 70, 71, 72, 73, 74, 75, 76, 77, 78, 79, 80, 81, 82, 83, 84, 85, 86, 87, 88, 89, 90, 91, 92, 93, 94, 95, 96, 320, 309, 310, 311, 312, 313, 314, 315, 316, 317, 318, 319, 321, 322, 323, 324, 325, 326, 327, 328, 329, 330, 331, 332, 333, 334, 335, 336, 337, 338, 339, 340, 341, 342, 343, 344, 345, 346] (by decide +kernel) (by decide +kernel)
set_option maxRecDepth 20000 in
theorem gL_isAhead_X6_init : GoodIn wsL_isAhead (wsX6_init) := ggL_isAhead_X6_init
set_option maxRecDepth 20000 in
theorem ggL_isAhead_X6_setParameter : GoodIn wsL_isAhead wsX6_setParameter := goodIn_r _ [100, 101, 13, 17, 102, 103, 3, 104, 105, 106, 107, 108, 109, 110, 111, 112, 12, 113, 38, 114, 115, 116, 16, 117, 49, 48, 118, 40, 41, 42, 119, 120, 121, 122, 123, 124, 125, 126, 309, 310, 311, 312, 313, 314, 315, 316, 317, 318, 319, 320, 321, 322] (by decide +kernel) (by decide +kernel)
set_option maxRecDepth 20000 in
theorem gL_isAhead_X6_setParameter : GoodIn wsL_isAhead (wsV RL 12 RX6 yX6_setParameter wsX6_setParameter) := goodIn_app (goodIn_of _ (by decide +kernel)) ggL_isAhead_X6_setParameter
set_option maxRecDepth 20000 in
theorem ggL_isAhead_X6_setSetpoint : GoodIn wsL_isAhead wsX6_setSetpoint := goodIn_r _ [130, 25, 101, 131, 132, 3, 133, 134, 135, 136, 137, 138, 24, 139, 69, 74, 140, 141, 142, 73, 143, 83, 84, 85, 86, 87, 309, 310, 311, 312, 313, 314, 315, 316, 317, 318, 319, 328, 329, 330, 331, 332, 333, 334, 335, 336, 337, 338, 339, 340, 341] (by decide +kernel) (by decide +kernel)
set_option maxRecDepth 20000 in
theorem gL_isAhead_X6_setSetpoint : GoodIn wsL_isAhead (wsV RL 17 RX6 yX6_setSetpoint wsX6_setSetpoint) := goodIn_app (goodIn_of _ (by decide +kernel)) ggL_isAhead_X6_setSetpoint
set_option maxRecDepth 20000 in
theorem ggL_isAhead_X6_setLoad : GoodIn wsL_isAhead wsX6_setLoad := goodIn_r _ [147, 101, 25, 148, 131, 132, 3, 133, 134, 135, 309, 310, 311, 312, 313, 314, 315, 316, 317, 318, 319, 328, 329, 330, 331, 332, 333, 334, 335, 336] (by decide +kernel) (by decide +kernel)
set_option maxRecDepth 20000 in
theorem gL_isAhead_X6_setLoad : GoodIn wsL_isAhead (wsV RL 31 RX6 yX6_setLoad wsX6_setLoad) := goodIn_app (goodIn_of _ (by decide +kernel)) ggL_isAhead_X6_setLoad
set_option maxRecDepth 20000 in
theorem ggL_isAhead_X6_run : GoodIn wsL_isAhead wsX6_run := goodIn_r _ [152, 101, 135, 25, 153, 154, 155, 156, 157, 3, 158, 13, 159, 160, 161, 24, 162, 69, 163, 164, 165, 166, 74, 78, 64, 167, 111, 112, 12, 113, 38, 108, 109, 168, 169, 170, 171, 172, 173, 66, 174, 175, 176, 177, 178, 179, 180, 181, 182, 183, 184, 70, 185, 186, 187, 188, 189, 190, 191, 192, 193, 194, 195, 196, 197, 198, 199, 200, 201, 202, 203, 204, 67, 68, 205, 206, 207, 208, 209, 210, 211, 212, 213, 214, 215, 216, 217, 218, 219, 220, 221, 222, 223, 224, 225, 226, 227, 73, 228, 83, 229, 84, 85, 87, 230, 231, 232, 86, 233, 234, 235, 77, 236, 96, 92, 237, 238, 239, 240, 93, 94, 95, 241, 242, 243, 244, 245, 246, 247, 248, 65, 309, 310, 311, 312, 313, 314, 315, 316, 317, 318, 319, 328, 329, 330, 331, 332, 333, 334, 335, 336, 320, 337, 338, 339, 340, 341, 342, 343, 344, 345, 346] (by decide +kernel) (by decide +kernel)
set_option maxRecDepth 20000 in
theorem gL_isAhead_X6_run : GoodIn wsL_isAhead (wsV RL 24 RX6 yX6_run wsX6_run) := goodIn_app (goodIn_of _ (by decide +kernel)) ggL_isAhead_X6_run
set_option maxRecDepth 20000 in
theorem ggL_isAhead_X6_bestGain : GoodIn wsL_isAhead wsX6_bestGain := goodIn_r _ [252, 101, 253, 254, 255, 3, 256, 29, 13, 31, 25, 257, 258, 164, 165, 166, 259, 260, 261, 12, 262, 38, 39, 40, 41, 42, 123, 124, 125, 126, 108, 109, 263, 264, 265, 24, 266, 64, 65, 66, 67, 68, 69, 267, 70, 74, 78, 268, 269, 270, 73, 271, 83, 84, 85, 86, 87, 272, 273, 274, 77, 275, 92, 276, 93, 94, 95, 96, 159, 160, 161, 162, 163, 167, 111, 112, 113, 168, 169, 170, 171, 172, 173, 174, 175, 176, 177, 178, 179, 180, 181, 182, 183, 184, 185, 186, 187, 188, 189, 190, 191, 192, 193, 194, 195, 196, 197, 198, 199, 200, 201, 202, 203, 204, 205, 206, 207, 208, 209, 210, 211, 212, 213, 214, 215, 216, 217, 218, 219, 220, 221, 222, 223, 224, 225, 226, 227, 228, 229, 230, 231, 232, 233, 234, 235, 236, 237, 238, 239, 240, 241, 242, 243, 244, 245, 246, 247, 248, 309, 310, 311, 312, 313, 314, 315, 316, 317, 318, 319, 328, 329, 330, 331, 332, 333, 334, 335, 336, 320, 337, 338, 339, 340, 341, 342, 343, 344, 345, 346] (by decide +kernel) (by decide +kernel)
set_option maxRecDepth 20000 in
theorem gL_isAhead_X6_bestGain : GoodIn wsL_isAhead (wsV RL 34 RX6 yX6_bestGain wsX6_bestGain) := goodIn_app (goodIn_of _ (by decide +kernel)) ggL_isAhead_X6_bestGain
set_option maxRecDepth 20000 in
theorem ggL_isAhead_X6_ahead : GoodIn wsL_isAhead wsX6_ahead := goodIn_r _ [280, 101, 31, 25, 257, 281, 185, 3, 186, 263, 264, 265, 24, 266, 64, 65, 66, 67, 68, 69, 267, 40, 41, 42, 70, 74, 78, 268, 269, 270, 73, 271, 83, 84, 85, 86, 87, 272, 273, 274, 77, 275, 92, 276, 93, 94, 95, 96, 155, 156, 157, 158, 13, 159, 160, 161, 162, 163, 164, 165, 166, 167, 111, 112, 12, 113, 38, 108, 109, 168, 169, 170, 171, 172, 173, 174, 175, 176, 177, 178, 179, 180, 181, 182, 183, 184, 187, 188, 189, 190, 191, 192, 193, 194, 195, 196, 197, 198, 199, 200, 201, 202, 203, 204, 205, 206, 207, 208, 209, 210, 211, 212, 213, 214, 215, 216, 217, 218, 219, 220, 221, 222, 223, 224, 225, 226, 227, 228, 229, 230, 231, 232, 233, 234, 235, 236, 237, 238, 239, 240, 241, 242, 243, 244, 245, 246, 247, 248, 309, 310, 311, 312, 313, 314, 315, 316, 317, 318, 319, 328, 329, 330, 331, 332, 333, 334, 335, 336, 337, 338, 339, 340, 341, 342, 343, 344, 345, 346, 320] (by decide +kernel) (by decide +kernel)
set_option maxRecDepth 20000 in
theorem gL_isAhead_X6_ahead : GoodIn wsL_isAhead (wsV RL 37 RX6 yX6_ahead wsX6_ahead) := goodIn_app (goodIn_of _ (by decide +kernel)) ggL_isAhead_X6_ahead
set_option maxRecDepth 20000 in
theorem ggL_isAhead_X6_store : GoodIn wsL_isAhead wsX6_store := goodIn_r _ [285, 28, 154, 25, 286, 287, 288, 3, 289, 26, 27, 263, 264, 265, 24, 266, 64, 65, 66, 67, 68, 69, 267, 40, 41, 42, 70, 74, 78, 268, 269, 270, 73, 271, 83, 84, 85, 86, 87, 272, 273, 274, 77, 275, 92, 276, 93, 94, 95, 96, 309, 310, 311, 312, 313, 314, 315, 316, 317, 318, 319, 328, 329, 330, 331, 332, 333, 334, 335, 336, 337, 338, 339, 340, 341, 342, 343, 344, 345, 346] (by decide +kernel) (by decide +kernel)
set_option maxRecDepth 20000 in
theorem gL_isAhead_X6_store : GoodIn wsL_isAhead (wsV RL 40 RX6 yX6_store wsX6_store) := goodIn_app (goodIn_of _ (by decide +kernel)) ggL_isAhead_X6_store
set_option maxRecDepth 20000 in
theorem ggL_isAhead_X6_measure : GoodIn wsL_isAhead wsX6_measure := goodIn_r _ [293, 25, 294, 295, 296, 297, 298, 299, 309, 310, 311, 312, 313, 314, 315, 316, 317, 318, 319, 328, 329, 330, 331, 332, 333, 334, 335, 336, 337, 338, 339, 340, 341] (by decide +kernel) (by decide +kernel)
set_option maxRecDepth 20000 in
theorem gL_isAhead_X6_measure : GoodIn wsL_isAhead (wsV RL 44 RX6 yX6_measure wsX6_measure) := goodIn_app (goodIn_of _ (by decide +kernel)) ggL_isAhead_X6_measure
set_option maxRecDepth 20000 in
theorem ggL_isAhead_X6_recall : GoodIn wsL_isAhead wsX6_recall := goodIn_r _ [303, 28, 304, 25, 286, 287, 288, 3, 289, 26, 27, 263, 264, 265, 24, 266, 64, 65, 66, 67, 68, 69, 267, 40, 41, 42, 70, 74, 78, 268, 269, 270, 73, 271, 83, 84, 85, 86, 87, 272, 273, 274, 77, 275, 92, 276, 93, 94, 95, 96, 309, 310, 311, 312, 313, 314, 315, 316, 317, 318, 319, 328, 329, 330, 331, 332, 333, 334, 335, 336, 337, 338, 339, 340, 341, 342, 343, 344, 345, 346] (by decide +kernel) (by decide +kernel)
set_option maxRecDepth 20000 in
theorem gL_isAhead_X6_recall : GoodIn wsL_isAhead (wsV RL 48 RX6 yX6_recall wsX6_recall) := goodIn_app (goodIn_of _ (by decide +kernel)) ggL_isAhead_X6_recall
set_option maxRecDepth 20000 in
theorem ggL_isAhead_X6_value : GoodIn wsL_isAhead wsX6_value := goodIn_r _ [308, 25, 257, 101, 281, 185, 3, 186, 309, 310, 311, 312, 313, 314, 315, 316, 317, 318, 319, 328, 329, 330, 331, 332, 333, 334, 335, 336] (by decide +kernel) (by decide +kernel)
set_option maxRecDepth 20000 in
theorem gL_isAhead_X6_value : GoodIn wsL_isAhead (wsV RL 27 RX6 yX6_value wsX6_value) := goodIn_app (goodIn_of _ (by decide +kernel)) ggL_isAhead_X6_value
theorem dL_isAhead_0 : decode cL_isAhead 0 = .ok (.new 9, 3) := by decide +kernel
theorem dL_isAhead_3 : decode cL_isAhead 3 = .ok (.dup, 1) := by decide +kernel
theorem dL_isAhead_4 : decode cL_isAhead 4 = .ok (.invokespecial 11, 3) := by decide +kernel
theorem dL_isAhead_7 : decode cL_isAhead 7 = .ok (.astore_n 1, 1) := by decide +kernel
theorem dL_isAhead_8 : decode cL_isAhead 8 = .ok (.aload_n 1, 1) := by decide +kernel
theorem dL_isAhead_9 : decode cL_isAhead 9 = .ok (.bipush 14, 2) := by decide +kernel
theorem dL_isAhead_11 : decode cL_isAhead 11 = .ok (.iload_n 0, 1) := by decide +kernel
theorem dL_isAhead_12 : decode cL_isAhead 12 = .ok (.bipush 90, 2) := by decide +kernel
theorem dL_isAhead_14 : decode cL_isAhead 14 = .ok (.irem, 1) := by decide +kernel
theorem dL_isAhead_15 : decode cL_isAhead 15 = .ok (.invokevirtual 12, 3) := by decide +kernel
theorem dL_isAhead_18 : decode cL_isAhead 18 = .ok (.ifCond .ne 67, 3) := by decide +kernel
theorem dL_isAhead_21 : decode cL_isAhead 21 = .ok (.aload_n 1, 1) := by decide +kernel
theorem dL_isAhead_22 : decode cL_isAhead 22 = .ok (.bipush 7, 2) := by decide +kernel
theorem dL_isAhead_24 : decode cL_isAhead 24 = .ok (.iload_n 0, 1) := by decide +kernel
theorem dL_isAhead_25 : decode cL_isAhead 25 = .ok (.iconst 3, 1) := by decide +kernel
theorem dL_isAhead_26 : decode cL_isAhead 26 = .ok (.ishr, 1) := by decide +kernel
theorem dL_isAhead_27 : decode cL_isAhead 27 = .ok (.sipush 300, 3) := by decide +kernel
theorem dL_isAhead_30 : decode cL_isAhead 30 = .ok (.irem, 1) := by decide +kernel
theorem dL_isAhead_31 : decode cL_isAhead 31 = .ok (.invokevirtual 12, 3) := by decide +kernel
theorem dL_isAhead_34 : decode cL_isAhead 34 = .ok (.bipush 50, 2) := by decide +kernel
theorem dL_isAhead_36 : decode cL_isAhead 36 = .ok (.if_icmp .ne 49, 3) := by decide +kernel
theorem dL_isAhead_39 : decode cL_isAhead 39 = .ok (.aload_n 1, 1) := by decide +kernel
theorem dL_isAhead_40 : decode cL_isAhead 40 = .ok (.iload_n 0, 1) := by decide +kernel
theorem dL_isAhead_41 : decode cL_isAhead 41 = .ok (.iconst 5, 1) := by decide +kernel
theorem dL_isAhead_42 : decode cL_isAhead 42 = .ok (.ishr, 1) := by decide +kernel
theorem dL_isAhead_43 : decode cL_isAhead 43 = .ok (.sipush 9000, 3) := by decide +kernel
theorem dL_isAhead_46 : decode cL_isAhead 46 = .ok (.irem, 1) := by decide +kernel
theorem dL_isAhead_47 : decode cL_isAhead 47 = .ok (.invokevirtual 17, 3) := by decide +kernel
theorem dL_isAhead_50 : decode cL_isAhead 50 = .ok (.ifCond .ne 35, 3) := by decide +kernel
theorem dL_isAhead_53 : decode cL_isAhead 53 = .ok (.aload_n 1, 1) := by decide +kernel
theorem dL_isAhead_54 : decode cL_isAhead 54 = .ok (.iload_n 0, 1) := by decide +kernel
theorem dL_isAhead_55 : decode cL_isAhead 55 = .ok (.bipush 7, 2) := by decide +kernel
theorem dL_isAhead_57 : decode cL_isAhead 57 = .ok (.ishr, 1) := by decide +kernel
theorem dL_isAhead_58 : decode cL_isAhead 58 = .ok (.sipush 700, 3) := by decide +kernel
theorem dL_isAhead_61 : decode cL_isAhead 61 = .ok (.irem, 1) := by decide +kernel
theorem dL_isAhead_62 : decode cL_isAhead 62 = .ok (.invokevirtual 31, 3) := by decide +kernel
theorem dL_isAhead_65 : decode cL_isAhead 65 = .ok (.ifCond .ne 20, 3) := by decide +kernel
theorem dL_isAhead_68 : decode cL_isAhead 68 = .ok (.aload_n 1, 1) := by decide +kernel
theorem dL_isAhead_69 : decode cL_isAhead 69 = .ok (.iconst 1, 1) := by decide +kernel
theorem dL_isAhead_70 : decode cL_isAhead 70 = .ok (.iload_n 0, 1) := by decide +kernel
theorem dL_isAhead_71 : decode cL_isAhead 71 = .ok (.bipush 40, 2) := by decide +kernel
theorem dL_isAhead_73 : decode cL_isAhead 73 = .ok (.irem, 1) := by decide +kernel
theorem dL_isAhead_74 : decode cL_isAhead 74 = .ok (.iadd, 1) := by decide +kernel
theorem dL_isAhead_75 : decode cL_isAhead 75 = .ok (.invokevirtual 24, 3) := by decide +kernel
theorem dL_isAhead_78 : decode cL_isAhead 78 = .ok (.ifCond .le 7, 3) := by decide +kernel
theorem dL_isAhead_81 : decode cL_isAhead 81 = .ok (.iconst 1, 1) := by decide +kernel
theorem dL_isAhead_82 : decode cL_isAhead 82 = .ok (.goto 4, 3) := by decide +kernel
theorem dL_isAhead_85 : decode cL_isAhead 85 = .ok (.iconst 0, 1) := by decide +kernel
theorem dL_isAhead_86 : decode cL_isAhead 86 = .ok (.istore_n 2, 1) := by decide +kernel
theorem dL_isAhead_87 : decode cL_isAhead 87 = .ok (.iconst 1, 1) := by decide +kernel
theorem dL_isAhead_88 : decode cL_isAhead 88 = .ok (.iload_n 0, 1) := by decide +kernel
theorem dL_isAhead_89 : decode cL_isAhead 89 = .ok (.iconst 4, 1) := by decide +kernel
theorem dL_isAhead_90 : decode cL_isAhead 90 = .ok (.ishr, 1) := by decide +kernel
theorem dL_isAhead_91 : decode cL_isAhead 91 = .ok (.bipush 30, 2) := by decide +kernel
theorem dL_isAhead_93 : decode cL_isAhead 93 = .ok (.irem, 1) := by decide +kernel
theorem dL_isAhead_94 : decode cL_isAhead 94 = .ok (.iadd, 1) := by decide +kernel
theorem dL_isAhead_95 : decode cL_isAhead 95 = .ok (.istore_n 3, 1) := by decide +kernel
theorem dL_isAhead_96 : decode cL_isAhead 96 = .ok (.aload_n 1, 1) := by decide +kernel
theorem dL_isAhead_97 : decode cL_isAhead 97 = .ok (.iload_n 3, 1) := by decide +kernel
theorem dL_isAhead_98 : decode cL_isAhead 98 = .ok (.invokevirtual 34, 3) := by decide +kernel
theorem dL_isAhead_101 : decode cL_isAhead 101 = .ok (.istore 4, 2) := by decide +kernel
theorem dL_isAhead_103 : decode cL_isAhead 103 = .ok (.iconst 1, 1) := by decide +kernel
theorem dL_isAhead_104 : decode cL_isAhead 104 = .ok (.iload_n 0, 1) := by decide +kernel
theorem dL_isAhead_105 : decode cL_isAhead 105 = .ok (.iconst 2, 1) := by decide +kernel
theorem dL_isAhead_106 : decode cL_isAhead 106 = .ok (.ishr, 1) := by decide +kernel
theorem dL_isAhead_107 : decode cL_isAhead 107 = .ok (.bipush 9, 2) := by decide +kernel
theorem dL_isAhead_109 : decode cL_isAhead 109 = .ok (.irem, 1) := by decide +kernel
theorem dL_isAhead_110 : decode cL_isAhead 110 = .ok (.iadd, 1) := by decide +kernel
theorem dL_isAhead_111 : decode cL_isAhead 111 = .ok (.istore 5, 2) := by decide +kernel
theorem dL_isAhead_113 : decode cL_isAhead 113 = .ok (.aload_n 1, 1) := by decide +kernel
theorem dL_isAhead_114 : decode cL_isAhead 114 = .ok (.iload_n 3, 1) := by decide +kernel
theorem dL_isAhead_115 : decode cL_isAhead 115 = .ok (.iload 5, 2) := by decide +kernel
theorem dL_isAhead_117 : decode cL_isAhead 117 = .ok (.invokevirtual 37, 3) := by decide +kernel
theorem dL_isAhead_120 : decode cL_isAhead 120 = .ok (.istore 6, 2) := by decide +kernel
theorem dL_isAhead_122 : decode cL_isAhead 122 = .ok (.iload_n 2, 1) := by decide +kernel
theorem dL_isAhead_123 : decode cL_isAhead 123 = .ok (.ifCond .eq 50, 3) := by decide +kernel
theorem dL_isAhead_126 : decode cL_isAhead 126 = .ok (.iload 4, 2) := by decide +kernel
theorem dL_isAhead_128 : decode cL_isAhead 128 = .ok (.sipush 250, 3) := by decide +kernel
theorem dL_isAhead_131 : decode cL_isAhead 131 = .ok (.irem, 1) := by decide +kernel
theorem dL_isAhead_132 : decode cL_isAhead 132 = .ok (.ifCond .ne 41, 3) := by decide +kernel
theorem dL_isAhead_135 : decode cL_isAhead 135 = .ok (.iload 4, 2) := by decide +kernel
theorem dL_isAhead_137 : decode cL_isAhead 137 = .ok (.ifCond .lt 36, 3) := by decide +kernel
theorem dL_isAhead_140 : decode cL_isAhead 140 = .ok (.iload 4, 2) := by decide +kernel
theorem dL_isAhead_142 : decode cL_isAhead 142 = .ok (.sipush 5000, 3) := by decide +kernel
theorem dL_isAhead_145 : decode cL_isAhead 145 = .ok (.if_icmp .gt 28, 3) := by decide +kernel
theorem dL_isAhead_148 : decode cL_isAhead 148 = .ok (.aload_n 1, 1) := by decide +kernel
theorem dL_isAhead_149 : decode cL_isAhead 149 = .ok (.invokevirtual 40, 3) := by decide +kernel
theorem dL_isAhead_152 : decode cL_isAhead 152 = .ok (.iconst 1, 1) := by decide +kernel
theorem dL_isAhead_153 : decode cL_isAhead 153 = .ok (.if_icmp .ne 20, 3) := by decide +kernel
theorem dL_isAhead_156 : decode cL_isAhead 156 = .ok (.aload_n 1, 1) := by decide +kernel
theorem dL_isAhead_157 : decode cL_isAhead 157 = .ok (.iconst 0, 1) := by decide +kernel
theorem dL_isAhead_158 : decode cL_isAhead 158 = .ok (.iload 4, 2) := by decide +kernel
theorem dL_isAhead_160 : decode cL_isAhead 160 = .ok (.invokevirtual 12, 3) := by decide +kernel
theorem dL_isAhead_163 : decode cL_isAhead 163 = .ok (.sipush 1000, 3) := by decide +kernel
theorem dL_isAhead_166 : decode cL_isAhead 166 = .ok (.if_icmp .ne 7, 3) := by decide +kernel
theorem dL_isAhead_169 : decode cL_isAhead 169 = .ok (.iconst 1, 1) := by decide +kernel
theorem dL_isAhead_170 : decode cL_isAhead 170 = .ok (.goto 4, 3) := by decide +kernel
theorem dL_isAhead_173 : decode cL_isAhead 173 = .ok (.iconst 0, 1) := by decide +kernel
theorem dL_isAhead_174 : decode cL_isAhead 174 = .ok (.istore_n 2, 1) := by decide +kernel
theorem dL_isAhead_175 : decode cL_isAhead 175 = .ok (.aload_n 1, 1) := by decide +kernel
theorem dL_isAhead_176 : decode cL_isAhead 176 = .ok (.iconst 0, 1) := by decide +kernel
theorem dL_isAhead_177 : decode cL_isAhead 177 = .ok (.invokevirtual 44, 3) := by decide +kernel
theorem dL_isAhead_180 : decode cL_isAhead 180 = .ok (.lstore 7, 2) := by decide +kernel
theorem dL_isAhead_182 : decode cL_isAhead 182 = .ok (.iload_n 2, 1) := by decide +kernel
theorem dL_isAhead_183 : decode cL_isAhead 183 = .ok (.ifCond .eq 15, 3) := by decide +kernel
theorem dL_isAhead_186 : decode cL_isAhead 186 = .ok (.aload_n 1, 1) := by decide +kernel
theorem dL_isAhead_187 : decode cL_isAhead 187 = .ok (.iload_n 3, 1) := by decide +kernel
theorem dL_isAhead_188 : decode cL_isAhead 188 = .ok (.invokevirtual 24, 3) := by decide +kernel
theorem dL_isAhead_191 : decode cL_isAhead 191 = .ok (.ifCond .le 7, 3) := by decide +kernel
theorem dL_isAhead_194 : decode cL_isAhead 194 = .ok (.iconst 1, 1) := by decide +kernel
theorem dL_isAhead_195 : decode cL_isAhead 195 = .ok (.goto 4, 3) := by decide +kernel
theorem dL_isAhead_198 : decode cL_isAhead 198 = .ok (.iconst 0, 1) := by decide +kernel
theorem dL_isAhead_199 : decode cL_isAhead 199 = .ok (.istore_n 2, 1) := by decide +kernel
theorem dL_isAhead_200 : decode cL_isAhead 200 = .ok (.aload_n 1, 1) := by decide +kernel
theorem dL_isAhead_201 : decode cL_isAhead 201 = .ok (.iconst 0, 1) := by decide +kernel
theorem dL_isAhead_202 : decode cL_isAhead 202 = .ok (.invokevirtual 44, 3) := by decide +kernel
theorem dL_isAhead_205 : decode cL_isAhead 205 = .ok (.lload 7, 2) := by decide +kernel
theorem dL_isAhead_207 : decode cL_isAhead 207 = .ok (.lsub, 1) := by decide +kernel
theorem dL_isAhead_208 : decode cL_isAhead 208 = .ok (.lstore 9, 2) := by decide +kernel
theorem dL_isAhead_210 : decode cL_isAhead 210 = .ok (.iconst 0, 1) := by decide +kernel
theorem dL_isAhead_211 : decode cL_isAhead 211 = .ok (.istore 11, 2) := by decide +kernel
theorem dL_isAhead_213 : decode cL_isAhead 213 = .ok (.iload 11, 2) := by decide +kernel
theorem dL_isAhead_215 : decode cL_isAhead 215 = .ok (.sipush 5000, 3) := by decide +kernel
theorem dL_isAhead_218 : decode cL_isAhead 218 = .ok (.if_icmp .gt 98, 3) := by decide +kernel
theorem dL_isAhead_221 : decode cL_isAhead 221 = .ok (.iload_n 2, 1) := by decide +kernel
theorem dL_isAhead_222 : decode cL_isAhead 222 = .ok (.ifCond .eq 94, 3) := by decide +kernel
theorem dL_isAhead_225 : decode cL_isAhead 225 = .ok (.aload_n 1, 1) := by decide +kernel
theorem dL_isAhead_226 : decode cL_isAhead 226 = .ok (.invokevirtual 48, 3) := by decide +kernel
theorem dL_isAhead_229 : decode cL_isAhead 229 = .ok (.ifCond .ne 33, 3) := by decide +kernel
theorem dL_isAhead_232 : decode cL_isAhead 232 = .ok (.aload_n 1, 1) := by decide +kernel
theorem dL_isAhead_233 : decode cL_isAhead 233 = .ok (.invokevirtual 40, 3) := by decide +kernel
theorem dL_isAhead_236 : decode cL_isAhead 236 = .ok (.iconst 1, 1) := by decide +kernel
theorem dL_isAhead_237 : decode cL_isAhead 237 = .ok (.if_icmp .ne 25, 3) := by decide +kernel
theorem dL_isAhead_240 : decode cL_isAhead 240 = .ok (.aload_n 1, 1) := by decide +kernel
theorem dL_isAhead_241 : decode cL_isAhead 241 = .ok (.iconst 0, 1) := by decide +kernel
theorem dL_isAhead_242 : decode cL_isAhead 242 = .ok (.iload 11, 2) := by decide +kernel
theorem dL_isAhead_244 : decode cL_isAhead 244 = .ok (.invokevirtual 12, 3) := by decide +kernel
theorem dL_isAhead_247 : decode cL_isAhead 247 = .ok (.ifCond .lt 15, 3) := by decide +kernel
theorem dL_isAhead_250 : decode cL_isAhead 250 = .ok (.aload_n 1, 1) := by decide +kernel
theorem dL_isAhead_251 : decode cL_isAhead 251 = .ok (.iload_n 3, 1) := by decide +kernel
theorem dL_isAhead_252 : decode cL_isAhead 252 = .ok (.invokevirtual 24, 3) := by decide +kernel
theorem dL_isAhead_255 : decode cL_isAhead 255 = .ok (.ifCond .le 7, 3) := by decide +kernel
theorem dL_isAhead_258 : decode cL_isAhead 258 = .ok (.iconst 1, 1) := by decide +kernel
theorem dL_isAhead_259 : decode cL_isAhead 259 = .ok (.goto 4, 3) := by decide +kernel
theorem dL_isAhead_262 : decode cL_isAhead 262 = .ok (.iconst 0, 1) := by decide +kernel
theorem dL_isAhead_263 : decode cL_isAhead 263 = .ok (.istore_n 2, 1) := by decide +kernel
theorem dL_isAhead_264 : decode cL_isAhead 264 = .ok (.aload_n 1, 1) := by decide +kernel
theorem dL_isAhead_265 : decode cL_isAhead 265 = .ok (.iconst 0, 1) := by decide +kernel
theorem dL_isAhead_266 : decode cL_isAhead 266 = .ok (.invokevirtual 44, 3) := by decide +kernel
theorem dL_isAhead_269 : decode cL_isAhead 269 = .ok (.lload 7, 2) := by decide +kernel
theorem dL_isAhead_271 : decode cL_isAhead 271 = .ok (.lsub, 1) := by decide +kernel
theorem dL_isAhead_272 : decode cL_isAhead 272 = .ok (.lstore 12, 2) := by decide +kernel
theorem dL_isAhead_274 : decode cL_isAhead 274 = .ok (.iload_n 2, 1) := by decide +kernel
theorem dL_isAhead_275 : decode cL_isAhead 275 = .ok (.ifCond .eq 30, 3) := by decide +kernel
theorem dL_isAhead_278 : decode cL_isAhead 278 = .ok (.lload 12, 2) := by decide +kernel
theorem dL_isAhead_280 : decode cL_isAhead 280 = .ok (.lload 9, 2) := by decide +kernel
theorem dL_isAhead_282 : decode cL_isAhead 282 = .ok (.lcmp, 1) := by decide +kernel
theorem dL_isAhead_283 : decode cL_isAhead 283 = .ok (.ifCond .gt 18, 3) := by decide +kernel
theorem dL_isAhead_286 : decode cL_isAhead 286 = .ok (.lload 12, 2) := by decide +kernel
theorem dL_isAhead_288 : decode cL_isAhead 288 = .ok (.lload 9, 2) := by decide +kernel
theorem dL_isAhead_290 : decode cL_isAhead 290 = .ok (.lcmp, 1) := by decide +kernel
theorem dL_isAhead_291 : decode cL_isAhead 291 = .ok (.ifCond .ne 14, 3) := by decide +kernel
theorem dL_isAhead_294 : decode cL_isAhead 294 = .ok (.iload 11, 2) := by decide +kernel
theorem dL_isAhead_296 : decode cL_isAhead 296 = .ok (.iload 4, 2) := by decide +kernel
theorem dL_isAhead_298 : decode cL_isAhead 298 = .ok (.if_icmp .lt 7, 3) := by decide +kernel
theorem dL_isAhead_301 : decode cL_isAhead 301 = .ok (.iconst 1, 1) := by decide +kernel
theorem dL_isAhead_302 : decode cL_isAhead 302 = .ok (.goto 4, 3) := by decide +kernel
theorem dL_isAhead_305 : decode cL_isAhead 305 = .ok (.iconst 0, 1) := by decide +kernel
theorem dL_isAhead_306 : decode cL_isAhead 306 = .ok (.istore_n 2, 1) := by decide +kernel
theorem dL_isAhead_307 : decode cL_isAhead 307 = .ok (.iinc 11 1250, 6) := by decide +kernel
theorem dL_isAhead_313 : decode cL_isAhead 313 = .ok (.goto (-100), 3) := by decide +kernel
theorem dL_isAhead_316 : decode cL_isAhead 316 = .ok (.iload_n 2, 1) := by decide +kernel
theorem dL_isAhead_317 : decode cL_isAhead 317 = .ok (.ifCond .eq 44, 3) := by decide +kernel
theorem dL_isAhead_320 : decode cL_isAhead 320 = .ok (.aload_n 1, 1) := by decide +kernel
theorem dL_isAhead_321 : decode cL_isAhead 321 = .ok (.invokevirtual 48, 3) := by decide +kernel
theorem dL_isAhead_324 : decode cL_isAhead 324 = .ok (.ifCond .ne 37, 3) := by decide +kernel
theorem dL_isAhead_327 : decode cL_isAhead 327 = .ok (.aload_n 1, 1) := by decide +kernel
theorem dL_isAhead_328 : decode cL_isAhead 328 = .ok (.iconst 0, 1) := by decide +kernel
theorem dL_isAhead_329 : decode cL_isAhead 329 = .ok (.sipush 1000, 3) := by decide +kernel
theorem dL_isAhead_332 : decode cL_isAhead 332 = .ok (.invokevirtual 12, 3) := by decide +kernel
theorem dL_isAhead_335 : decode cL_isAhead 335 = .ok (.ifCond .lt 26, 3) := by decide +kernel
theorem dL_isAhead_338 : decode cL_isAhead 338 = .ok (.aload_n 1, 1) := by decide +kernel
theorem dL_isAhead_339 : decode cL_isAhead 339 = .ok (.iload_n 3, 1) := by decide +kernel
theorem dL_isAhead_340 : decode cL_isAhead 340 = .ok (.invokevirtual 24, 3) := by decide +kernel
theorem dL_isAhead_343 : decode cL_isAhead 343 = .ok (.ifCond .le 18, 3) := by decide +kernel
theorem dL_isAhead_346 : decode cL_isAhead 346 = .ok (.aload_n 1, 1) := by decide +kernel
theorem dL_isAhead_347 : decode cL_isAhead 347 = .ok (.iload 5, 2) := by decide +kernel
theorem dL_isAhead_349 : decode cL_isAhead 349 = .ok (.invokevirtual 27, 3) := by decide +kernel
theorem dL_isAhead_352 : decode cL_isAhead 352 = .ok (.iload 6, 2) := by decide +kernel
theorem dL_isAhead_354 : decode cL_isAhead 354 = .ok (.if_icmp .ne 7, 3) := by decide +kernel
theorem dL_isAhead_357 : decode cL_isAhead 357 = .ok (.iconst 1, 1) := by decide +kernel
theorem dL_isAhead_358 : decode cL_isAhead 358 = .ok (.goto 4, 3) := by decide +kernel
theorem dL_isAhead_361 : decode cL_isAhead 361 = .ok (.iconst 0, 1) := by decide +kernel
theorem dL_isAhead_362 : decode cL_isAhead 362 = .ok (.ireturn, 1) := by decide +kernel

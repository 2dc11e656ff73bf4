set_option maxRecDepth 20000 in
theorem ggL_isExact_X6_init : GoodIn wsL_isExact wsX6_init := goodIn_r _ [8, 9, 10, 11, 12, 13, 14, 15, 16, 17, 18, 19, 20, 21, 22, 23, 24, 25, 26, 27, 28, 29, 30, 31, 32, 33, 34, 35, 36, 37, 38, 39, 40, 41, 42, 43, 44, 45, 46, 47, 48, 49, 50, 51, 52, 53, 54, 55, 56, 57, 58, 59, 60, 61, 62, 63, 64, 65, 66, 67, 68, 69, 70, 71, 72, 73, 74, 75, 76, 77, 78, 79, 80, 81, 82, 83, 84, 85, 86, 87, 88, 89, 90, 91, 92, 93, 94, 95, 96, 97, 98, 286, 275, 276, 277, 278, 279, 280, 281, 282, 283, 284, 285, 287, 288, 289, 290, 291, 292, 293, 294, 295, 296, 297, 298, 299, 300, 301, 302, 303, 304, 305, 306, 307, 308, 309, 310, 311, 312] (by decide +kernel) (by decide +kernel)
set_option maxRecDepth 20000 in
theorem gL_isExact_X6_init : GoodIn wsL_isExact (wsX6_init) := ggL_isExact_X6_init
set_option maxRecDepth 20000 in
theorem ggL_isExact_X6_setParameter : GoodIn wsL_isExact wsX6_setParameter := goodIn_r _ [102, 103, 15, 19, 104, 105, 3, 106, 107, 108, 109, 110, 111, 112, 113, 114, 14, 115, 40, 116, 117, 118, 18, 119, 51, 50, 120, 42, 43, 44, 121, 122, 123, 124, 125, 126, 127, 128, 275, 276, 277, 278, 279, 280, 281, 282, 283, 284, 285, 286, 287, 288] (by decide +kernel) (by decide +kernel)
set_option maxRecDepth 20000 in
theorem gL_isExact_X6_setParameter : GoodIn wsL_isExact (wsV RL 12 RX6 yX6_setParameter wsX6_setParameter) := goodIn_app (goodIn_of _ (by decide +kernel)) ggL_isExact_X6_setParameter
set_option maxRecDepth 20000 in
theorem ggL_isExact_X6_setSetpoint : GoodIn wsL_isExact wsX6_setSetpoint := goodIn_r _ [132, 27, 103, 133, 134, 3, 135, 136, 137, 138, 139, 140, 26, 141, 71, 76, 142, 143, 144, 75, 145, 85, 86, 87, 88, 89, 275, 276, 277, 278, 279, 280, 281, 282, 283, 284, 285, 294, 295, 296, 297, 298, 299, 300, 301, 302, 303, 304, 305, 306, 307] (by decide +kernel) (by decide +kernel)
set_option maxRecDepth 20000 in
theorem gL_isExact_X6_setSetpoint : GoodIn wsL_isExact (wsV RL 17 RX6 yX6_setSetpoint wsX6_setSetpoint) := goodIn_app (goodIn_of _ (by decide +kernel)) ggL_isExact_X6_setSetpoint
set_option maxRecDepth 20000 in
theorem ggL_isExact_X6_idealDifference : GoodIn wsL_isExact wsX6_idealDifference := goodIn_r _ [149, 103, 15, 33, 31, 34, 32, 150, 151, 152, 153, 154, 155, 156, 3, 157, 27, 158, 159, 160, 161, 14, 162, 40, 41, 42, 43, 44, 125, 126, 127, 128, 110, 111, 163, 164, 165, 26, 166, 66, 67, 68, 69, 70, 71, 76, 80, 167, 142, 143, 144, 75, 145, 85, 86, 87, 88, 89, 138, 139, 140, 141, 112, 113, 114, 115, 168, 169, 170, 171, 172, 173, 174, 175, 176, 177, 178, 179, 180, 181, 182, 183, 184, 185, 186, 187, 188, 189, 190, 191, 192, 72, 193, 194, 195, 196, 197, 198, 199, 200, 201, 202, 203, 204, 205, 206, 207, 208, 209, 210, 211, 212, 213, 214, 215, 216, 217, 218, 219, 220, 221, 222, 223, 224, 225, 226, 227, 228, 229, 230, 231, 232, 233, 234, 235, 236, 237, 238, 239, 240, 241, 79, 242, 98, 94, 243, 244, 245, 246, 95, 96, 97, 247, 248, 249, 250, 251, 252, 253, 254, 255, 256, 257, 258, 259, 275, 276, 277, 278, 279, 280, 281, 282, 283, 284, 285, 294, 295, 296, 297, 298, 299, 300, 301, 302, 286, 308, 309, 310, 311, 312, 303, 304, 305, 306, 307] (by decide +kernel) (by decide +kernel)
set_option maxRecDepth 20000 in
theorem gL_isExact_X6_idealDifference : GoodIn wsL_isExact (wsV RL 21 RX6 yX6_idealDifference wsX6_idealDifference) := goodIn_app (goodIn_of _ (by decide +kernel)) ggL_isExact_X6_idealDifference
set_option maxRecDepth 20000 in
theorem ggL_isExact_X6_run : GoodIn wsL_isExact wsX6_run := goodIn_r _ [263, 103, 137, 27, 264, 265, 266, 267, 268, 3, 269, 15, 168, 169, 170, 26, 171, 71, 172, 173, 152, 174, 76, 80, 66, 175, 113, 114, 14, 115, 40, 110, 111, 176, 177, 178, 179, 180, 181, 68, 182, 183, 184, 185, 186, 187, 188, 189, 190, 191, 192, 72, 193, 194, 195, 196, 197, 198, 199, 200, 201, 202, 203, 204, 205, 206, 207, 208, 209, 210, 211, 212, 69, 70, 213, 214, 215, 216, 217, 218, 219, 220, 221, 222, 223, 224, 225, 226, 227, 228, 229, 230, 231, 232, 233, 234, 235, 75, 236, 85, 237, 86, 87, 89, 238, 151, 153, 88, 239, 240, 241, 79, 242, 98, 94, 243, 244, 245, 246, 95, 96, 97, 247, 248, 249, 250, 251, 252, 253, 254, 67, 275, 276, 277, 278, 279, 280, 281, 282, 283, 284, 285, 294, 295, 296, 297, 298, 299, 300, 301, 302, 286, 303, 304, 305, 306, 307, 308, 309, 310, 311, 312] (by decide +kernel) (by decide +kernel)
set_option maxRecDepth 20000 in
theorem gL_isExact_X6_run : GoodIn wsL_isExact (wsV RL 24 RX6 yX6_run wsX6_run) := goodIn_app (goodIn_of _ (by decide +kernel)) ggL_isExact_X6_run
set_option maxRecDepth 20000 in
theorem ggL_isExact_X6_value : GoodIn wsL_isExact wsX6_value := goodIn_r _ [273, 27, 158, 103, 274, 193, 3, 194, 275, 276, 277, 278, 279, 280, 281, 282, 283, 284, 285, 294, 295, 296, 297, 298, 299, 300, 301, 302] (by decide +kernel) (by decide +kernel)
set_option maxRecDepth 20000 in
theorem gL_isExact_X6_value : GoodIn wsL_isExact (wsV RL 27 RX6 yX6_value wsX6_value) := goodIn_app (goodIn_of _ (by decide +kernel)) ggL_isExact_X6_value
theorem dL_isExact_0 : decode cL_isExact 0 = .ok (.new 9, 3) := by decide +kernel
theorem dL_isExact_3 : decode cL_isExact 3 = .ok (.dup, 1) := by decide +kernel
theorem dL_isExact_4 : decode cL_isExact 4 = .ok (.invokespecial 11, 3) := by decide +kernel
theorem dL_isExact_7 : decode cL_isExact 7 = .ok (.astore_n 1, 1) := by decide +kernel
theorem dL_isExact_8 : decode cL_isExact 8 = .ok (.iload_n 0, 1) := by decide +kernel
theorem dL_isExact_9 : decode cL_isExact 9 = .ok (.iconst 2, 1) := by decide +kernel
theorem dL_isExact_10 : decode cL_isExact 10 = .ok (.ishr, 1) := by decide +kernel
theorem dL_isExact_11 : decode cL_isExact 11 = .ok (.sipush 3000, 3) := by decide +kernel
theorem dL_isExact_14 : decode cL_isExact 14 = .ok (.irem, 1) := by decide +kernel
theorem dL_isExact_15 : decode cL_isExact 15 = .ok (.sipush 500, 3) := by decide +kernel
theorem dL_isExact_18 : decode cL_isExact 18 = .ok (.isub, 1) := by decide +kernel
theorem dL_isExact_19 : decode cL_isExact 19 = .ok (.istore_n 2, 1) := by decide +kernel
theorem dL_isExact_20 : decode cL_isExact 20 = .ok (.iload_n 0, 1) := by decide +kernel
theorem dL_isExact_21 : decode cL_isExact 21 = .ok (.iconst 5, 1) := by decide +kernel
theorem dL_isExact_22 : decode cL_isExact 22 = .ok (.ishr, 1) := by decide +kernel
theorem dL_isExact_23 : decode cL_isExact 23 = .ok (.sipush 1000, 3) := by decide +kernel
theorem dL_isExact_26 : decode cL_isExact 26 = .ok (.irem, 1) := by decide +kernel
theorem dL_isExact_27 : decode cL_isExact 27 = .ok (.istore_n 3, 1) := by decide +kernel
theorem dL_isExact_28 : decode cL_isExact 28 = .ok (.iload_n 0, 1) := by decide +kernel
theorem dL_isExact_29 : decode cL_isExact 29 = .ok (.bipush 8, 2) := by decide +kernel
theorem dL_isExact_31 : decode cL_isExact 31 = .ok (.ishr, 1) := by decide +kernel
theorem dL_isExact_32 : decode cL_isExact 32 = .ok (.bipush 31, 2) := by decide +kernel
theorem dL_isExact_34 : decode cL_isExact 34 = .ok (.irem, 1) := by decide +kernel
theorem dL_isExact_35 : decode cL_isExact 35 = .ok (.istore 4, 2) := by decide +kernel
theorem dL_isExact_37 : decode cL_isExact 37 = .ok (.aload_n 1, 1) := by decide +kernel
theorem dL_isExact_38 : decode cL_isExact 38 = .ok (.iconst 0, 1) := by decide +kernel
theorem dL_isExact_39 : decode cL_isExact 39 = .ok (.iload_n 0, 1) := by decide +kernel
theorem dL_isExact_40 : decode cL_isExact 40 = .ok (.iconst 3, 1) := by decide +kernel
theorem dL_isExact_41 : decode cL_isExact 41 = .ok (.ishr, 1) := by decide +kernel
theorem dL_isExact_42 : decode cL_isExact 42 = .ok (.sipush 3000, 3) := by decide +kernel
theorem dL_isExact_45 : decode cL_isExact 45 = .ok (.irem, 1) := by decide +kernel
theorem dL_isExact_46 : decode cL_isExact 46 = .ok (.invokevirtual 12, 3) := by decide +kernel
theorem dL_isExact_49 : decode cL_isExact 49 = .ok (.sipush 1000, 3) := by decide +kernel
theorem dL_isExact_52 : decode cL_isExact 52 = .ok (.if_icmp .ne 105, 3) := by decide +kernel
theorem dL_isExact_55 : decode cL_isExact 55 = .ok (.aload_n 1, 1) := by decide +kernel
theorem dL_isExact_56 : decode cL_isExact 56 = .ok (.iconst 1, 1) := by decide +kernel
theorem dL_isExact_57 : decode cL_isExact 57 = .ok (.iload_n 0, 1) := by decide +kernel
theorem dL_isExact_58 : decode cL_isExact 58 = .ok (.bipush 9, 2) := by decide +kernel
theorem dL_isExact_60 : decode cL_isExact 60 = .ok (.ishr, 1) := by decide +kernel
theorem dL_isExact_61 : decode cL_isExact 61 = .ok (.sipush 800, 3) := by decide +kernel
theorem dL_isExact_64 : decode cL_isExact 64 = .ok (.irem, 1) := by decide +kernel
theorem dL_isExact_65 : decode cL_isExact 65 = .ok (.invokevirtual 12, 3) := by decide +kernel
theorem dL_isExact_68 : decode cL_isExact 68 = .ok (.bipush 100, 2) := by decide +kernel
theorem dL_isExact_70 : decode cL_isExact 70 = .ok (.if_icmp .ne 87, 3) := by decide +kernel
theorem dL_isExact_73 : decode cL_isExact 73 = .ok (.aload_n 1, 1) := by decide +kernel
theorem dL_isExact_74 : decode cL_isExact 74 = .ok (.iconst 2, 1) := by decide +kernel
theorem dL_isExact_75 : decode cL_isExact 75 = .ok (.iload_n 2, 1) := by decide +kernel
theorem dL_isExact_76 : decode cL_isExact 76 = .ok (.invokevirtual 12, 3) := by decide +kernel
theorem dL_isExact_79 : decode cL_isExact 79 = .ok (.sipush 1000, 3) := by decide +kernel
theorem dL_isExact_82 : decode cL_isExact 82 = .ok (.if_icmp .ne 75, 3) := by decide +kernel
theorem dL_isExact_85 : decode cL_isExact 85 = .ok (.aload_n 1, 1) := by decide +kernel
theorem dL_isExact_86 : decode cL_isExact 86 = .ok (.iconst 5, 1) := by decide +kernel
theorem dL_isExact_87 : decode cL_isExact 87 = .ok (.iload_n 2, 1) := by decide +kernel
theorem dL_isExact_88 : decode cL_isExact 88 = .ok (.invokevirtual 12, 3) := by decide +kernel
theorem dL_isExact_91 : decode cL_isExact 91 = .ok (.sipush 1000, 3) := by decide +kernel
theorem dL_isExact_94 : decode cL_isExact 94 = .ok (.if_icmp .ne 63, 3) := by decide +kernel
theorem dL_isExact_97 : decode cL_isExact 97 = .ok (.aload_n 1, 1) := by decide +kernel
theorem dL_isExact_98 : decode cL_isExact 98 = .ok (.iconst 3, 1) := by decide +kernel
theorem dL_isExact_99 : decode cL_isExact 99 = .ok (.iload_n 3, 1) := by decide +kernel
theorem dL_isExact_100 : decode cL_isExact 100 = .ok (.invokevirtual 12, 3) := by decide +kernel
theorem dL_isExact_103 : decode cL_isExact 103 = .ok (.sipush 800, 3) := by decide +kernel
theorem dL_isExact_106 : decode cL_isExact 106 = .ok (.if_icmp .ne 51, 3) := by decide +kernel
theorem dL_isExact_109 : decode cL_isExact 109 = .ok (.aload_n 1, 1) := by decide +kernel
theorem dL_isExact_110 : decode cL_isExact 110 = .ok (.bipush 6, 2) := by decide +kernel
theorem dL_isExact_112 : decode cL_isExact 112 = .ok (.iload_n 3, 1) := by decide +kernel
theorem dL_isExact_113 : decode cL_isExact 113 = .ok (.invokevirtual 12, 3) := by decide +kernel
theorem dL_isExact_116 : decode cL_isExact 116 = .ok (.sipush 800, 3) := by decide +kernel
theorem dL_isExact_119 : decode cL_isExact 119 = .ok (.if_icmp .ne 38, 3) := by decide +kernel
theorem dL_isExact_122 : decode cL_isExact 122 = .ok (.aload_n 1, 1) := by decide +kernel
theorem dL_isExact_123 : decode cL_isExact 123 = .ok (.iconst 4, 1) := by decide +kernel
theorem dL_isExact_124 : decode cL_isExact 124 = .ok (.bipush 10, 2) := by decide +kernel
theorem dL_isExact_126 : decode cL_isExact 126 = .ok (.iload 4, 2) := by decide +kernel
theorem dL_isExact_128 : decode cL_isExact 128 = .ok (.imul, 1) := by decide +kernel
theorem dL_isExact_129 : decode cL_isExact 129 = .ok (.invokevirtual 12, 3) := by decide +kernel
theorem dL_isExact_132 : decode cL_isExact 132 = .ok (.bipush 50, 2) := by decide +kernel
theorem dL_isExact_134 : decode cL_isExact 134 = .ok (.if_icmp .ne 23, 3) := by decide +kernel
theorem dL_isExact_137 : decode cL_isExact 137 = .ok (.aload_n 1, 1) := by decide +kernel
theorem dL_isExact_138 : decode cL_isExact 138 = .ok (.bipush 7, 2) := by decide +kernel
theorem dL_isExact_140 : decode cL_isExact 140 = .ok (.bipush 10, 2) := by decide +kernel
theorem dL_isExact_142 : decode cL_isExact 142 = .ok (.iload 4, 2) := by decide +kernel
theorem dL_isExact_144 : decode cL_isExact 144 = .ok (.imul, 1) := by decide +kernel
theorem dL_isExact_145 : decode cL_isExact 145 = .ok (.invokevirtual 12, 3) := by decide +kernel
theorem dL_isExact_148 : decode cL_isExact 148 = .ok (.bipush 50, 2) := by decide +kernel
theorem dL_isExact_150 : decode cL_isExact 150 = .ok (.if_icmp .ne 7, 3) := by decide +kernel
theorem dL_isExact_153 : decode cL_isExact 153 = .ok (.iconst 1, 1) := by decide +kernel
theorem dL_isExact_154 : decode cL_isExact 154 = .ok (.goto 4, 3) := by decide +kernel
theorem dL_isExact_157 : decode cL_isExact 157 = .ok (.iconst 0, 1) := by decide +kernel
theorem dL_isExact_158 : decode cL_isExact 158 = .ok (.istore 5, 2) := by decide +kernel
theorem dL_isExact_160 : decode cL_isExact 160 = .ok (.iload 5, 2) := by decide +kernel
theorem dL_isExact_162 : decode cL_isExact 162 = .ok (.ifCond .eq 92, 3) := by decide +kernel
theorem dL_isExact_165 : decode cL_isExact 165 = .ok (.aload_n 1, 1) := by decide +kernel
theorem dL_isExact_166 : decode cL_isExact 166 = .ok (.bipush 8, 2) := by decide +kernel
theorem dL_isExact_168 : decode cL_isExact 168 = .ok (.iload_n 0, 1) := by decide +kernel
theorem dL_isExact_169 : decode cL_isExact 169 = .ok (.iconst 4, 1) := by decide +kernel
theorem dL_isExact_170 : decode cL_isExact 170 = .ok (.ishr, 1) := by decide +kernel
theorem dL_isExact_171 : decode cL_isExact 171 = .ok (.sipush 1000, 3) := by decide +kernel
theorem dL_isExact_174 : decode cL_isExact 174 = .ok (.irem, 1) := by decide +kernel
theorem dL_isExact_175 : decode cL_isExact 175 = .ok (.invokevirtual 12, 3) := by decide +kernel
theorem dL_isExact_178 : decode cL_isExact 178 = .ok (.ifCond .ne 76, 3) := by decide +kernel
theorem dL_isExact_181 : decode cL_isExact 181 = .ok (.aload_n 1, 1) := by decide +kernel
theorem dL_isExact_182 : decode cL_isExact 182 = .ok (.bipush 11, 2) := by decide +kernel
theorem dL_isExact_184 : decode cL_isExact 184 = .ok (.iconst 1, 1) := by decide +kernel
theorem dL_isExact_185 : decode cL_isExact 185 = .ok (.iload_n 0, 1) := by decide +kernel
theorem dL_isExact_186 : decode cL_isExact 186 = .ok (.bipush 7, 2) := by decide +kernel
theorem dL_isExact_188 : decode cL_isExact 188 = .ok (.ishr, 1) := by decide +kernel
theorem dL_isExact_189 : decode cL_isExact 189 = .ok (.sipush 5000, 3) := by decide +kernel
theorem dL_isExact_192 : decode cL_isExact 192 = .ok (.irem, 1) := by decide +kernel
theorem dL_isExact_193 : decode cL_isExact 193 = .ok (.iadd, 1) := by decide +kernel
theorem dL_isExact_194 : decode cL_isExact 194 = .ok (.invokevirtual 12, 3) := by decide +kernel
theorem dL_isExact_197 : decode cL_isExact 197 = .ok (.ldc 16, 2) := by decide +kernel
theorem dL_isExact_199 : decode cL_isExact 199 = .ok (.if_icmp .ne 55, 3) := by decide +kernel
theorem dL_isExact_202 : decode cL_isExact 202 = .ok (.aload_n 1, 1) := by decide +kernel
theorem dL_isExact_203 : decode cL_isExact 203 = .ok (.bipush 12, 2) := by decide +kernel
theorem dL_isExact_205 : decode cL_isExact 205 = .ok (.iload_n 0, 1) := by decide +kernel
theorem dL_isExact_206 : decode cL_isExact 206 = .ok (.bipush 50, 2) := by decide +kernel
theorem dL_isExact_208 : decode cL_isExact 208 = .ok (.irem, 1) := by decide +kernel
theorem dL_isExact_209 : decode cL_isExact 209 = .ok (.invokevirtual 12, 3) := by decide +kernel
theorem dL_isExact_212 : decode cL_isExact 212 = .ok (.sipush 5000, 3) := by decide +kernel
theorem dL_isExact_215 : decode cL_isExact 215 = .ok (.if_icmp .ne 39, 3) := by decide +kernel
theorem dL_isExact_218 : decode cL_isExact 218 = .ok (.aload_n 1, 1) := by decide +kernel
theorem dL_isExact_219 : decode cL_isExact 219 = .ok (.iload_n 0, 1) := by decide +kernel
theorem dL_isExact_220 : decode cL_isExact 220 = .ok (.bipush 6, 2) := by decide +kernel
theorem dL_isExact_222 : decode cL_isExact 222 = .ok (.ishr, 1) := by decide +kernel
theorem dL_isExact_223 : decode cL_isExact 223 = .ok (.sipush 30000, 3) := by decide +kernel
theorem dL_isExact_226 : decode cL_isExact 226 = .ok (.irem, 1) := by decide +kernel
theorem dL_isExact_227 : decode cL_isExact 227 = .ok (.sipush 15000, 3) := by decide +kernel
theorem dL_isExact_230 : decode cL_isExact 230 = .ok (.isub, 1) := by decide +kernel
theorem dL_isExact_231 : decode cL_isExact 231 = .ok (.invokevirtual 17, 3) := by decide +kernel
theorem dL_isExact_234 : decode cL_isExact 234 = .ok (.ifCond .ne 20, 3) := by decide +kernel
theorem dL_isExact_237 : decode cL_isExact 237 = .ok (.aload_n 1, 1) := by decide +kernel
theorem dL_isExact_238 : decode cL_isExact 238 = .ok (.iconst 1, 1) := by decide +kernel
theorem dL_isExact_239 : decode cL_isExact 239 = .ok (.iload_n 0, 1) := by decide +kernel
theorem dL_isExact_240 : decode cL_isExact 240 = .ok (.bipush 60, 2) := by decide +kernel
theorem dL_isExact_242 : decode cL_isExact 242 = .ok (.irem, 1) := by decide +kernel
theorem dL_isExact_243 : decode cL_isExact 243 = .ok (.iadd, 1) := by decide +kernel
theorem dL_isExact_244 : decode cL_isExact 244 = .ok (.invokevirtual 21, 3) := by decide +kernel
theorem dL_isExact_247 : decode cL_isExact 247 = .ok (.ifCond .ne 7, 3) := by decide +kernel
theorem dL_isExact_250 : decode cL_isExact 250 = .ok (.iconst 1, 1) := by decide +kernel
theorem dL_isExact_251 : decode cL_isExact 251 = .ok (.goto 4, 3) := by decide +kernel
theorem dL_isExact_254 : decode cL_isExact 254 = .ok (.iconst 0, 1) := by decide +kernel
theorem dL_isExact_255 : decode cL_isExact 255 = .ok (.istore 5, 2) := by decide +kernel
theorem dL_isExact_257 : decode cL_isExact 257 = .ok (.iconst 0, 1) := by decide +kernel
theorem dL_isExact_258 : decode cL_isExact 258 = .ok (.istore 6, 2) := by decide +kernel
theorem dL_isExact_260 : decode cL_isExact 260 = .ok (.iload 6, 2) := by decide +kernel
theorem dL_isExact_262 : decode cL_isExact 262 = .ok (.iconst 5, 1) := by decide +kernel
theorem dL_isExact_263 : decode cL_isExact 263 = .ok (.if_icmp .ge 69, 3) := by decide +kernel
theorem dL_isExact_266 : decode cL_isExact 266 = .ok (.iload 5, 2) := by decide +kernel
theorem dL_isExact_268 : decode cL_isExact 268 = .ok (.ifCond .eq 64, 3) := by decide +kernel
theorem dL_isExact_271 : decode cL_isExact 271 = .ok (.aload_n 1, 1) := by decide +kernel
theorem dL_isExact_272 : decode cL_isExact 272 = .ok (.iconst 1, 1) := by decide +kernel
theorem dL_isExact_273 : decode cL_isExact 273 = .ok (.iload_n 0, 1) := by decide +kernel
theorem dL_isExact_274 : decode cL_isExact 274 = .ok (.iconst 3, 1) := by decide +kernel
theorem dL_isExact_275 : decode cL_isExact 275 = .ok (.iload 6, 2) := by decide +kernel
theorem dL_isExact_277 : decode cL_isExact 277 = .ok (.iadd, 1) := by decide +kernel
theorem dL_isExact_278 : decode cL_isExact 278 = .ok (.ishr, 1) := by decide +kernel
theorem dL_isExact_279 : decode cL_isExact 279 = .ok (.bipush 20, 2) := by decide +kernel
theorem dL_isExact_281 : decode cL_isExact 281 = .ok (.irem, 1) := by decide +kernel
theorem dL_isExact_282 : decode cL_isExact 282 = .ok (.iadd, 1) := by decide +kernel
theorem dL_isExact_283 : decode cL_isExact 283 = .ok (.invokevirtual 24, 3) := by decide +kernel
theorem dL_isExact_286 : decode cL_isExact 286 = .ok (.ifCond .le 37, 3) := by decide +kernel
theorem dL_isExact_289 : decode cL_isExact 289 = .ok (.aload_n 1, 1) := by decide +kernel
theorem dL_isExact_290 : decode cL_isExact 290 = .ok (.iconst 5, 1) := by decide +kernel
theorem dL_isExact_291 : decode cL_isExact 291 = .ok (.invokevirtual 27, 3) := by decide +kernel
theorem dL_isExact_294 : decode cL_isExact 294 = .ok (.ifCond .ne 29, 3) := by decide +kernel
theorem dL_isExact_297 : decode cL_isExact 297 = .ok (.aload_n 1, 1) := by decide +kernel
theorem dL_isExact_298 : decode cL_isExact 298 = .ok (.bipush 9, 2) := by decide +kernel
theorem dL_isExact_300 : decode cL_isExact 300 = .ok (.invokevirtual 27, 3) := by decide +kernel
theorem dL_isExact_303 : decode cL_isExact 303 = .ok (.ifCond .ne 20, 3) := by decide +kernel
theorem dL_isExact_306 : decode cL_isExact 306 = .ok (.aload_n 1, 1) := by decide +kernel
theorem dL_isExact_307 : decode cL_isExact 307 = .ok (.iconst 4, 1) := by decide +kernel
theorem dL_isExact_308 : decode cL_isExact 308 = .ok (.invokevirtual 27, 3) := by decide +kernel
theorem dL_isExact_311 : decode cL_isExact 311 = .ok (.aload_n 1, 1) := by decide +kernel
theorem dL_isExact_312 : decode cL_isExact 312 = .ok (.iconst 1, 1) := by decide +kernel
theorem dL_isExact_313 : decode cL_isExact 313 = .ok (.invokevirtual 27, 3) := by decide +kernel
theorem dL_isExact_316 : decode cL_isExact 316 = .ok (.if_icmp .ne 7, 3) := by decide +kernel
theorem dL_isExact_319 : decode cL_isExact 319 = .ok (.iconst 1, 1) := by decide +kernel
theorem dL_isExact_320 : decode cL_isExact 320 = .ok (.goto 4, 3) := by decide +kernel
theorem dL_isExact_323 : decode cL_isExact 323 = .ok (.iconst 0, 1) := by decide +kernel
theorem dL_isExact_324 : decode cL_isExact 324 = .ok (.istore 5, 2) := by decide +kernel
theorem dL_isExact_326 : decode cL_isExact 326 = .ok (.iinc 6 1, 3) := by decide +kernel
theorem dL_isExact_329 : decode cL_isExact 329 = .ok (.goto (-69), 3) := by decide +kernel
theorem dL_isExact_332 : decode cL_isExact 332 = .ok (.iload 5, 2) := by decide +kernel
theorem dL_isExact_334 : decode cL_isExact 334 = .ok (.ifCond .eq 28, 3) := by decide +kernel
theorem dL_isExact_337 : decode cL_isExact 337 = .ok (.aload_n 1, 1) := by decide +kernel
theorem dL_isExact_338 : decode cL_isExact 338 = .ok (.bipush 20, 2) := by decide +kernel
theorem dL_isExact_340 : decode cL_isExact 340 = .ok (.invokevirtual 21, 3) := by decide +kernel
theorem dL_isExact_343 : decode cL_isExact 343 = .ok (.ifCond .ne 19, 3) := by decide +kernel
theorem dL_isExact_346 : decode cL_isExact 346 = .ok (.aload_n 1, 1) := by decide +kernel
theorem dL_isExact_347 : decode cL_isExact 347 = .ok (.sipush 201, 3) := by decide +kernel
theorem dL_isExact_350 : decode cL_isExact 350 = .ok (.invokevirtual 21, 3) := by decide +kernel
theorem dL_isExact_353 : decode cL_isExact 353 = .ok (.ldc 30, 2) := by decide +kernel
theorem dL_isExact_355 : decode cL_isExact 355 = .ok (.if_icmp .ne 7, 3) := by decide +kernel
theorem dL_isExact_358 : decode cL_isExact 358 = .ok (.iconst 1, 1) := by decide +kernel
theorem dL_isExact_359 : decode cL_isExact 359 = .ok (.goto 4, 3) := by decide +kernel
theorem dL_isExact_362 : decode cL_isExact 362 = .ok (.iconst 0, 1) := by decide +kernel
theorem dL_isExact_363 : decode cL_isExact 363 = .ok (.ireturn, 1) := by decide +kernel

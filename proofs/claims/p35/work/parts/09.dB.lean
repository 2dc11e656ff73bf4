set_option maxRecDepth 20000 in
theorem ggL_isBounded_X6_init : GoodIn wsL_isBounded wsX6_init := goodIn_r _ [11, 12, 13, 14, 15, 16, 17, 18, 19, 20, 21, 22, 23, 24, 25, 26, 27, 28, 29, 30, 31, 32, 33, 34, 35, 36, 37, 38, 39, 40, 41, 42, 43, 44, 45, 46, 47, 48, 49, 50, 51, 52, 53, 54, 55, 56, 57, 58, 59, 60, 61, 62, 63, 64, 65, 66, 67, 68, 69, 70, 71, 72, 73, 74, 75, 76, 77, 78, 79, 80, 81, 82, 83, 84, 85, 86, 87, 88, 89, 90, 91, 92, 93, 94, 95, 96, 97, 98, 99, 100, 101, 292, 281, 282, 283, 284, 285, 286, 287, 288, 289, 290, 291, 293, 294, 295, 296, 297, 298, 299, 300, 301, 302, 303, 304, 305, 306, 307, 308, 309, 310, 311, 312, 313, 314, 315, 316, 317, 318] (by decide +kernel) (by decide +kernel)
set_option maxRecDepth 20000 in
theorem gL_isBounded_X6_init : GoodIn wsL_isBounded (wsX6_init) := ggL_isBounded_X6_init
set_option maxRecDepth 20000 in
theorem ggL_isBounded_X6_setParameter : GoodIn wsL_isBounded wsX6_setParameter := goodIn_r _ [105, 106, 18, 22, 107, 108, 3, 109, 110, 111, 112, 113, 114, 115, 116, 117, 17, 118, 43, 119, 120, 121, 21, 122, 54, 53, 123, 45, 46, 47, 124, 125, 126, 127, 128, 129, 130, 131, 281, 282, 283, 284, 285, 286, 287, 288, 289, 290, 291, 292, 293, 294] (by decide +kernel) (by decide +kernel)
set_option maxRecDepth 20000 in
theorem gL_isBounded_X6_setParameter : GoodIn wsL_isBounded (wsV RL 12 RX6 yX6_setParameter wsX6_setParameter) := goodIn_app (goodIn_of _ (by decide +kernel)) ggL_isBounded_X6_setParameter
set_option maxRecDepth 20000 in
theorem ggL_isBounded_X6_setSetpoint : GoodIn wsL_isBounded wsX6_setSetpoint := goodIn_r _ [135, 30, 106, 136, 137, 3, 138, 139, 140, 141, 142, 143, 29, 144, 74, 79, 145, 146, 147, 78, 148, 88, 89, 90, 91, 92, 281, 282, 283, 284, 285, 286, 287, 288, 289, 290, 291, 300, 301, 302, 303, 304, 305, 306, 307, 308, 309, 310, 311, 312, 313] (by decide +kernel) (by decide +kernel)
set_option maxRecDepth 20000 in
theorem gL_isBounded_X6_setSetpoint : GoodIn wsL_isBounded (wsV RL 17 RX6 yX6_setSetpoint wsX6_setSetpoint) := goodIn_app (goodIn_of _ (by decide +kernel)) ggL_isBounded_X6_setSetpoint
set_option maxRecDepth 20000 in
theorem ggL_isBounded_X6_run : GoodIn wsL_isBounded wsX6_run := goodIn_r _ [152, 106, 140, 30, 153, 154, 155, 156, 157, 3, 158, 18, 159, 160, 161, 29, 162, 74, 163, 164, 165, 166, 79, 83, 69, 167, 116, 117, 17, 118, 43, 113, 114, 168, 169, 170, 171, 172, 173, 71, 174, 175, 176, 177, 178, 179, 180, 181, 182, 183, 184, 75, 185, 186, 187, 188, 189, 190, 191, 192, 193, 194, 195, 196, 197, 198, 199, 200, 201, 202, 203, 204, 72, 73, 205, 206, 207, 208, 209, 210, 211, 212, 213, 214, 215, 216, 217, 218, 219, 220, 221, 222, 223, 224, 225, 226, 227, 78, 228, 88, 229, 89, 90, 92, 230, 231, 232, 91, 233, 234, 235, 82, 236, 101, 97, 237, 238, 239, 240, 98, 99, 100, 241, 242, 243, 244, 245, 246, 247, 248, 70, 281, 282, 283, 284, 285, 286, 287, 288, 289, 290, 291, 300, 301, 302, 303, 304, 305, 306, 307, 308, 292, 309, 310, 311, 312, 313, 314, 315, 316, 317, 318] (by decide +kernel) (by decide +kernel)
set_option maxRecDepth 20000 in
theorem gL_isBounded_X6_run : GoodIn wsL_isBounded (wsV RL 24 RX6 yX6_run wsX6_run) := goodIn_app (goodIn_of _ (by decide +kernel)) ggL_isBounded_X6_run
set_option maxRecDepth 20000 in
theorem ggL_isBounded_X6_value : GoodIn wsL_isBounded wsX6_value := goodIn_r _ [252, 30, 253, 106, 254, 185, 3, 186, 281, 282, 283, 284, 285, 286, 287, 288, 289, 290, 291, 300, 301, 302, 303, 304, 305, 306, 307, 308] (by decide +kernel) (by decide +kernel)
set_option maxRecDepth 20000 in
theorem gL_isBounded_X6_value : GoodIn wsL_isBounded (wsV RL 27 RX6 yX6_value wsX6_value) := goodIn_app (goodIn_of _ (by decide +kernel)) ggL_isBounded_X6_value
set_option maxRecDepth 20000 in
theorem ggL_isBounded_X6_recorded : GoodIn wsL_isBounded wsX6_recorded := goodIn_r _ [258, 106, 30, 153, 259, 254, 185, 3, 186, 260, 182, 183, 29, 184, 69, 75, 187, 188, 189, 190, 281, 282, 283, 284, 285, 286, 287, 288, 289, 290, 291, 300, 301, 302, 303, 304, 305, 306, 307, 308] (by decide +kernel) (by decide +kernel)
set_option maxRecDepth 20000 in
theorem gL_isBounded_X6_recorded : GoodIn wsL_isBounded (wsV RL 54 RX6 yX6_recorded wsX6_recorded) := goodIn_app (goodIn_of _ (by decide +kernel)) ggL_isBounded_X6_recorded
set_option maxRecDepth 20000 in
theorem ggL_isBounded_X6_measure : GoodIn wsL_isBounded wsX6_measure := goodIn_r _ [264, 30, 265, 266, 267, 268, 269, 270, 281, 282, 283, 284, 285, 286, 287, 288, 289, 290, 291, 300, 301, 302, 303, 304, 305, 306, 307, 308, 309, 310, 311, 312, 313] (by decide +kernel) (by decide +kernel)
set_option maxRecDepth 20000 in
theorem gL_isBounded_X6_measure : GoodIn wsL_isBounded (wsV RL 44 RX6 yX6_measure wsX6_measure) := goodIn_app (goodIn_of _ (by decide +kernel)) ggL_isBounded_X6_measure
set_option maxRecDepth 20000 in
theorem ggL_isBounded_X6_undo : GoodIn wsL_isBounded wsX6_undo := goodIn_r _ [274, 22, 275, 276, 18, 277, 278, 279, 21, 280, 54, 53, 123, 45, 46, 47, 281, 282, 283, 284, 285, 286, 287, 288, 289, 290, 291, 293, 294, 292] (by decide +kernel) (by decide +kernel)
set_option maxRecDepth 20000 in
theorem gL_isBounded_X6_undo : GoodIn wsL_isBounded (wsV RL 59 RX6 yX6_undo wsX6_undo) := goodIn_app (goodIn_of _ (by decide +kernel)) ggL_isBounded_X6_undo
theorem dL_isBounded_0 : decode cL_isBounded 0 = .ok (.new 9, 3) := by decide +kernel
theorem dL_isBounded_3 : decode cL_isBounded 3 = .ok (.dup, 1) := by decide +kernel
theorem dL_isBounded_4 : decode cL_isBounded 4 = .ok (.invokespecial 11, 3) := by decide +kernel
theorem dL_isBounded_7 : decode cL_isBounded 7 = .ok (.astore_n 1, 1) := by decide +kernel
theorem dL_isBounded_8 : decode cL_isBounded 8 = .ok (.iconst 1, 1) := by decide +kernel
theorem dL_isBounded_9 : decode cL_isBounded 9 = .ok (.iload_n 0, 1) := by decide +kernel
theorem dL_isBounded_10 : decode cL_isBounded 10 = .ok (.iconst 2, 1) := by decide +kernel
theorem dL_isBounded_11 : decode cL_isBounded 11 = .ok (.ishr, 1) := by decide +kernel
theorem dL_isBounded_12 : decode cL_isBounded 12 = .ok (.sipush 3000, 3) := by decide +kernel
theorem dL_isBounded_15 : decode cL_isBounded 15 = .ok (.irem, 1) := by decide +kernel
theorem dL_isBounded_16 : decode cL_isBounded 16 = .ok (.iadd, 1) := by decide +kernel
theorem dL_isBounded_17 : decode cL_isBounded 17 = .ok (.istore_n 2, 1) := by decide +kernel
theorem dL_isBounded_18 : decode cL_isBounded 18 = .ok (.iload_n 0, 1) := by decide +kernel
theorem dL_isBounded_19 : decode cL_isBounded 19 = .ok (.iconst 5, 1) := by decide +kernel
theorem dL_isBounded_20 : decode cL_isBounded 20 = .ok (.ishr, 1) := by decide +kernel
theorem dL_isBounded_21 : decode cL_isBounded 21 = .ok (.sipush 3000, 3) := by decide +kernel
theorem dL_isBounded_24 : decode cL_isBounded 24 = .ok (.irem, 1) := by decide +kernel
theorem dL_isBounded_25 : decode cL_isBounded 25 = .ok (.ineg, 1) := by decide +kernel
theorem dL_isBounded_26 : decode cL_isBounded 26 = .ok (.istore_n 3, 1) := by decide +kernel
theorem dL_isBounded_27 : decode cL_isBounded 27 = .ok (.iconst 1, 1) := by decide +kernel
theorem dL_isBounded_28 : decode cL_isBounded 28 = .ok (.iload_n 0, 1) := by decide +kernel
theorem dL_isBounded_29 : decode cL_isBounded 29 = .ok (.bipush 8, 2) := by decide +kernel
theorem dL_isBounded_31 : decode cL_isBounded 31 = .ok (.ishr, 1) := by decide +kernel
theorem dL_isBounded_32 : decode cL_isBounded 32 = .ok (.sipush 900, 3) := by decide +kernel
theorem dL_isBounded_35 : decode cL_isBounded 35 = .ok (.irem, 1) := by decide +kernel
theorem dL_isBounded_36 : decode cL_isBounded 36 = .ok (.iadd, 1) := by decide +kernel
theorem dL_isBounded_37 : decode cL_isBounded 37 = .ok (.istore 4, 2) := by decide +kernel
theorem dL_isBounded_39 : decode cL_isBounded 39 = .ok (.iconst 1, 1) := by decide +kernel
theorem dL_isBounded_40 : decode cL_isBounded 40 = .ok (.iload_n 0, 1) := by decide +kernel
theorem dL_isBounded_41 : decode cL_isBounded 41 = .ok (.iconst 3, 1) := by decide +kernel
theorem dL_isBounded_42 : decode cL_isBounded 42 = .ok (.ishr, 1) := by decide +kernel
theorem dL_isBounded_43 : decode cL_isBounded 43 = .ok (.bipush 8, 2) := by decide +kernel
theorem dL_isBounded_45 : decode cL_isBounded 45 = .ok (.irem, 1) := by decide +kernel
theorem dL_isBounded_46 : decode cL_isBounded 46 = .ok (.iadd, 1) := by decide +kernel
theorem dL_isBounded_47 : decode cL_isBounded 47 = .ok (.istore 5, 2) := by decide +kernel
theorem dL_isBounded_49 : decode cL_isBounded 49 = .ok (.aload_n 1, 1) := by decide +kernel
theorem dL_isBounded_50 : decode cL_isBounded 50 = .ok (.bipush 10, 2) := by decide +kernel
theorem dL_isBounded_52 : decode cL_isBounded 52 = .ok (.iload_n 2, 1) := by decide +kernel
theorem dL_isBounded_53 : decode cL_isBounded 53 = .ok (.invokevirtual 12, 3) := by decide +kernel
theorem dL_isBounded_56 : decode cL_isBounded 56 = .ok (.ldc 51, 2) := by decide +kernel
theorem dL_isBounded_58 : decode cL_isBounded 58 = .ok (.if_icmp .ne 108, 3) := by decide +kernel
theorem dL_isBounded_61 : decode cL_isBounded 61 = .ok (.aload_n 1, 1) := by decide +kernel
theorem dL_isBounded_62 : decode cL_isBounded 62 = .ok (.bipush 9, 2) := by decide +kernel
theorem dL_isBounded_64 : decode cL_isBounded 64 = .ok (.iload_n 3, 1) := by decide +kernel
theorem dL_isBounded_65 : decode cL_isBounded 65 = .ok (.invokevirtual 12, 3) := by decide +kernel
theorem dL_isBounded_68 : decode cL_isBounded 68 = .ok (.ldc 52, 2) := by decide +kernel
theorem dL_isBounded_70 : decode cL_isBounded 70 = .ok (.if_icmp .ne 96, 3) := by decide +kernel
theorem dL_isBounded_73 : decode cL_isBounded 73 = .ok (.aload_n 1, 1) := by decide +kernel
theorem dL_isBounded_74 : decode cL_isBounded 74 = .ok (.bipush 11, 2) := by decide +kernel
theorem dL_isBounded_76 : decode cL_isBounded 76 = .ok (.iload 4, 2) := by decide +kernel
theorem dL_isBounded_78 : decode cL_isBounded 78 = .ok (.invokevirtual 12, 3) := by decide +kernel
theorem dL_isBounded_81 : decode cL_isBounded 81 = .ok (.ldc 16, 2) := by decide +kernel
theorem dL_isBounded_83 : decode cL_isBounded 83 = .ok (.if_icmp .ne 83, 3) := by decide +kernel
theorem dL_isBounded_86 : decode cL_isBounded 86 = .ok (.aload_n 1, 1) := by decide +kernel
theorem dL_isBounded_87 : decode cL_isBounded 87 = .ok (.bipush 13, 2) := by decide +kernel
theorem dL_isBounded_89 : decode cL_isBounded 89 = .ok (.iload 5, 2) := by decide +kernel
theorem dL_isBounded_91 : decode cL_isBounded 91 = .ok (.invokevirtual 12, 3) := by decide +kernel
theorem dL_isBounded_94 : decode cL_isBounded 94 = .ok (.iconst 5, 1) := by decide +kernel
theorem dL_isBounded_95 : decode cL_isBounded 95 = .ok (.if_icmp .ne 71, 3) := by decide +kernel
theorem dL_isBounded_98 : decode cL_isBounded 98 = .ok (.aload_n 1, 1) := by decide +kernel
theorem dL_isBounded_99 : decode cL_isBounded 99 = .ok (.bipush 12, 2) := by decide +kernel
theorem dL_isBounded_101 : decode cL_isBounded 101 = .ok (.bipush 100, 2) := by decide +kernel
theorem dL_isBounded_103 : decode cL_isBounded 103 = .ok (.invokevirtual 12, 3) := by decide +kernel
theorem dL_isBounded_106 : decode cL_isBounded 106 = .ok (.sipush 5000, 3) := by decide +kernel
theorem dL_isBounded_109 : decode cL_isBounded 109 = .ok (.if_icmp .ne 57, 3) := by decide +kernel
theorem dL_isBounded_112 : decode cL_isBounded 112 = .ok (.aload_n 1, 1) := by decide +kernel
theorem dL_isBounded_113 : decode cL_isBounded 113 = .ok (.iconst 2, 1) := by decide +kernel
theorem dL_isBounded_114 : decode cL_isBounded 114 = .ok (.sipush 2000, 3) := by decide +kernel
theorem dL_isBounded_117 : decode cL_isBounded 117 = .ok (.iload_n 0, 1) := by decide +kernel
theorem dL_isBounded_118 : decode cL_isBounded 118 = .ok (.sipush 2000, 3) := by decide +kernel
theorem dL_isBounded_121 : decode cL_isBounded 121 = .ok (.irem, 1) := by decide +kernel
theorem dL_isBounded_122 : decode cL_isBounded 122 = .ok (.iadd, 1) := by decide +kernel
theorem dL_isBounded_123 : decode cL_isBounded 123 = .ok (.invokevirtual 12, 3) := by decide +kernel
theorem dL_isBounded_126 : decode cL_isBounded 126 = .ok (.sipush 1000, 3) := by decide +kernel
theorem dL_isBounded_129 : decode cL_isBounded 129 = .ok (.if_icmp .ne 37, 3) := by decide +kernel
theorem dL_isBounded_132 : decode cL_isBounded 132 = .ok (.aload_n 1, 1) := by decide +kernel
theorem dL_isBounded_133 : decode cL_isBounded 133 = .ok (.bipush 14, 2) := by decide +kernel
theorem dL_isBounded_135 : decode cL_isBounded 135 = .ok (.iload_n 0, 1) := by decide +kernel
theorem dL_isBounded_136 : decode cL_isBounded 136 = .ok (.bipush 70, 2) := by decide +kernel
theorem dL_isBounded_138 : decode cL_isBounded 138 = .ok (.irem, 1) := by decide +kernel
theorem dL_isBounded_139 : decode cL_isBounded 139 = .ok (.invokevirtual 12, 3) := by decide +kernel
theorem dL_isBounded_142 : decode cL_isBounded 142 = .ok (.ifCond .ne 24, 3) := by decide +kernel
theorem dL_isBounded_145 : decode cL_isBounded 145 = .ok (.aload_n 1, 1) := by decide +kernel
theorem dL_isBounded_146 : decode cL_isBounded 146 = .ok (.iload_n 0, 1) := by decide +kernel
theorem dL_isBounded_147 : decode cL_isBounded 147 = .ok (.iconst 4, 1) := by decide +kernel
theorem dL_isBounded_148 : decode cL_isBounded 148 = .ok (.ishr, 1) := by decide +kernel
theorem dL_isBounded_149 : decode cL_isBounded 149 = .ok (.ldc 53, 2) := by decide +kernel
theorem dL_isBounded_151 : decode cL_isBounded 151 = .ok (.irem, 1) := by decide +kernel
theorem dL_isBounded_152 : decode cL_isBounded 152 = .ok (.sipush 20000, 3) := by decide +kernel
theorem dL_isBounded_155 : decode cL_isBounded 155 = .ok (.isub, 1) := by decide +kernel
theorem dL_isBounded_156 : decode cL_isBounded 156 = .ok (.invokevirtual 17, 3) := by decide +kernel
theorem dL_isBounded_159 : decode cL_isBounded 159 = .ok (.ifCond .ne 7, 3) := by decide +kernel
theorem dL_isBounded_162 : decode cL_isBounded 162 = .ok (.iconst 1, 1) := by decide +kernel
theorem dL_isBounded_163 : decode cL_isBounded 163 = .ok (.goto 4, 3) := by decide +kernel
theorem dL_isBounded_166 : decode cL_isBounded 166 = .ok (.iconst 0, 1) := by decide +kernel
theorem dL_isBounded_167 : decode cL_isBounded 167 = .ok (.istore 6, 2) := by decide +kernel
theorem dL_isBounded_169 : decode cL_isBounded 169 = .ok (.iconst 0, 1) := by decide +kernel
theorem dL_isBounded_170 : decode cL_isBounded 170 = .ok (.istore 7, 2) := by decide +kernel
theorem dL_isBounded_172 : decode cL_isBounded 172 = .ok (.iconst 0, 1) := by decide +kernel
theorem dL_isBounded_173 : decode cL_isBounded 173 = .ok (.istore 8, 2) := by decide +kernel
theorem dL_isBounded_175 : decode cL_isBounded 175 = .ok (.iconst 0, 1) := by decide +kernel
theorem dL_isBounded_176 : decode cL_isBounded 176 = .ok (.istore 9, 2) := by decide +kernel
theorem dL_isBounded_178 : decode cL_isBounded 178 = .ok (.iconst 0, 1) := by decide +kernel
theorem dL_isBounded_179 : decode cL_isBounded 179 = .ok (.istore 10, 2) := by decide +kernel
theorem dL_isBounded_181 : decode cL_isBounded 181 = .ok (.iconst 0, 1) := by decide +kernel
theorem dL_isBounded_182 : decode cL_isBounded 182 = .ok (.istore 11, 2) := by decide +kernel
theorem dL_isBounded_184 : decode cL_isBounded 184 = .ok (.iload 11, 2) := by decide +kernel
theorem dL_isBounded_186 : decode cL_isBounded 186 = .ok (.bipush 60, 2) := by decide +kernel
theorem dL_isBounded_188 : decode cL_isBounded 188 = .ok (.if_icmp .ge 211, 3) := by decide +kernel
theorem dL_isBounded_191 : decode cL_isBounded 191 = .ok (.iload 6, 2) := by decide +kernel
theorem dL_isBounded_193 : decode cL_isBounded 193 = .ok (.ifCond .eq 206, 3) := by decide +kernel
theorem dL_isBounded_196 : decode cL_isBounded 196 = .ok (.aload_n 1, 1) := by decide +kernel
theorem dL_isBounded_197 : decode cL_isBounded 197 = .ok (.iconst 1, 1) := by decide +kernel
theorem dL_isBounded_198 : decode cL_isBounded 198 = .ok (.invokevirtual 24, 3) := by decide +kernel
theorem dL_isBounded_201 : decode cL_isBounded 201 = .ok (.iload 11, 2) := by decide +kernel
theorem dL_isBounded_203 : decode cL_isBounded 203 = .ok (.iconst 1, 1) := by decide +kernel
theorem dL_isBounded_204 : decode cL_isBounded 204 = .ok (.iadd, 1) := by decide +kernel
theorem dL_isBounded_205 : decode cL_isBounded 205 = .ok (.if_icmp .ne 7, 3) := by decide +kernel
theorem dL_isBounded_208 : decode cL_isBounded 208 = .ok (.iconst 1, 1) := by decide +kernel
theorem dL_isBounded_209 : decode cL_isBounded 209 = .ok (.goto 4, 3) := by decide +kernel
theorem dL_isBounded_212 : decode cL_isBounded 212 = .ok (.iconst 0, 1) := by decide +kernel
theorem dL_isBounded_213 : decode cL_isBounded 213 = .ok (.istore 6, 2) := by decide +kernel
theorem dL_isBounded_215 : decode cL_isBounded 215 = .ok (.aload_n 1, 1) := by decide +kernel
theorem dL_isBounded_216 : decode cL_isBounded 216 = .ok (.iconst 2, 1) := by decide +kernel
theorem dL_isBounded_217 : decode cL_isBounded 217 = .ok (.invokevirtual 27, 3) := by decide +kernel
theorem dL_isBounded_220 : decode cL_isBounded 220 = .ok (.istore 12, 2) := by decide +kernel
theorem dL_isBounded_222 : decode cL_isBounded 222 = .ok (.aload_n 1, 1) := by decide +kernel
theorem dL_isBounded_223 : decode cL_isBounded 223 = .ok (.iconst 1, 1) := by decide +kernel
theorem dL_isBounded_224 : decode cL_isBounded 224 = .ok (.invokevirtual 27, 3) := by decide +kernel
theorem dL_isBounded_227 : decode cL_isBounded 227 = .ok (.aload_n 1, 1) := by decide +kernel
theorem dL_isBounded_228 : decode cL_isBounded 228 = .ok (.iconst 4, 1) := by decide +kernel
theorem dL_isBounded_229 : decode cL_isBounded 229 = .ok (.invokevirtual 27, 3) := by decide +kernel
theorem dL_isBounded_232 : decode cL_isBounded 232 = .ok (.isub, 1) := by decide +kernel
theorem dL_isBounded_233 : decode cL_isBounded 233 = .ok (.istore 13, 2) := by decide +kernel
theorem dL_isBounded_235 : decode cL_isBounded 235 = .ok (.iload 13, 2) := by decide +kernel
theorem dL_isBounded_237 : decode cL_isBounded 237 = .ok (.bipush 100, 2) := by decide +kernel
theorem dL_isBounded_239 : decode cL_isBounded 239 = .ok (.if_icmp .gt 10, 3) := by decide +kernel
theorem dL_isBounded_242 : decode cL_isBounded 242 = .ok (.iload 13, 2) := by decide +kernel
theorem dL_isBounded_244 : decode cL_isBounded 244 = .ok (.bipush (-100), 2) := by decide +kernel
theorem dL_isBounded_246 : decode cL_isBounded 246 = .ok (.if_icmp .ge 7, 3) := by decide +kernel
theorem dL_isBounded_249 : decode cL_isBounded 249 = .ok (.iconst 1, 1) := by decide +kernel
theorem dL_isBounded_250 : decode cL_isBounded 250 = .ok (.goto 4, 3) := by decide +kernel
theorem dL_isBounded_253 : decode cL_isBounded 253 = .ok (.iconst 0, 1) := by decide +kernel
theorem dL_isBounded_254 : decode cL_isBounded 254 = .ok (.istore 14, 2) := by decide +kernel
theorem dL_isBounded_256 : decode cL_isBounded 256 = .ok (.iload 14, 2) := by decide +kernel
theorem dL_isBounded_258 : decode cL_isBounded 258 = .ok (.ifCond .eq 10, 3) := by decide +kernel
theorem dL_isBounded_261 : decode cL_isBounded 261 = .ok (.iload 9, 2) := by decide +kernel
theorem dL_isBounded_263 : decode cL_isBounded 263 = .ok (.iconst 1, 1) := by decide +kernel
theorem dL_isBounded_264 : decode cL_isBounded 264 = .ok (.iadd, 1) := by decide +kernel
theorem dL_isBounded_265 : decode cL_isBounded 265 = .ok (.goto 4, 3) := by decide +kernel
theorem dL_isBounded_268 : decode cL_isBounded 268 = .ok (.iconst 0, 1) := by decide +kernel
theorem dL_isBounded_269 : decode cL_isBounded 269 = .ok (.istore 9, 2) := by decide +kernel
theorem dL_isBounded_271 : decode cL_isBounded 271 = .ok (.iload 14, 2) := by decide +kernel
theorem dL_isBounded_273 : decode cL_isBounded 273 = .ok (.ifCond .eq 7, 3) := by decide +kernel
theorem dL_isBounded_276 : decode cL_isBounded 276 = .ok (.iconst 0, 1) := by decide +kernel
theorem dL_isBounded_277 : decode cL_isBounded 277 = .ok (.goto 7, 3) := by decide +kernel
theorem dL_isBounded_280 : decode cL_isBounded 280 = .ok (.iload 10, 2) := by decide +kernel
theorem dL_isBounded_282 : decode cL_isBounded 282 = .ok (.iconst 1, 1) := by decide +kernel
theorem dL_isBounded_283 : decode cL_isBounded 283 = .ok (.iadd, 1) := by decide +kernel
theorem dL_isBounded_284 : decode cL_isBounded 284 = .ok (.istore 10, 2) := by decide +kernel
theorem dL_isBounded_286 : decode cL_isBounded 286 = .ok (.iload 8, 2) := by decide +kernel
theorem dL_isBounded_288 : decode cL_isBounded 288 = .ok (.ifCond .ne 13, 3) := by decide +kernel
theorem dL_isBounded_291 : decode cL_isBounded 291 = .ok (.iload 9, 2) := by decide +kernel
theorem dL_isBounded_293 : decode cL_isBounded 293 = .ok (.iload 5, 2) := by decide +kernel
theorem dL_isBounded_295 : decode cL_isBounded 295 = .ok (.if_icmp .lt 27, 3) := by decide +kernel
theorem dL_isBounded_298 : decode cL_isBounded 298 = .ok (.goto 12, 3) := by decide +kernel
theorem dL_isBounded_301 : decode cL_isBounded 301 = .ok (.iload 10, 2) := by decide +kernel
theorem dL_isBounded_303 : decode cL_isBounded 303 = .ok (.iconst 2, 1) := by decide +kernel
theorem dL_isBounded_304 : decode cL_isBounded 304 = .ok (.iload 5, 2) := by decide +kernel
theorem dL_isBounded_306 : decode cL_isBounded 306 = .ok (.imul, 1) := by decide +kernel
theorem dL_isBounded_307 : decode cL_isBounded 307 = .ok (.if_icmp .lt 15, 3) := by decide +kernel
theorem dL_isBounded_310 : decode cL_isBounded 310 = .ok (.iconst 1, 1) := by decide +kernel
theorem dL_isBounded_311 : decode cL_isBounded 311 = .ok (.iload 8, 2) := by decide +kernel
theorem dL_isBounded_313 : decode cL_isBounded 313 = .ok (.isub, 1) := by decide +kernel
theorem dL_isBounded_314 : decode cL_isBounded 314 = .ok (.istore 8, 2) := by decide +kernel
theorem dL_isBounded_316 : decode cL_isBounded 316 = .ok (.iconst 0, 1) := by decide +kernel
theorem dL_isBounded_317 : decode cL_isBounded 317 = .ok (.istore 9, 2) := by decide +kernel
theorem dL_isBounded_319 : decode cL_isBounded 319 = .ok (.iconst 0, 1) := by decide +kernel
theorem dL_isBounded_320 : decode cL_isBounded 320 = .ok (.istore 10, 2) := by decide +kernel
theorem dL_isBounded_322 : decode cL_isBounded 322 = .ok (.iload 6, 2) := by decide +kernel
theorem dL_isBounded_324 : decode cL_isBounded 324 = .ok (.ifCond .eq 62, 3) := by decide +kernel
theorem dL_isBounded_327 : decode cL_isBounded 327 = .ok (.iload 12, 2) := by decide +kernel
theorem dL_isBounded_329 : decode cL_isBounded 329 = .ok (.iload_n 2, 1) := by decide +kernel
theorem dL_isBounded_330 : decode cL_isBounded 330 = .ok (.if_icmp .gt 56, 3) := by decide +kernel
theorem dL_isBounded_333 : decode cL_isBounded 333 = .ok (.iload 12, 2) := by decide +kernel
theorem dL_isBounded_335 : decode cL_isBounded 335 = .ok (.iload_n 3, 1) := by decide +kernel
theorem dL_isBounded_336 : decode cL_isBounded 336 = .ok (.if_icmp .lt 50, 3) := by decide +kernel
theorem dL_isBounded_339 : decode cL_isBounded 339 = .ok (.iload 12, 2) := by decide +kernel
theorem dL_isBounded_341 : decode cL_isBounded 341 = .ok (.iload 7, 2) := by decide +kernel
theorem dL_isBounded_343 : decode cL_isBounded 343 = .ok (.isub, 1) := by decide +kernel
theorem dL_isBounded_344 : decode cL_isBounded 344 = .ok (.iload 4, 2) := by decide +kernel
theorem dL_isBounded_346 : decode cL_isBounded 346 = .ok (.if_icmp .gt 40, 3) := by decide +kernel
theorem dL_isBounded_349 : decode cL_isBounded 349 = .ok (.iload 7, 2) := by decide +kernel
theorem dL_isBounded_351 : decode cL_isBounded 351 = .ok (.iload 12, 2) := by decide +kernel
theorem dL_isBounded_353 : decode cL_isBounded 353 = .ok (.isub, 1) := by decide +kernel
theorem dL_isBounded_354 : decode cL_isBounded 354 = .ok (.iload 4, 2) := by decide +kernel
theorem dL_isBounded_356 : decode cL_isBounded 356 = .ok (.if_icmp .gt 30, 3) := by decide +kernel
theorem dL_isBounded_359 : decode cL_isBounded 359 = .ok (.aload_n 1, 1) := by decide +kernel
theorem dL_isBounded_360 : decode cL_isBounded 360 = .ok (.bipush 9, 2) := by decide +kernel
theorem dL_isBounded_362 : decode cL_isBounded 362 = .ok (.invokevirtual 27, 3) := by decide +kernel
theorem dL_isBounded_365 : decode cL_isBounded 365 = .ok (.iload 8, 2) := by decide +kernel
theorem dL_isBounded_367 : decode cL_isBounded 367 = .ok (.if_icmp .ne 19, 3) := by decide +kernel
theorem dL_isBounded_370 : decode cL_isBounded 370 = .ok (.aload_n 1, 1) := by decide +kernel
theorem dL_isBounded_371 : decode cL_isBounded 371 = .ok (.bipush 9, 2) := by decide +kernel
theorem dL_isBounded_373 : decode cL_isBounded 373 = .ok (.iconst 0, 1) := by decide +kernel
theorem dL_isBounded_374 : decode cL_isBounded 374 = .ok (.invokevirtual 54, 3) := by decide +kernel
theorem dL_isBounded_377 : decode cL_isBounded 377 = .ok (.iload 8, 2) := by decide +kernel
theorem dL_isBounded_379 : decode cL_isBounded 379 = .ok (.if_icmp .ne 7, 3) := by decide +kernel
theorem dL_isBounded_382 : decode cL_isBounded 382 = .ok (.iconst 1, 1) := by decide +kernel
theorem dL_isBounded_383 : decode cL_isBounded 383 = .ok (.goto 4, 3) := by decide +kernel
theorem dL_isBounded_386 : decode cL_isBounded 386 = .ok (.iconst 0, 1) := by decide +kernel
theorem dL_isBounded_387 : decode cL_isBounded 387 = .ok (.istore 6, 2) := by decide +kernel
theorem dL_isBounded_389 : decode cL_isBounded 389 = .ok (.iload 12, 2) := by decide +kernel
theorem dL_isBounded_391 : decode cL_isBounded 391 = .ok (.istore 7, 2) := by decide +kernel
theorem dL_isBounded_393 : decode cL_isBounded 393 = .ok (.iinc 11 1, 3) := by decide +kernel
theorem dL_isBounded_396 : decode cL_isBounded 396 = .ok (.goto (-212), 3) := by decide +kernel
theorem dL_isBounded_399 : decode cL_isBounded 399 = .ok (.iload 6, 2) := by decide +kernel
theorem dL_isBounded_401 : decode cL_isBounded 401 = .ok (.ifCond .eq 45, 3) := by decide +kernel
theorem dL_isBounded_404 : decode cL_isBounded 404 = .ok (.aload_n 1, 1) := by decide +kernel
theorem dL_isBounded_405 : decode cL_isBounded 405 = .ok (.iconst 3, 1) := by decide +kernel
theorem dL_isBounded_406 : decode cL_isBounded 406 = .ok (.invokevirtual 44, 3) := by decide +kernel
theorem dL_isBounded_409 : decode cL_isBounded 409 = .ok (.ldc2_w 57, 3) := by decide +kernel
theorem dL_isBounded_412 : decode cL_isBounded 412 = .ok (.lcmp, 1) := by decide +kernel
theorem dL_isBounded_413 : decode cL_isBounded 413 = .ok (.ifCond .ne 33, 3) := by decide +kernel
theorem dL_isBounded_416 : decode cL_isBounded 416 = .ok (.aload_n 1, 1) := by decide +kernel
theorem dL_isBounded_417 : decode cL_isBounded 417 = .ok (.iconst 2, 1) := by decide +kernel
theorem dL_isBounded_418 : decode cL_isBounded 418 = .ok (.invokevirtual 44, 3) := by decide +kernel
theorem dL_isBounded_421 : decode cL_isBounded 421 = .ok (.lconst 0, 1) := by decide +kernel
theorem dL_isBounded_422 : decode cL_isBounded 422 = .ok (.lcmp, 1) := by decide +kernel
theorem dL_isBounded_423 : decode cL_isBounded 423 = .ok (.ifCond .lt 23, 3) := by decide +kernel
theorem dL_isBounded_426 : decode cL_isBounded 426 = .ok (.aload_n 1, 1) := by decide +kernel
theorem dL_isBounded_427 : decode cL_isBounded 427 = .ok (.invokevirtual 59, 3) := by decide +kernel
theorem dL_isBounded_430 : decode cL_isBounded 430 = .ok (.iconst 5, 1) := by decide +kernel
theorem dL_isBounded_431 : decode cL_isBounded 431 = .ok (.if_icmp .ne 15, 3) := by decide +kernel
theorem dL_isBounded_434 : decode cL_isBounded 434 = .ok (.aload_n 1, 1) := by decide +kernel
theorem dL_isBounded_435 : decode cL_isBounded 435 = .ok (.invokevirtual 59, 3) := by decide +kernel
theorem dL_isBounded_438 : decode cL_isBounded 438 = .ok (.iconst 4, 1) := by decide +kernel
theorem dL_isBounded_439 : decode cL_isBounded 439 = .ok (.if_icmp .ne 7, 3) := by decide +kernel
theorem dL_isBounded_442 : decode cL_isBounded 442 = .ok (.iconst 1, 1) := by decide +kernel
theorem dL_isBounded_443 : decode cL_isBounded 443 = .ok (.goto 4, 3) := by decide +kernel
theorem dL_isBounded_446 : decode cL_isBounded 446 = .ok (.iconst 0, 1) := by decide +kernel
theorem dL_isBounded_447 : decode cL_isBounded 447 = .ok (.ireturn, 1) := by decide +kernel

theorem dX7_ticks_15 : decode cX7_ticks 15 = .ok (.aload_n 0, 1) := by decide +kernel
theorem dX7_ticks_16 : decode cX7_ticks 16 = .ok (.invokevirtual 160, 3) := by decide +kernel
theorem dX7_ticks_19 : decode cX7_ticks 19 = .ok (.ladd, 1) := by decide +kernel
theorem dX7_ticks_20 : decode cX7_ticks 20 = .ok (.lastore, 1) := by decide +kernel
theorem dX7_ticks_21 : decode cX7_ticks 21 = .ok (.aload_n 0, 1) := by decide +kernel
theorem dX7_ticks_22 : decode cX7_ticks 22 = .ok (.iconst 3, 1) := by decide +kernel
theorem dX7_ticks_23 : decode cX7_ticks 23 = .ok (.aload_n 0, 1) := by decide +kernel
theorem dX7_ticks_24 : decode cX7_ticks 24 = .ok (.getfield 7, 3) := by decide +kernel
theorem dX7_ticks_27 : decode cX7_ticks 27 = .ok (.sipush 645, 3) := by decide +kernel
theorem dX7_ticks_30 : decode cX7_ticks 30 = .ok (.laload, 1) := by decide +kernel
theorem dX7_ticks_31 : decode cX7_ticks 31 = .ok (.invokevirtual 164, 3) := by decide +kernel
theorem dX7_ticks_34 : decode cX7_ticks 34 = .ok (.aload_n 0, 1) := by decide +kernel
theorem dX7_ticks_35 : decode cX7_ticks 35 = .ok (.bipush 8, 2) := by decide +kernel
theorem dX7_ticks_37 : decode cX7_ticks 37 = .ok (.aload_n 0, 1) := by decide +kernel
theorem dX7_ticks_38 : decode cX7_ticks 38 = .ok (.getfield 7, 3) := by decide +kernel
theorem dX7_ticks_41 : decode cX7_ticks 41 = .ok (.sipush 644, 3) := by decide +kernel
theorem dX7_ticks_44 : decode cX7_ticks 44 = .ok (.laload, 1) := by decide +kernel
theorem dX7_ticks_45 : decode cX7_ticks 45 = .ok (.invokevirtual 164, 3) := by decide +kernel
theorem dX7_ticks_48 : decode cX7_ticks 48 = .ok (.aload_n 0, 1) := by decide +kernel
theorem dX7_ticks_49 : decode cX7_ticks 49 = .ok (.getfield 7, 3) := by decide +kernel
theorem dX7_ticks_52 : decode cX7_ticks 52 = .ok (.sipush 653, 3) := by decide +kernel
theorem dX7_ticks_55 : decode cX7_ticks 55 = .ok (.aload_n 0, 1) := by decide +kernel
theorem dX7_ticks_56 : decode cX7_ticks 56 = .ok (.iconst 3, 1) := by decide +kernel
theorem dX7_ticks_57 : decode cX7_ticks 57 = .ok (.aload_n 0, 1) := by decide +kernel
theorem dX7_ticks_58 : decode cX7_ticks 58 = .ok (.getfield 19, 3) := by decide +kernel
theorem dX7_ticks_61 : decode cX7_ticks 61 = .ok (.bipush 7, 2) := by decide +kernel
theorem dX7_ticks_63 : decode cX7_ticks 63 = .ok (.iaload, 1) := by decide +kernel
theorem dX7_ticks_64 : decode cX7_ticks 64 = .ok (.invokevirtual 168, 3) := by decide +kernel
theorem dX7_ticks_67 : decode cX7_ticks 67 = .ok (.lastore, 1) := by decide +kernel
theorem dX7_ticks_68 : decode cX7_ticks 68 = .ok (.aload_n 0, 1) := by decide +kernel
theorem dX7_ticks_69 : decode cX7_ticks 69 = .ok (.getfield 7, 3) := by decide +kernel
theorem dX7_ticks_72 : decode cX7_ticks 72 = .ok (.sipush 652, 3) := by decide +kernel
theorem dX7_ticks_75 : decode cX7_ticks 75 = .ok (.laload, 1) := by decide +kernel
theorem dX7_ticks_76 : decode cX7_ticks 76 = .ok (.aload_n 0, 1) := by decide +kernel
theorem dX7_ticks_77 : decode cX7_ticks 77 = .ok (.getfield 7, 3) := by decide +kernel
theorem dX7_ticks_80 : decode cX7_ticks 80 = .ok (.sipush 653, 3) := by decide +kernel
theorem dX7_ticks_83 : decode cX7_ticks 83 = .ok (.laload, 1) := by decide +kernel
theorem dX7_ticks_84 : decode cX7_ticks 84 = .ok (.lsub, 1) := by decide +kernel
theorem dX7_ticks_85 : decode cX7_ticks 85 = .ok (.lstore_n 1, 1) := by decide +kernel
theorem dX7_ticks_86 : decode cX7_ticks 86 = .ok (.aload_n 0, 1) := by decide +kernel
theorem dX7_ticks_87 : decode cX7_ticks 87 = .ok (.getfield 7, 3) := by decide +kernel
theorem dX7_ticks_90 : decode cX7_ticks 90 = .ok (.sipush 646, 3) := by decide +kernel
theorem dX7_ticks_93 : decode cX7_ticks 93 = .ok (.aload_n 0, 1) := by decide +kernel
theorem dX7_ticks_94 : decode cX7_ticks 94 = .ok (.aload_n 0, 1) := by decide +kernel
theorem dX7_ticks_95 : decode cX7_ticks 95 = .ok (.getfield 7, 3) := by decide +kernel
theorem dX7_ticks_98 : decode cX7_ticks 98 = .ok (.sipush 646, 3) := by decide +kernel
theorem dX7_ticks_101 : decode cX7_ticks 101 = .ok (.laload, 1) := by decide +kernel
theorem dX7_ticks_102 : decode cX7_ticks 102 = .ok (.lload_n 1, 1) := by decide +kernel
theorem dX7_ticks_103 : decode cX7_ticks 103 = .ok (.sipush 1000, 3) := by decide +kernel
theorem dX7_ticks_106 : decode cX7_ticks 106 = .ok (.aload_n 0, 1) := by decide +kernel
theorem dX7_ticks_107 : decode cX7_ticks 107 = .ok (.getfield 19, 3) := by decide +kernel
theorem dX7_ticks_110 : decode cX7_ticks 110 = .ok (.bipush 8, 2) := by decide +kernel
theorem dX7_ticks_112 : decode cX7_ticks 112 = .ok (.iaload, 1) := by decide +kernel
theorem dX7_ticks_113 : decode cX7_ticks 113 = .ok (.isub, 1) := by decide +kernel
theorem dX7_ticks_114 : decode cX7_ticks 114 = .ok (.invokevirtual 172, 3) := by decide +kernel
theorem dX7_ticks_117 : decode cX7_ticks 117 = .ok (.lastore, 1) := by decide +kernel
theorem dX7_ticks_118 : decode cX7_ticks 118 = .ok (.aload_n 0, 1) := by decide +kernel
theorem dX7_ticks_119 : decode cX7_ticks 119 = .ok (.lload_n 1, 1) := by decide +kernel
theorem dX7_ticks_120 : decode cX7_ticks 120 = .ok (.invokevirtual 176, 3) := by decide +kernel
theorem dX7_ticks_123 : decode cX7_ticks 123 = .ok (.aload_n 0, 1) := by decide +kernel
theorem dX7_ticks_124 : decode cX7_ticks 124 = .ok (.invokevirtual 180, 3) := by decide +kernel
theorem dX7_ticks_127 : decode cX7_ticks 127 = .ok (.aload_n 0, 1) := by decide +kernel
theorem dX7_ticks_128 : decode cX7_ticks 128 = .ok (.iconst 2, 1) := by decide +kernel
theorem dX7_ticks_129 : decode cX7_ticks 129 = .ok (.aload_n 0, 1) := by decide +kernel
theorem dX7_ticks_130 : decode cX7_ticks 130 = .ok (.getfield 7, 3) := by decide +kernel
theorem dX7_ticks_133 : decode cX7_ticks 133 = .ok (.sipush 651, 3) := by decide +kernel
theorem dX7_ticks_136 : decode cX7_ticks 136 = .ok (.laload, 1) := by decide +kernel
theorem dX7_ticks_137 : decode cX7_ticks 137 = .ok (.invokevirtual 164, 3) := by decide +kernel
theorem dX7_ticks_140 : decode cX7_ticks 140 = .ok (.aload_n 0, 1) := by decide +kernel
theorem dX7_ticks_141 : decode cX7_ticks 141 = .ok (.iconst 2, 1) := by decide +kernel
theorem dX7_ticks_142 : decode cX7_ticks 142 = .ok (.aload_n 0, 1) := by decide +kernel
theorem dX7_ticks_143 : decode cX7_ticks 143 = .ok (.getfield 156, 3) := by decide +kernel
theorem dX7_ticks_146 : decode cX7_ticks 146 = .ok (.ifCond .eq 7, 3) := by decide +kernel
theorem dX7_ticks_149 : decode cX7_ticks 149 = .ok (.iconst 0, 1) := by decide +kernel
theorem dX7_ticks_150 : decode cX7_ticks 150 = .ok (.goto 9, 3) := by decide +kernel
theorem dX7_ticks_153 : decode cX7_ticks 153 = .ok (.aload_n 0, 1) := by decide +kernel
theorem dX7_ticks_154 : decode cX7_ticks 154 = .ok (.getfield 19, 3) := by decide +kernel
theorem dX7_ticks_157 : decode cX7_ticks 157 = .ok (.iconst 4, 1) := by decide +kernel
theorem dX7_ticks_158 : decode cX7_ticks 158 = .ok (.iaload, 1) := by decide +kernel
theorem dX7_ticks_159 : decode cX7_ticks 159 = .ok (.invokevirtual 168, 3) := by decide +kernel
theorem dX7_ticks_162 : decode cX7_ticks 162 = .ok (.lstore_n 3, 1) := by decide +kernel
theorem dX7_ticks_163 : decode cX7_ticks 163 = .ok (.aload_n 0, 1) := by decide +kernel
theorem dX7_ticks_164 : decode cX7_ticks 164 = .ok (.iconst 0, 1) := by decide +kernel
theorem dX7_ticks_165 : decode cX7_ticks 165 = .ok (.aload_n 0, 1) := by decide +kernel
theorem dX7_ticks_166 : decode cX7_ticks 166 = .ok (.getfield 7, 3) := by decide +kernel
theorem dX7_ticks_169 : decode cX7_ticks 169 = .ok (.sipush 641, 3) := by decide +kernel
theorem dX7_ticks_172 : decode cX7_ticks 172 = .ok (.laload, 1) := by decide +kernel
theorem dX7_ticks_173 : decode cX7_ticks 173 = .ok (.invokevirtual 164, 3) := by decide +kernel
theorem dX7_ticks_176 : decode cX7_ticks 176 = .ok (.aload_n 0, 1) := by decide +kernel
theorem dX7_ticks_177 : decode cX7_ticks 177 = .ok (.iconst 1, 1) := by decide +kernel
theorem dX7_ticks_178 : decode cX7_ticks 178 = .ok (.aload_n 0, 1) := by decide +kernel
theorem dX7_ticks_179 : decode cX7_ticks 179 = .ok (.getfield 7, 3) := by decide +kernel
theorem dX7_ticks_182 : decode cX7_ticks 182 = .ok (.sipush 652, 3) := by decide +kernel
theorem dX7_ticks_185 : decode cX7_ticks 185 = .ok (.laload, 1) := by decide +kernel
theorem dX7_ticks_186 : decode cX7_ticks 186 = .ok (.invokevirtual 164, 3) := by decide +kernel
theorem dX7_ticks_189 : decode cX7_ticks 189 = .ok (.aload_n 0, 1) := by decide +kernel
theorem dX7_ticks_190 : decode cX7_ticks 190 = .ok (.iconst 4, 1) := by decide +kernel
theorem dX7_ticks_191 : decode cX7_ticks 191 = .ok (.aload_n 0, 1) := by decide +kernel
theorem dX7_ticks_192 : decode cX7_ticks 192 = .ok (.getfield 7, 3) := by decide +kernel
theorem dX7_ticks_195 : decode cX7_ticks 195 = .ok (.sipush 653, 3) := by decide +kernel
theorem dX7_ticks_198 : decode cX7_ticks 198 = .ok (.laload, 1) := by decide +kernel
theorem dX7_ticks_199 : decode cX7_ticks 199 = .ok (.invokevirtual 164, 3) := by decide +kernel
theorem dX7_ticks_202 : decode cX7_ticks 202 = .ok (.aload_n 0, 1) := by decide +kernel
theorem dX7_ticks_203 : decode cX7_ticks 203 = .ok (.iconst 5, 1) := by decide +kernel
theorem dX7_ticks_204 : decode cX7_ticks 204 = .ok (.aload_n 0, 1) := by decide +kernel
theorem dX7_ticks_205 : decode cX7_ticks 205 = .ok (.getfield 7, 3) := by decide +kernel
theorem dX7_ticks_208 : decode cX7_ticks 208 = .ok (.sipush 646, 3) := by decide +kernel
theorem dX7_ticks_211 : decode cX7_ticks 211 = .ok (.laload, 1) := by decide +kernel
theorem dX7_ticks_212 : decode cX7_ticks 212 = .ok (.invokevirtual 164, 3) := by decide +kernel
theorem dX7_ticks_215 : decode cX7_ticks 215 = .ok (.aload_n 0, 1) := by decide +kernel
theorem dX7_ticks_216 : decode cX7_ticks 216 = .ok (.bipush 6, 2) := by decide +kernel
theorem dX7_ticks_218 : decode cX7_ticks 218 = .ok (.aload_n 0, 1) := by decide +kernel
theorem dX7_ticks_219 : decode cX7_ticks 219 = .ok (.getfield 7, 3) := by decide +kernel
theorem dX7_ticks_222 : decode cX7_ticks 222 = .ok (.sipush 654, 3) := by decide +kernel
theorem dX7_ticks_225 : decode cX7_ticks 225 = .ok (.laload, 1) := by decide +kernel
theorem dX7_ticks_226 : decode cX7_ticks 226 = .ok (.invokevirtual 164, 3) := by decide +kernel
theorem dX7_ticks_229 : decode cX7_ticks 229 = .ok (.aload_n 0, 1) := by decide +kernel
theorem dX7_ticks_230 : decode cX7_ticks 230 = .ok (.bipush 7, 2) := by decide +kernel
theorem dX7_ticks_232 : decode cX7_ticks 232 = .ok (.aload_n 0, 1) := by decide +kernel
theorem dX7_ticks_233 : decode cX7_ticks 233 = .ok (.getfield 7, 3) := by decide +kernel
theorem dX7_ticks_236 : decode cX7_ticks 236 = .ok (.sipush 647, 3) := by decide +kernel
theorem dX7_ticks_239 : decode cX7_ticks 239 = .ok (.laload, 1) := by decide +kernel
theorem dX7_ticks_240 : decode cX7_ticks 240 = .ok (.invokevirtual 164, 3) := by decide +kernel
theorem dX7_ticks_243 : decode cX7_ticks 243 = .ok (.aload_n 0, 1) := by decide +kernel
theorem dX7_ticks_244 : decode cX7_ticks 244 = .ok (.bipush 9, 2) := by decide +kernel
theorem dX7_ticks_246 : decode cX7_ticks 246 = .ok (.aload_n 0, 1) := by decide +kernel
theorem dX7_ticks_247 : decode cX7_ticks 247 = .ok (.getfield 7, 3) := by decide +kernel
theorem dX7_ticks_250 : decode cX7_ticks 250 = .ok (.sipush 648, 3) := by decide +kernel
theorem dX7_ticks_253 : decode cX7_ticks 253 = .ok (.laload, 1) := by decide +kernel
theorem dX7_ticks_254 : decode cX7_ticks 254 = .ok (.invokevirtual 164, 3) := by decide +kernel

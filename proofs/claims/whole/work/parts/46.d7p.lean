set_option maxRecDepth 20000 in
theorem ggX7_idealDifference_X7_size : GoodIn wsX7_idealDifference wsX7_size := goodIn_r _ [61] (by decide +kernel) (by decide +kernel)
set_option maxRecDepth 20000 in
theorem gX7_idealDifference_X7_size : GoodIn wsX7_idealDifference (va_wsS RX7 152 yX7_size wsX7_size) := goodIn_app (goodIn_of _ (by decide +kernel)) ggX7_idealDifference_X7_size
set_option maxRecDepth 20000 in
theorem ggX7_idealDifference_X7_putsBack : GoodIn wsX7_idealDifference wsX7_putsBack := goodIn_r _ [77, 4, 15, 3, 16, 78, 79, 80, 81, 82, 83, 84, 85, 86, 87, 88, 89, 90, 91, 92, 93, 94, 95] (by decide +kernel) (by decide +kernel)
set_option maxRecDepth 20000 in
theorem gX7_idealDifference_X7_putsBack : GoodIn wsX7_idealDifference (wsV RX7 235 RX7 yX7_putsBack wsX7_putsBack) := goodIn_app (goodIn_of _ (by decide +kernel)) ggX7_idealDifference_X7_putsBack
theorem dX7_idealDifference_0 : decode cX7_idealDifference 0 = .ok (.iload_n 1, 1) := by decide +kernel
theorem dX7_idealDifference_1 : decode cX7_idealDifference 1 = .ok (.i2l, 1) := by decide +kernel
theorem dX7_idealDifference_2 : decode cX7_idealDifference 2 = .ok (.lconst 1, 1) := by decide +kernel
theorem dX7_idealDifference_3 : decode cX7_idealDifference 3 = .ok (.ldc2_w 240, 3) := by decide +kernel
theorem dX7_idealDifference_6 : decode cX7_idealDifference 6 = .ok (.invokestatic 66, 3) := by decide +kernel
theorem dX7_idealDifference_9 : decode cX7_idealDifference 9 = .ok (.ifCond .ne 6, 3) := by decide +kernel
theorem dX7_idealDifference_12 : decode cX7_idealDifference 12 = .ok (.ldc 74, 2) := by decide +kernel
theorem dX7_idealDifference_14 : decode cX7_idealDifference 14 = .ok (.ireturn, 1) := by decide +kernel
theorem dX7_idealDifference_15 : decode cX7_idealDifference 15 = .ok (.aload_n 0, 1) := by decide +kernel
theorem dX7_idealDifference_16 : decode cX7_idealDifference 16 = .ok (.invokevirtual 232, 3) := by decide +kernel
theorem dX7_idealDifference_19 : decode cX7_idealDifference 19 = .ok (.aload_n 0, 1) := by decide +kernel
theorem dX7_idealDifference_20 : decode cX7_idealDifference 20 = .ok (.getfield 19, 3) := by decide +kernel
theorem dX7_idealDifference_23 : decode cX7_idealDifference 23 = .ok (.iconst 4, 1) := by decide +kernel
theorem dX7_idealDifference_24 : decode cX7_idealDifference 24 = .ok (.iaload, 1) := by decide +kernel
theorem dX7_idealDifference_25 : decode cX7_idealDifference 25 = .ok (.bipush 10, 2) := by decide +kernel
theorem dX7_idealDifference_27 : decode cX7_idealDifference 27 = .ok (.idiv, 1) := by decide +kernel
theorem dX7_idealDifference_28 : decode cX7_idealDifference 28 = .ok (.istore_n 2, 1) := by decide +kernel
theorem dX7_idealDifference_29 : decode cX7_idealDifference 29 = .ok (.aload_n 0, 1) := by decide +kernel
theorem dX7_idealDifference_30 : decode cX7_idealDifference 30 = .ok (.getfield 7, 3) := by decide +kernel
theorem dX7_idealDifference_33 : decode cX7_idealDifference 33 = .ok (.sipush 641, 3) := by decide +kernel
theorem dX7_idealDifference_36 : decode cX7_idealDifference 36 = .ok (.laload, 1) := by decide +kernel
theorem dX7_idealDifference_37 : decode cX7_idealDifference 37 = .ok (.lstore_n 3, 1) := by decide +kernel
theorem dX7_idealDifference_38 : decode cX7_idealDifference 38 = .ok (.aload_n 0, 1) := by decide +kernel
theorem dX7_idealDifference_39 : decode cX7_idealDifference 39 = .ok (.getfield 19, 3) := by decide +kernel
theorem dX7_idealDifference_42 : decode cX7_idealDifference 42 = .ok (.bipush 14, 2) := by decide +kernel
theorem dX7_idealDifference_44 : decode cX7_idealDifference 44 = .ok (.iconst 0, 1) := by decide +kernel
theorem dX7_idealDifference_45 : decode cX7_idealDifference 45 = .ok (.iastore, 1) := by decide +kernel
theorem dX7_idealDifference_46 : decode cX7_idealDifference 46 = .ok (.aload_n 0, 1) := by decide +kernel
theorem dX7_idealDifference_47 : decode cX7_idealDifference 47 = .ok (.invokevirtual 204, 3) := by decide +kernel
theorem dX7_idealDifference_50 : decode cX7_idealDifference 50 = .ok (.aload_n 0, 1) := by decide +kernel
theorem dX7_idealDifference_51 : decode cX7_idealDifference 51 = .ok (.getfield 7, 3) := by decide +kernel
theorem dX7_idealDifference_54 : decode cX7_idealDifference 54 = .ok (.sipush 641, 3) := by decide +kernel
theorem dX7_idealDifference_57 : decode cX7_idealDifference 57 = .ok (.lload_n 3, 1) := by decide +kernel
theorem dX7_idealDifference_58 : decode cX7_idealDifference 58 = .ok (.lastore, 1) := by decide +kernel
theorem dX7_idealDifference_59 : decode cX7_idealDifference 59 = .ok (.iconst 0, 1) := by decide +kernel
theorem dX7_idealDifference_60 : decode cX7_idealDifference 60 = .ok (.istore 5, 2) := by decide +kernel
theorem dX7_idealDifference_62 : decode cX7_idealDifference 62 = .ok (.iload 5, 2) := by decide +kernel
theorem dX7_idealDifference_64 : decode cX7_idealDifference 64 = .ok (.iload_n 1, 1) := by decide +kernel
theorem dX7_idealDifference_65 : decode cX7_idealDifference 65 = .ok (.iload_n 2, 1) := by decide +kernel
theorem dX7_idealDifference_66 : decode cX7_idealDifference 66 = .ok (.iadd, 1) := by decide +kernel
theorem dX7_idealDifference_67 : decode cX7_idealDifference 67 = .ok (.if_icmp .gt 28, 3) := by decide +kernel
theorem dX7_idealDifference_70 : decode cX7_idealDifference 70 = .ok (.aload_n 0, 1) := by decide +kernel
theorem dX7_idealDifference_71 : decode cX7_idealDifference 71 = .ok (.getfield 41, 3) := by decide +kernel
theorem dX7_idealDifference_74 : decode cX7_idealDifference 74 = .ok (.iload 5, 2) := by decide +kernel
theorem dX7_idealDifference_76 : decode cX7_idealDifference 76 = .ok (.aload_n 0, 1) := by decide +kernel
theorem dX7_idealDifference_77 : decode cX7_idealDifference 77 = .ok (.getfield 7, 3) := by decide +kernel
theorem dX7_idealDifference_80 : decode cX7_idealDifference 80 = .ok (.sipush 644, 3) := by decide +kernel
theorem dX7_idealDifference_83 : decode cX7_idealDifference 83 = .ok (.laload, 1) := by decide +kernel
theorem dX7_idealDifference_84 : decode cX7_idealDifference 84 = .ok (.lastore, 1) := by decide +kernel
theorem dX7_idealDifference_85 : decode cX7_idealDifference 85 = .ok (.aload_n 0, 1) := by decide +kernel
theorem dX7_idealDifference_86 : decode cX7_idealDifference 86 = .ok (.invokevirtual 191, 3) := by decide +kernel
theorem dX7_idealDifference_89 : decode cX7_idealDifference 89 = .ok (.iinc 5 1, 3) := by decide +kernel
theorem dX7_idealDifference_92 : decode cX7_idealDifference 92 = .ok (.goto (-30), 3) := by decide +kernel
theorem dX7_idealDifference_95 : decode cX7_idealDifference 95 = .ok (.aload_n 0, 1) := by decide +kernel
theorem dX7_idealDifference_96 : decode cX7_idealDifference 96 = .ok (.invokevirtual 204, 3) := by decide +kernel
theorem dX7_idealDifference_99 : decode cX7_idealDifference 99 = .ok (.aload_n 0, 1) := by decide +kernel
theorem dX7_idealDifference_100 : decode cX7_idealDifference 100 = .ok (.getfield 7, 3) := by decide +kernel
theorem dX7_idealDifference_103 : decode cX7_idealDifference 103 = .ok (.sipush 641, 3) := by decide +kernel
theorem dX7_idealDifference_106 : decode cX7_idealDifference 106 = .ok (.lload_n 3, 1) := by decide +kernel
theorem dX7_idealDifference_107 : decode cX7_idealDifference 107 = .ok (.lastore, 1) := by decide +kernel
theorem dX7_idealDifference_108 : decode cX7_idealDifference 108 = .ok (.aload_n 0, 1) := by decide +kernel
theorem dX7_idealDifference_109 : decode cX7_idealDifference 109 = .ok (.iconst 1, 1) := by decide +kernel
theorem dX7_idealDifference_110 : decode cX7_idealDifference 110 = .ok (.putfield 156, 3) := by decide +kernel
theorem dX7_idealDifference_113 : decode cX7_idealDifference 113 = .ok (.lconst 0, 1) := by decide +kernel
theorem dX7_idealDifference_114 : decode cX7_idealDifference 114 = .ok (.lstore 5, 2) := by decide +kernel
theorem dX7_idealDifference_116 : decode cX7_idealDifference 116 = .ok (.iconst 0, 1) := by decide +kernel
theorem dX7_idealDifference_117 : decode cX7_idealDifference 117 = .ok (.istore 7, 2) := by decide +kernel
theorem dX7_idealDifference_119 : decode cX7_idealDifference 119 = .ok (.iload 7, 2) := by decide +kernel
theorem dX7_idealDifference_121 : decode cX7_idealDifference 121 = .ok (.iload_n 1, 1) := by decide +kernel
theorem dX7_idealDifference_122 : decode cX7_idealDifference 122 = .ok (.if_icmp .gt 53, 3) := by decide +kernel
theorem dX7_idealDifference_125 : decode cX7_idealDifference 125 = .ok (.aload_n 0, 1) := by decide +kernel
theorem dX7_idealDifference_126 : decode cX7_idealDifference 126 = .ok (.getfield 41, 3) := by decide +kernel
theorem dX7_idealDifference_129 : decode cX7_idealDifference 129 = .ok (.iload 7, 2) := by decide +kernel
theorem dX7_idealDifference_131 : decode cX7_idealDifference 131 = .ok (.iload_n 2, 1) := by decide +kernel
theorem dX7_idealDifference_132 : decode cX7_idealDifference 132 = .ok (.iadd, 1) := by decide +kernel
theorem dX7_idealDifference_133 : decode cX7_idealDifference 133 = .ok (.laload, 1) := by decide +kernel
theorem dX7_idealDifference_134 : decode cX7_idealDifference 134 = .ok (.aload_n 0, 1) := by decide +kernel
theorem dX7_idealDifference_135 : decode cX7_idealDifference 135 = .ok (.getfield 7, 3) := by decide +kernel
theorem dX7_idealDifference_138 : decode cX7_idealDifference 138 = .ok (.sipush 644, 3) := by decide +kernel
theorem dX7_idealDifference_141 : decode cX7_idealDifference 141 = .ok (.laload, 1) := by decide +kernel
theorem dX7_idealDifference_142 : decode cX7_idealDifference 142 = .ok (.lsub, 1) := by decide +kernel
theorem dX7_idealDifference_143 : decode cX7_idealDifference 143 = .ok (.invokestatic 152, 3) := by decide +kernel
theorem dX7_idealDifference_146 : decode cX7_idealDifference 146 = .ok (.lstore 8, 2) := by decide +kernel
theorem dX7_idealDifference_148 : decode cX7_idealDifference 148 = .ok (.lload 8, 2) := by decide +kernel
theorem dX7_idealDifference_150 : decode cX7_idealDifference 150 = .ok (.lload 5, 2) := by decide +kernel
theorem dX7_idealDifference_152 : decode cX7_idealDifference 152 = .ok (.lcmp, 1) := by decide +kernel
theorem dX7_idealDifference_153 : decode cX7_idealDifference 153 = .ok (.ifCond .le 8, 3) := by decide +kernel
theorem dX7_idealDifference_156 : decode cX7_idealDifference 156 = .ok (.lload 8, 2) := by decide +kernel
theorem dX7_idealDifference_158 : decode cX7_idealDifference 158 = .ok (.goto 5, 3) := by decide +kernel
theorem dX7_idealDifference_161 : decode cX7_idealDifference 161 = .ok (.lload 5, 2) := by decide +kernel
theorem dX7_idealDifference_163 : decode cX7_idealDifference 163 = .ok (.lstore 5, 2) := by decide +kernel
theorem dX7_idealDifference_165 : decode cX7_idealDifference 165 = .ok (.aload_n 0, 1) := by decide +kernel
theorem dX7_idealDifference_166 : decode cX7_idealDifference 166 = .ok (.invokevirtual 191, 3) := by decide +kernel
theorem dX7_idealDifference_169 : decode cX7_idealDifference 169 = .ok (.iinc 7 1, 3) := by decide +kernel
theorem dX7_idealDifference_172 : decode cX7_idealDifference 172 = .ok (.goto (-53), 3) := by decide +kernel
theorem dX7_idealDifference_175 : decode cX7_idealDifference 175 = .ok (.aload_n 0, 1) := by decide +kernel
theorem dX7_idealDifference_176 : decode cX7_idealDifference 176 = .ok (.iconst 0, 1) := by decide +kernel
theorem dX7_idealDifference_177 : decode cX7_idealDifference 177 = .ok (.putfield 156, 3) := by decide +kernel
theorem dX7_idealDifference_180 : decode cX7_idealDifference 180 = .ok (.aload_n 0, 1) := by decide +kernel
theorem dX7_idealDifference_181 : decode cX7_idealDifference 181 = .ok (.invokevirtual 235, 3) := by decide +kernel
theorem dX7_idealDifference_184 : decode cX7_idealDifference 184 = .ok (.lload 5, 2) := by decide +kernel
theorem dX7_idealDifference_186 : decode cX7_idealDifference 186 = .ok (.l2i, 1) := by decide +kernel
theorem dX7_idealDifference_187 : decode cX7_idealDifference 187 = .ok (.ireturn, 1) := by decide +kernel

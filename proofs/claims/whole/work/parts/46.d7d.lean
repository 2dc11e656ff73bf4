theorem dX7_noise_30 : decode cX7_noise 30 = .ok (.lmul, 1) := by decide +kernel
theorem dX7_noise_31 : decode cX7_noise 31 = .ok (.ldc2_w 148, 3) := by decide +kernel
theorem dX7_noise_34 : decode cX7_noise 34 = .ok (.lrem, 1) := by decide +kernel
theorem dX7_noise_35 : decode cX7_noise 35 = .ok (.ldc2_w 150, 3) := by decide +kernel
theorem dX7_noise_38 : decode cX7_noise 38 = .ok (.aload_n 0, 1) := by decide +kernel
theorem dX7_noise_39 : decode cX7_noise 39 = .ok (.getfield 19, 3) := by decide +kernel
theorem dX7_noise_42 : decode cX7_noise 42 = .ok (.bipush 14, 2) := by decide +kernel
theorem dX7_noise_44 : decode cX7_noise 44 = .ok (.iaload, 1) := by decide +kernel
theorem dX7_noise_45 : decode cX7_noise 45 = .ok (.i2l, 1) := by decide +kernel
theorem dX7_noise_46 : decode cX7_noise 46 = .ok (.lmul, 1) := by decide +kernel
theorem dX7_noise_47 : decode cX7_noise 47 = .ok (.lconst 1, 1) := by decide +kernel
theorem dX7_noise_48 : decode cX7_noise 48 = .ok (.ladd, 1) := by decide +kernel
theorem dX7_noise_49 : decode cX7_noise 49 = .ok (.lrem, 1) := by decide +kernel
theorem dX7_noise_50 : decode cX7_noise 50 = .ok (.aload_n 0, 1) := by decide +kernel
theorem dX7_noise_51 : decode cX7_noise 51 = .ok (.getfield 19, 3) := by decide +kernel
theorem dX7_noise_54 : decode cX7_noise 54 = .ok (.bipush 14, 2) := by decide +kernel
theorem dX7_noise_56 : decode cX7_noise 56 = .ok (.iaload, 1) := by decide +kernel
theorem dX7_noise_57 : decode cX7_noise 57 = .ok (.i2l, 1) := by decide +kernel
theorem dX7_noise_58 : decode cX7_noise 58 = .ok (.lsub, 1) := by decide +kernel
theorem dX7_noise_59 : decode cX7_noise 59 = .ok (.lreturn, 1) := by decide +kernel
set_option maxRecDepth 20000 in
theorem ggX7_judges_X7_size : GoodIn wsX7_judges wsX7_size := goodIn_r _ [7] (by decide +kernel) (by decide +kernel)
set_option maxRecDepth 20000 in
theorem gX7_judges_X7_size : GoodIn wsX7_judges (va_wsS RX7 152 yX7_size wsX7_size) := goodIn_app (goodIn_of _ (by decide +kernel)) ggX7_judges_X7_size
theorem dX7_judges_0 : decode cX7_judges 0 = .ok (.lload_n 1, 1) := by decide +kernel
theorem dX7_judges_1 : decode cX7_judges 1 = .ok (.invokestatic 152, 3) := by decide +kernel
theorem dX7_judges_4 : decode cX7_judges 4 = .ok (.aload_n 0, 1) := by decide +kernel
theorem dX7_judges_5 : decode cX7_judges 5 = .ok (.getfield 19, 3) := by decide +kernel
theorem dX7_judges_8 : decode cX7_judges 8 = .ok (.bipush 12, 2) := by decide +kernel
theorem dX7_judges_10 : decode cX7_judges 10 = .ok (.iaload, 1) := by decide +kernel
theorem dX7_judges_11 : decode cX7_judges 11 = .ok (.i2l, 1) := by decide +kernel
theorem dX7_judges_12 : decode cX7_judges 12 = .ok (.lcmp, 1) := by decide +kernel
theorem dX7_judges_13 : decode cX7_judges 13 = .ok (.ifCond .le 7, 3) := by decide +kernel
theorem dX7_judges_16 : decode cX7_judges 16 = .ok (.iconst 1, 1) := by decide +kernel
theorem dX7_judges_17 : decode cX7_judges 17 = .ok (.goto 4, 3) := by decide +kernel
theorem dX7_judges_20 : decode cX7_judges 20 = .ok (.iconst 0, 1) := by decide +kernel
theorem dX7_judges_21 : decode cX7_judges 21 = .ok (.istore_n 3, 1) := by decide +kernel
theorem dX7_judges_22 : decode cX7_judges 22 = .ok (.aload_n 0, 1) := by decide +kernel
theorem dX7_judges_23 : decode cX7_judges 23 = .ok (.getfield 7, 3) := by decide +kernel
theorem dX7_judges_26 : decode cX7_judges 26 = .ok (.sipush 649, 3) := by decide +kernel
theorem dX7_judges_29 : decode cX7_judges 29 = .ok (.iload_n 3, 1) := by decide +kernel
theorem dX7_judges_30 : decode cX7_judges 30 = .ok (.ifCond .eq 16, 3) := by decide +kernel
theorem dX7_judges_33 : decode cX7_judges 33 = .ok (.aload_n 0, 1) := by decide +kernel
theorem dX7_judges_34 : decode cX7_judges 34 = .ok (.getfield 7, 3) := by decide +kernel
theorem dX7_judges_37 : decode cX7_judges 37 = .ok (.sipush 649, 3) := by decide +kernel
theorem dX7_judges_40 : decode cX7_judges 40 = .ok (.laload, 1) := by decide +kernel
theorem dX7_judges_41 : decode cX7_judges 41 = .ok (.lconst 1, 1) := by decide +kernel
theorem dX7_judges_42 : decode cX7_judges 42 = .ok (.ladd, 1) := by decide +kernel
theorem dX7_judges_43 : decode cX7_judges 43 = .ok (.goto 4, 3) := by decide +kernel
theorem dX7_judges_46 : decode cX7_judges 46 = .ok (.lconst 0, 1) := by decide +kernel
theorem dX7_judges_47 : decode cX7_judges 47 = .ok (.lastore, 1) := by decide +kernel
theorem dX7_judges_48 : decode cX7_judges 48 = .ok (.aload_n 0, 1) := by decide +kernel
theorem dX7_judges_49 : decode cX7_judges 49 = .ok (.getfield 7, 3) := by decide +kernel
theorem dX7_judges_52 : decode cX7_judges 52 = .ok (.sipush 650, 3) := by decide +kernel
theorem dX7_judges_55 : decode cX7_judges 55 = .ok (.iload_n 3, 1) := by decide +kernel
theorem dX7_judges_56 : decode cX7_judges 56 = .ok (.ifCond .eq 7, 3) := by decide +kernel
theorem dX7_judges_59 : decode cX7_judges 59 = .ok (.lconst 0, 1) := by decide +kernel
theorem dX7_judges_60 : decode cX7_judges 60 = .ok (.goto 13, 3) := by decide +kernel
theorem dX7_judges_63 : decode cX7_judges 63 = .ok (.aload_n 0, 1) := by decide +kernel
theorem dX7_judges_64 : decode cX7_judges 64 = .ok (.getfield 7, 3) := by decide +kernel
theorem dX7_judges_67 : decode cX7_judges 67 = .ok (.sipush 650, 3) := by decide +kernel
theorem dX7_judges_70 : decode cX7_judges 70 = .ok (.laload, 1) := by decide +kernel
theorem dX7_judges_71 : decode cX7_judges 71 = .ok (.lconst 1, 1) := by decide +kernel
theorem dX7_judges_72 : decode cX7_judges 72 = .ok (.ladd, 1) := by decide +kernel
theorem dX7_judges_73 : decode cX7_judges 73 = .ok (.lastore, 1) := by decide +kernel
theorem dX7_judges_74 : decode cX7_judges 74 = .ok (.aload_n 0, 1) := by decide +kernel
theorem dX7_judges_75 : decode cX7_judges 75 = .ok (.getfield 7, 3) := by decide +kernel
theorem dX7_judges_78 : decode cX7_judges 78 = .ok (.sipush 648, 3) := by decide +kernel
theorem dX7_judges_81 : decode cX7_judges 81 = .ok (.laload, 1) := by decide +kernel
theorem dX7_judges_82 : decode cX7_judges 82 = .ok (.lconst 0, 1) := by decide +kernel
theorem dX7_judges_83 : decode cX7_judges 83 = .ok (.lcmp, 1) := by decide +kernel
theorem dX7_judges_84 : decode cX7_judges 84 = .ok (.ifCond .ne 31, 3) := by decide +kernel
theorem dX7_judges_87 : decode cX7_judges 87 = .ok (.aload_n 0, 1) := by decide +kernel
theorem dX7_judges_88 : decode cX7_judges 88 = .ok (.getfield 7, 3) := by decide +kernel
theorem dX7_judges_91 : decode cX7_judges 91 = .ok (.sipush 649, 3) := by decide +kernel
theorem dX7_judges_94 : decode cX7_judges 94 = .ok (.laload, 1) := by decide +kernel
theorem dX7_judges_95 : decode cX7_judges 95 = .ok (.aload_n 0, 1) := by decide +kernel
theorem dX7_judges_96 : decode cX7_judges 96 = .ok (.getfield 19, 3) := by decide +kernel
theorem dX7_judges_99 : decode cX7_judges 99 = .ok (.bipush 13, 2) := by decide +kernel
theorem dX7_judges_101 : decode cX7_judges 101 = .ok (.iaload, 1) := by decide +kernel
theorem dX7_judges_102 : decode cX7_judges 102 = .ok (.i2l, 1) := by decide +kernel
theorem dX7_judges_103 : decode cX7_judges 103 = .ok (.lcmp, 1) := by decide +kernel
theorem dX7_judges_104 : decode cX7_judges 104 = .ok (.ifCond .lt 7, 3) := by decide +kernel
theorem dX7_judges_107 : decode cX7_judges 107 = .ok (.iconst 1, 1) := by decide +kernel
theorem dX7_judges_108 : decode cX7_judges 108 = .ok (.goto 36, 3) := by decide +kernel
theorem dX7_judges_111 : decode cX7_judges 111 = .ok (.iconst 0, 1) := by decide +kernel
theorem dX7_judges_112 : decode cX7_judges 112 = .ok (.goto 32, 3) := by decide +kernel
theorem dX7_judges_115 : decode cX7_judges 115 = .ok (.aload_n 0, 1) := by decide +kernel
theorem dX7_judges_116 : decode cX7_judges 116 = .ok (.getfield 7, 3) := by decide +kernel
theorem dX7_judges_119 : decode cX7_judges 119 = .ok (.sipush 650, 3) := by decide +kernel
theorem dX7_judges_122 : decode cX7_judges 122 = .ok (.laload, 1) := by decide +kernel
theorem dX7_judges_123 : decode cX7_judges 123 = .ok (.ldc2_w 150, 3) := by decide +kernel
theorem dX7_judges_126 : decode cX7_judges 126 = .ok (.aload_n 0, 1) := by decide +kernel
theorem dX7_judges_127 : decode cX7_judges 127 = .ok (.getfield 19, 3) := by decide +kernel
theorem dX7_judges_130 : decode cX7_judges 130 = .ok (.bipush 13, 2) := by decide +kernel
theorem dX7_judges_132 : decode cX7_judges 132 = .ok (.iaload, 1) := by decide +kernel
theorem dX7_judges_133 : decode cX7_judges 133 = .ok (.i2l, 1) := by decide +kernel
theorem dX7_judges_134 : decode cX7_judges 134 = .ok (.lmul, 1) := by decide +kernel
theorem dX7_judges_135 : decode cX7_judges 135 = .ok (.lcmp, 1) := by decide +kernel
theorem dX7_judges_136 : decode cX7_judges 136 = .ok (.ifCond .lt 7, 3) := by decide +kernel
theorem dX7_judges_139 : decode cX7_judges 139 = .ok (.iconst 1, 1) := by decide +kernel
theorem dX7_judges_140 : decode cX7_judges 140 = .ok (.goto 4, 3) := by decide +kernel
theorem dX7_judges_143 : decode cX7_judges 143 = .ok (.iconst 0, 1) := by decide +kernel
theorem dX7_judges_144 : decode cX7_judges 144 = .ok (.istore 4, 2) := by decide +kernel
theorem dX7_judges_146 : decode cX7_judges 146 = .ok (.iload 4, 2) := by decide +kernel
theorem dX7_judges_148 : decode cX7_judges 148 = .ok (.ifCond .eq 39, 3) := by decide +kernel
theorem dX7_judges_151 : decode cX7_judges 151 = .ok (.aload_n 0, 1) := by decide +kernel
theorem dX7_judges_152 : decode cX7_judges 152 = .ok (.getfield 7, 3) := by decide +kernel
theorem dX7_judges_155 : decode cX7_judges 155 = .ok (.sipush 648, 3) := by decide +kernel
theorem dX7_judges_158 : decode cX7_judges 158 = .ok (.lconst 1, 1) := by decide +kernel
theorem dX7_judges_159 : decode cX7_judges 159 = .ok (.aload_n 0, 1) := by decide +kernel
theorem dX7_judges_160 : decode cX7_judges 160 = .ok (.getfield 7, 3) := by decide +kernel
theorem dX7_judges_163 : decode cX7_judges 163 = .ok (.sipush 648, 3) := by decide +kernel
theorem dX7_judges_166 : decode cX7_judges 166 = .ok (.laload, 1) := by decide +kernel
theorem dX7_judges_167 : decode cX7_judges 167 = .ok (.lsub, 1) := by decide +kernel
theorem dX7_judges_168 : decode cX7_judges 168 = .ok (.lastore, 1) := by decide +kernel
theorem dX7_judges_169 : decode cX7_judges 169 = .ok (.aload_n 0, 1) := by decide +kernel
theorem dX7_judges_170 : decode cX7_judges 170 = .ok (.getfield 7, 3) := by decide +kernel
theorem dX7_judges_173 : decode cX7_judges 173 = .ok (.sipush 649, 3) := by decide +kernel
theorem dX7_judges_176 : decode cX7_judges 176 = .ok (.lconst 0, 1) := by decide +kernel
theorem dX7_judges_177 : decode cX7_judges 177 = .ok (.lastore, 1) := by decide +kernel
theorem dX7_judges_178 : decode cX7_judges 178 = .ok (.aload_n 0, 1) := by decide +kernel
theorem dX7_judges_179 : decode cX7_judges 179 = .ok (.getfield 7, 3) := by decide +kernel
theorem dX7_judges_182 : decode cX7_judges 182 = .ok (.sipush 650, 3) := by decide +kernel
theorem dX7_judges_185 : decode cX7_judges 185 = .ok (.lconst 0, 1) := by decide +kernel
theorem dX7_judges_186 : decode cX7_judges 186 = .ok (.lastore, 1) := by decide +kernel
theorem dX7_judges_187 : decode cX7_judges 187 = .ok (.return_, 1) := by decide +kernel
set_option maxRecDepth 20000 in
theorem ggX7_controls_X7_floor : GoodIn wsX7_controls wsX7_floor := goodIn_r _ [8] (by decide +kernel) (by decide +kernel)
set_option maxRecDepth 20000 in
theorem gX7_controls_X7_floor : GoodIn wsX7_controls (va_wsS RX7 138 yX7_floor wsX7_floor) := goodIn_app (goodIn_of _ (by decide +kernel)) ggX7_controls_X7_floor
set_option maxRecDepth 20000 in
theorem ggX7_controls_X7_size : GoodIn wsX7_controls wsX7_size := goodIn_r _ [11] (by decide +kernel) (by decide +kernel)
set_option maxRecDepth 20000 in
theorem gX7_controls_X7_size : GoodIn wsX7_controls (va_wsS RX7 152 yX7_size wsX7_size) := goodIn_app (goodIn_of _ (by decide +kernel)) ggX7_controls_X7_size
theorem dX7_controls_0 : decode cX7_controls 0 = .ok (.aload_n 0, 1) := by decide +kernel
theorem dX7_controls_1 : decode cX7_controls 1 = .ok (.getfield 7, 3) := by decide +kernel
theorem dX7_controls_4 : decode cX7_controls 4 = .ok (.sipush 648, 3) := by decide +kernel
theorem dX7_controls_7 : decode cX7_controls 7 = .ok (.laload, 1) := by decide +kernel
theorem dX7_controls_8 : decode cX7_controls 8 = .ok (.lconst 0, 1) := by decide +kernel
theorem dX7_controls_9 : decode cX7_controls 9 = .ok (.lcmp, 1) := by decide +kernel
theorem dX7_controls_10 : decode cX7_controls 10 = .ok (.ifCond .ne 14, 3) := by decide +kernel
theorem dX7_controls_13 : decode cX7_controls 13 = .ok (.aload_n 0, 1) := by decide +kernel
theorem dX7_controls_14 : decode cX7_controls 14 = .ok (.getfield 156, 3) := by decide +kernel
theorem dX7_controls_17 : decode cX7_controls 17 = .ok (.ifCond .ne 7, 3) := by decide +kernel
theorem dX7_controls_20 : decode cX7_controls 20 = .ok (.iconst 1, 1) := by decide +kernel
theorem dX7_controls_21 : decode cX7_controls 21 = .ok (.goto 4, 3) := by decide +kernel
theorem dX7_controls_24 : decode cX7_controls 24 = .ok (.iconst 0, 1) := by decide +kernel
theorem dX7_controls_25 : decode cX7_controls 25 = .ok (.istore_n 1, 1) := by decide +kernel
theorem dX7_controls_26 : decode cX7_controls 26 = .ok (.aload_n 0, 1) := by decide +kernel
theorem dX7_controls_27 : decode cX7_controls 27 = .ok (.getfield 7, 3) := by decide +kernel
theorem dX7_controls_30 : decode cX7_controls 30 = .ok (.sipush 648, 3) := by decide +kernel
theorem dX7_controls_33 : decode cX7_controls 33 = .ok (.laload, 1) := by decide +kernel
theorem dX7_controls_34 : decode cX7_controls 34 = .ok (.lconst 0, 1) := by decide +kernel
theorem dX7_controls_35 : decode cX7_controls 35 = .ok (.lcmp, 1) := by decide +kernel
theorem dX7_controls_36 : decode cX7_controls 36 = .ok (.ifCond .eq 10, 3) := by decide +kernel
theorem dX7_controls_39 : decode cX7_controls 39 = .ok (.aload_n 0, 1) := by decide +kernel
theorem dX7_controls_40 : decode cX7_controls 40 = .ok (.getfield 156, 3) := by decide +kernel
theorem dX7_controls_43 : decode cX7_controls 43 = .ok (.ifCond .eq 7, 3) := by decide +kernel
theorem dX7_controls_46 : decode cX7_controls 46 = .ok (.iconst 1, 1) := by decide +kernel
theorem dX7_controls_47 : decode cX7_controls 47 = .ok (.goto 4, 3) := by decide +kernel
theorem dX7_controls_50 : decode cX7_controls 50 = .ok (.iconst 0, 1) := by decide +kernel
theorem dX7_controls_51 : decode cX7_controls 51 = .ok (.istore_n 2, 1) := by decide +kernel
theorem dX7_controls_52 : decode cX7_controls 52 = .ok (.iload_n 2, 1) := by decide +kernel
theorem dX7_controls_53 : decode cX7_controls 53 = .ok (.ifCond .eq 13, 3) := by decide +kernel
theorem dX7_controls_56 : decode cX7_controls 56 = .ok (.aload_n 0, 1) := by decide +kernel
theorem dX7_controls_57 : decode cX7_controls 57 = .ok (.getfield 19, 3) := by decide +kernel
theorem dX7_controls_60 : decode cX7_controls 60 = .ok (.iconst 0, 1) := by decide +kernel
theorem dX7_controls_61 : decode cX7_controls 61 = .ok (.iaload, 1) := by decide +kernel
theorem dX7_controls_62 : decode cX7_controls 62 = .ok (.i2l, 1) := by decide +kernel
theorem dX7_controls_63 : decode cX7_controls 63 = .ok (.goto 12, 3) := by decide +kernel
theorem dX7_controls_66 : decode cX7_controls 66 = .ok (.aload_n 0, 1) := by decide +kernel
theorem dX7_controls_67 : decode cX7_controls 67 = .ok (.getfield 19, 3) := by decide +kernel
theorem dX7_controls_70 : decode cX7_controls 70 = .ok (.iconst 0, 1) := by decide +kernel
theorem dX7_controls_71 : decode cX7_controls 71 = .ok (.iaload, 1) := by decide +kernel
theorem dX7_controls_72 : decode cX7_controls 72 = .ok (.iconst 2, 1) := by decide +kernel
theorem dX7_controls_73 : decode cX7_controls 73 = .ok (.idiv, 1) := by decide +kernel
theorem dX7_controls_74 : decode cX7_controls 74 = .ok (.i2l, 1) := by decide +kernel
theorem dX7_controls_75 : decode cX7_controls 75 = .ok (.lstore_n 3, 1) := by decide +kernel
theorem dX7_controls_76 : decode cX7_controls 76 = .ok (.iload_n 2, 1) := by decide +kernel
theorem dX7_controls_77 : decode cX7_controls 77 = .ok (.ifCond .eq 13, 3) := by decide +kernel
theorem dX7_controls_80 : decode cX7_controls 80 = .ok (.aload_n 0, 1) := by decide +kernel
theorem dX7_controls_81 : decode cX7_controls 81 = .ok (.getfield 19, 3) := by decide +kernel
theorem dX7_controls_84 : decode cX7_controls 84 = .ok (.iconst 1, 1) := by decide +kernel
theorem dX7_controls_85 : decode cX7_controls 85 = .ok (.iaload, 1) := by decide +kernel
theorem dX7_controls_86 : decode cX7_controls 86 = .ok (.i2l, 1) := by decide +kernel
theorem dX7_controls_87 : decode cX7_controls 87 = .ok (.goto 12, 3) := by decide +kernel
theorem dX7_controls_90 : decode cX7_controls 90 = .ok (.aload_n 0, 1) := by decide +kernel
theorem dX7_controls_91 : decode cX7_controls 91 = .ok (.getfield 19, 3) := by decide +kernel
theorem dX7_controls_94 : decode cX7_controls 94 = .ok (.iconst 1, 1) := by decide +kernel
theorem dX7_controls_95 : decode cX7_controls 95 = .ok (.iaload, 1) := by decide +kernel
theorem dX7_controls_96 : decode cX7_controls 96 = .ok (.iconst 4, 1) := by decide +kernel
theorem dX7_controls_97 : decode cX7_controls 97 = .ok (.idiv, 1) := by decide +kernel
theorem dX7_controls_98 : decode cX7_controls 98 = .ok (.i2l, 1) := by decide +kernel
theorem dX7_controls_99 : decode cX7_controls 99 = .ok (.lstore 5, 2) := by decide +kernel
theorem dX7_controls_101 : decode cX7_controls 101 = .ok (.aload_n 0, 1) := by decide +kernel
theorem dX7_controls_102 : decode cX7_controls 102 = .ok (.getfield 7, 3) := by decide +kernel
theorem dX7_controls_105 : decode cX7_controls 105 = .ok (.sipush 641, 3) := by decide +kernel
theorem dX7_controls_108 : decode cX7_controls 108 = .ok (.laload, 1) := by decide +kernel
theorem dX7_controls_109 : decode cX7_controls 109 = .ok (.iload_n 1, 1) := by decide +kernel
theorem dX7_controls_110 : decode cX7_controls 110 = .ok (.ifCond .eq 23, 3) := by decide +kernel
theorem dX7_controls_113 : decode cX7_controls 113 = .ok (.aload_n 0, 1) := by decide +kernel
theorem dX7_controls_114 : decode cX7_controls 114 = .ok (.getfield 7, 3) := by decide +kernel
theorem dX7_controls_117 : decode cX7_controls 117 = .ok (.sipush 645, 3) := by decide +kernel
theorem dX7_controls_120 : decode cX7_controls 120 = .ok (.laload, 1) := by decide +kernel
theorem dX7_controls_121 : decode cX7_controls 121 = .ok (.aload_n 0, 1) := by decide +kernel
theorem dX7_controls_122 : decode cX7_controls 122 = .ok (.getfield 7, 3) := by decide +kernel
theorem dX7_controls_125 : decode cX7_controls 125 = .ok (.sipush 646, 3) := by decide +kernel
theorem dX7_controls_128 : decode cX7_controls 128 = .ok (.laload, 1) := by decide +kernel
theorem dX7_controls_129 : decode cX7_controls 129 = .ok (.ladd, 1) := by decide +kernel
theorem dX7_controls_130 : decode cX7_controls 130 = .ok (.goto 11, 3) := by decide +kernel
theorem dX7_controls_133 : decode cX7_controls 133 = .ok (.aload_n 0, 1) := by decide +kernel
theorem dX7_controls_134 : decode cX7_controls 134 = .ok (.getfield 7, 3) := by decide +kernel
theorem dX7_controls_137 : decode cX7_controls 137 = .ok (.sipush 652, 3) := by decide +kernel
theorem dX7_controls_140 : decode cX7_controls 140 = .ok (.laload, 1) := by decide +kernel
theorem dX7_controls_141 : decode cX7_controls 141 = .ok (.lsub, 1) := by decide +kernel
theorem dX7_controls_142 : decode cX7_controls 142 = .ok (.lstore 7, 2) := by decide +kernel
theorem dX7_controls_144 : decode cX7_controls 144 = .ok (.aload_n 0, 1) := by decide +kernel
theorem dX7_controls_145 : decode cX7_controls 145 = .ok (.getfield 7, 3) := by decide +kernel
theorem dX7_controls_148 : decode cX7_controls 148 = .ok (.sipush 647, 3) := by decide +kernel
theorem dX7_controls_151 : decode cX7_controls 151 = .ok (.laload, 1) := by decide +kernel
theorem dX7_controls_152 : decode cX7_controls 152 = .ok (.lload 5, 2) := by decide +kernel
theorem dX7_controls_154 : decode cX7_controls 154 = .ok (.lload 7, 2) := by decide +kernel
theorem dX7_controls_156 : decode cX7_controls 156 = .ok (.lmul, 1) := by decide +kernel
theorem dX7_controls_157 : decode cX7_controls 157 = .ok (.ldc2_w 142, 3) := by decide +kernel
theorem dX7_controls_160 : decode cX7_controls 160 = .ok (.invokestatic 138, 3) := by decide +kernel
theorem dX7_controls_163 : decode cX7_controls 163 = .ok (.ladd, 1) := by decide +kernel
theorem dX7_controls_164 : decode cX7_controls 164 = .ok (.lstore 9, 2) := by decide +kernel
theorem dX7_controls_166 : decode cX7_controls 166 = .ok (.lload_n 3, 1) := by decide +kernel
theorem dX7_controls_167 : decode cX7_controls 167 = .ok (.lload 7, 2) := by decide +kernel
theorem dX7_controls_169 : decode cX7_controls 169 = .ok (.lmul, 1) := by decide +kernel
theorem dX7_controls_170 : decode cX7_controls 170 = .ok (.ldc2_w 142, 3) := by decide +kernel
theorem dX7_controls_173 : decode cX7_controls 173 = .ok (.invokestatic 138, 3) := by decide +kernel
theorem dX7_controls_176 : decode cX7_controls 176 = .ok (.lload 9, 2) := by decide +kernel
theorem dX7_controls_178 : decode cX7_controls 178 = .ok (.ladd, 1) := by decide +kernel
theorem dX7_controls_179 : decode cX7_controls 179 = .ok (.lstore 11, 2) := by decide +kernel
theorem dX7_controls_181 : decode cX7_controls 181 = .ok (.lload 11, 2) := by decide +kernel
theorem dX7_controls_183 : decode cX7_controls 183 = .ok (.aload_n 0, 1) := by decide +kernel
theorem dX7_controls_184 : decode cX7_controls 184 = .ok (.getfield 19, 3) := by decide +kernel
theorem dX7_controls_187 : decode cX7_controls 187 = .ok (.bipush 10, 2) := by decide +kernel
theorem dX7_controls_189 : decode cX7_controls 189 = .ok (.iaload, 1) := by decide +kernel
theorem dX7_controls_190 : decode cX7_controls 190 = .ok (.i2l, 1) := by decide +kernel
theorem dX7_controls_191 : decode cX7_controls 191 = .ok (.lcmp, 1) := by decide +kernel
theorem dX7_controls_192 : decode cX7_controls 192 = .ok (.ifCond .le 14, 3) := by decide +kernel
theorem dX7_controls_195 : decode cX7_controls 195 = .ok (.aload_n 0, 1) := by decide +kernel
theorem dX7_controls_196 : decode cX7_controls 196 = .ok (.getfield 19, 3) := by decide +kernel
theorem dX7_controls_199 : decode cX7_controls 199 = .ok (.bipush 10, 2) := by decide +kernel
theorem dX7_controls_201 : decode cX7_controls 201 = .ok (.iaload, 1) := by decide +kernel
theorem dX7_controls_202 : decode cX7_controls 202 = .ok (.i2l, 1) := by decide +kernel
theorem dX7_controls_203 : decode cX7_controls 203 = .ok (.goto 30, 3) := by decide +kernel
theorem dX7_controls_206 : decode cX7_controls 206 = .ok (.lload 11, 2) := by decide +kernel
theorem dX7_controls_208 : decode cX7_controls 208 = .ok (.aload_n 0, 1) := by decide +kernel
theorem dX7_controls_209 : decode cX7_controls 209 = .ok (.getfield 19, 3) := by decide +kernel
theorem dX7_controls_212 : decode cX7_controls 212 = .ok (.bipush 9, 2) := by decide +kernel
theorem dX7_controls_214 : decode cX7_controls 214 = .ok (.iaload, 1) := by decide +kernel
theorem dX7_controls_215 : decode cX7_controls 215 = .ok (.i2l, 1) := by decide +kernel
theorem dX7_controls_216 : decode cX7_controls 216 = .ok (.lcmp, 1) := by decide +kernel
theorem dX7_controls_217 : decode cX7_controls 217 = .ok (.ifCond .ge 14, 3) := by decide +kernel
theorem dX7_controls_220 : decode cX7_controls 220 = .ok (.aload_n 0, 1) := by decide +kernel
theorem dX7_controls_221 : decode cX7_controls 221 = .ok (.getfield 19, 3) := by decide +kernel
theorem dX7_controls_224 : decode cX7_controls 224 = .ok (.bipush 9, 2) := by decide +kernel
theorem dX7_controls_226 : decode cX7_controls 226 = .ok (.iaload, 1) := by decide +kernel
theorem dX7_controls_227 : decode cX7_controls 227 = .ok (.i2l, 1) := by decide +kernel
theorem dX7_controls_228 : decode cX7_controls 228 = .ok (.goto 5, 3) := by decide +kernel
theorem dX7_controls_231 : decode cX7_controls 231 = .ok (.lload 11, 2) := by decide +kernel
theorem dX7_controls_233 : decode cX7_controls 233 = .ok (.lstore 13, 2) := by decide +kernel
theorem dX7_controls_235 : decode cX7_controls 235 = .ok (.aload_n 0, 1) := by decide +kernel
theorem dX7_controls_236 : decode cX7_controls 236 = .ok (.getfield 7, 3) := by decide +kernel
theorem dX7_controls_239 : decode cX7_controls 239 = .ok (.sipush 651, 3) := by decide +kernel
theorem dX7_controls_242 : decode cX7_controls 242 = .ok (.laload, 1) := by decide +kernel
theorem dX7_controls_243 : decode cX7_controls 243 = .ok (.lstore 15, 2) := by decide +kernel
theorem dX7_controls_245 : decode cX7_controls 245 = .ok (.lload 13, 2) := by decide +kernel
theorem dX7_controls_247 : decode cX7_controls 247 = .ok (.lload 15, 2) := by decide +kernel
theorem dX7_controls_249 : decode cX7_controls 249 = .ok (.aload_n 0, 1) := by decide +kernel
theorem dX7_controls_250 : decode cX7_controls 250 = .ok (.getfield 19, 3) := by decide +kernel
theorem dX7_controls_253 : decode cX7_controls 253 = .ok (.bipush 11, 2) := by decide +kernel
theorem dX7_controls_255 : decode cX7_controls 255 = .ok (.iaload, 1) := by decide +kernel
theorem dX7_controls_256 : decode cX7_controls 256 = .ok (.i2l, 1) := by decide +kernel
theorem dX7_controls_257 : decode cX7_controls 257 = .ok (.ladd, 1) := by decide +kernel
theorem dX7_controls_258 : decode cX7_controls 258 = .ok (.lcmp, 1) := by decide +kernel
theorem dX7_controls_259 : decode cX7_controls 259 = .ok (.ifCond .le 17, 3) := by decide +kernel
theorem dX7_controls_262 : decode cX7_controls 262 = .ok (.lload 15, 2) := by decide +kernel
theorem dX7_controls_264 : decode cX7_controls 264 = .ok (.aload_n 0, 1) := by decide +kernel
theorem dX7_controls_265 : decode cX7_controls 265 = .ok (.getfield 19, 3) := by decide +kernel
theorem dX7_controls_268 : decode cX7_controls 268 = .ok (.bipush 11, 2) := by decide +kernel
theorem dX7_controls_270 : decode cX7_controls 270 = .ok (.iaload, 1) := by decide +kernel
theorem dX7_controls_271 : decode cX7_controls 271 = .ok (.i2l, 1) := by decide +kernel
theorem dX7_controls_272 : decode cX7_controls 272 = .ok (.ladd, 1) := by decide +kernel
theorem dX7_controls_273 : decode cX7_controls 273 = .ok (.goto 36, 3) := by decide +kernel
theorem dX7_controls_276 : decode cX7_controls 276 = .ok (.lload 13, 2) := by decide +kernel
theorem dX7_controls_278 : decode cX7_controls 278 = .ok (.lload 15, 2) := by decide +kernel
theorem dX7_controls_280 : decode cX7_controls 280 = .ok (.aload_n 0, 1) := by decide +kernel
theorem dX7_controls_281 : decode cX7_controls 281 = .ok (.getfield 19, 3) := by decide +kernel
theorem dX7_controls_284 : decode cX7_controls 284 = .ok (.bipush 11, 2) := by decide +kernel
theorem dX7_controls_286 : decode cX7_controls 286 = .ok (.iaload, 1) := by decide +kernel
theorem dX7_controls_287 : decode cX7_controls 287 = .ok (.i2l, 1) := by decide +kernel
theorem dX7_controls_288 : decode cX7_controls 288 = .ok (.lsub, 1) := by decide +kernel
theorem dX7_controls_289 : decode cX7_controls 289 = .ok (.lcmp, 1) := by decide +kernel
theorem dX7_controls_290 : decode cX7_controls 290 = .ok (.ifCond .ge 17, 3) := by decide +kernel
theorem dX7_controls_293 : decode cX7_controls 293 = .ok (.lload 15, 2) := by decide +kernel
theorem dX7_controls_295 : decode cX7_controls 295 = .ok (.aload_n 0, 1) := by decide +kernel
theorem dX7_controls_296 : decode cX7_controls 296 = .ok (.getfield 19, 3) := by decide +kernel
theorem dX7_controls_299 : decode cX7_controls 299 = .ok (.bipush 11, 2) := by decide +kernel
theorem dX7_controls_301 : decode cX7_controls 301 = .ok (.iaload, 1) := by decide +kernel
theorem dX7_controls_302 : decode cX7_controls 302 = .ok (.i2l, 1) := by decide +kernel
theorem dX7_controls_303 : decode cX7_controls 303 = .ok (.lsub, 1) := by decide +kernel
theorem dX7_controls_304 : decode cX7_controls 304 = .ok (.goto 5, 3) := by decide +kernel
theorem dX7_controls_307 : decode cX7_controls 307 = .ok (.lload 13, 2) := by decide +kernel
theorem dX7_controls_309 : decode cX7_controls 309 = .ok (.lstore 13, 2) := by decide +kernel
theorem dX7_controls_311 : decode cX7_controls 311 = .ok (.aload_n 0, 1) := by decide +kernel
theorem dX7_controls_312 : decode cX7_controls 312 = .ok (.getfield 7, 3) := by decide +kernel
theorem dX7_controls_315 : decode cX7_controls 315 = .ok (.sipush 654, 3) := by decide +kernel
theorem dX7_controls_318 : decode cX7_controls 318 = .ok (.lload 7, 2) := by decide +kernel
theorem dX7_controls_320 : decode cX7_controls 320 = .ok (.lastore, 1) := by decide +kernel
theorem dX7_controls_321 : decode cX7_controls 321 = .ok (.aload_n 0, 1) := by decide +kernel
theorem dX7_controls_322 : decode cX7_controls 322 = .ok (.getfield 7, 3) := by decide +kernel
theorem dX7_controls_325 : decode cX7_controls 325 = .ok (.sipush 651, 3) := by decide +kernel
theorem dX7_controls_328 : decode cX7_controls 328 = .ok (.lload 13, 2) := by decide +kernel
theorem dX7_controls_330 : decode cX7_controls 330 = .ok (.lastore, 1) := by decide +kernel
theorem dX7_controls_331 : decode cX7_controls 331 = .ok (.aload_n 0, 1) := by decide +kernel
theorem dX7_controls_332 : decode cX7_controls 332 = .ok (.getfield 7, 3) := by decide +kernel
theorem dX7_controls_335 : decode cX7_controls 335 = .ok (.sipush 647, 3) := by decide +kernel
theorem dX7_controls_338 : decode cX7_controls 338 = .ok (.lload 13, 2) := by decide +kernel
theorem dX7_controls_340 : decode cX7_controls 340 = .ok (.lload 11, 2) := by decide +kernel
theorem dX7_controls_342 : decode cX7_controls 342 = .ok (.lcmp, 1) := by decide +kernel
theorem dX7_controls_343 : decode cX7_controls 343 = .ok (.ifCond .ge 10, 3) := by decide +kernel
theorem dX7_controls_346 : decode cX7_controls 346 = .ok (.lload 7, 2) := by decide +kernel
theorem dX7_controls_348 : decode cX7_controls 348 = .ok (.lconst 0, 1) := by decide +kernel
theorem dX7_controls_349 : decode cX7_controls 349 = .ok (.lcmp, 1) := by decide +kernel
theorem dX7_controls_350 : decode cX7_controls 350 = .ok (.ifCond .gt 18, 3) := by decide +kernel
theorem dX7_controls_353 : decode cX7_controls 353 = .ok (.lload 13, 2) := by decide +kernel
theorem dX7_controls_355 : decode cX7_controls 355 = .ok (.lload 11, 2) := by decide +kernel
theorem dX7_controls_357 : decode cX7_controls 357 = .ok (.lcmp, 1) := by decide +kernel
theorem dX7_controls_358 : decode cX7_controls 358 = .ok (.ifCond .le 21, 3) := by decide +kernel
theorem dX7_controls_361 : decode cX7_controls 361 = .ok (.lload 7, 2) := by decide +kernel
theorem dX7_controls_363 : decode cX7_controls 363 = .ok (.lconst 0, 1) := by decide +kernel
theorem dX7_controls_364 : decode cX7_controls 364 = .ok (.lcmp, 1) := by decide +kernel
theorem dX7_controls_365 : decode cX7_controls 365 = .ok (.ifCond .ge 14, 3) := by decide +kernel
theorem dX7_controls_368 : decode cX7_controls 368 = .ok (.aload_n 0, 1) := by decide +kernel
theorem dX7_controls_369 : decode cX7_controls 369 = .ok (.getfield 7, 3) := by decide +kernel
theorem dX7_controls_372 : decode cX7_controls 372 = .ok (.sipush 647, 3) := by decide +kernel
theorem dX7_controls_375 : decode cX7_controls 375 = .ok (.laload, 1) := by decide +kernel
theorem dX7_controls_376 : decode cX7_controls 376 = .ok (.goto 5, 3) := by decide +kernel
theorem dX7_controls_379 : decode cX7_controls 379 = .ok (.lload 9, 2) := by decide +kernel
theorem dX7_controls_381 : decode cX7_controls 381 = .ok (.lastore, 1) := by decide +kernel
theorem dX7_controls_382 : decode cX7_controls 382 = .ok (.aload_n 0, 1) := by decide +kernel
theorem dX7_controls_383 : decode cX7_controls 383 = .ok (.getfield 7, 3) := by decide +kernel
theorem dX7_controls_386 : decode cX7_controls 386 = .ok (.sipush 657, 3) := by decide +kernel
theorem dX7_controls_389 : decode cX7_controls 389 = .ok (.dup2, 1) := by decide +kernel
theorem dX7_controls_390 : decode cX7_controls 390 = .ok (.laload, 1) := by decide +kernel
theorem dX7_controls_391 : decode cX7_controls 391 = .ok (.lload 13, 2) := by decide +kernel
theorem dX7_controls_393 : decode cX7_controls 393 = .ok (.lload 15, 2) := by decide +kernel
theorem dX7_controls_395 : decode cX7_controls 395 = .ok (.lsub, 1) := by decide +kernel
theorem dX7_controls_396 : decode cX7_controls 396 = .ok (.invokestatic 152, 3) := by decide +kernel
theorem dX7_controls_399 : decode cX7_controls 399 = .ok (.ladd, 1) := by decide +kernel
theorem dX7_controls_400 : decode cX7_controls 400 = .ok (.lastore, 1) := by decide +kernel
theorem dX7_controls_401 : decode cX7_controls 401 = .ok (.return_, 1) := by decide +kernel
set_option maxRecDepth 20000 in
theorem ggX7_ticks_X7_noise : GoodIn wsX7_ticks wsX7_noise := goodIn_r _ [9, 10, 1, 11, 12, 13, 2, 54, 55, 56, 57, 58, 59, 60, 61, 62, 63, 64, 65, 66, 67, 68, 69, 70, 71] (by decide +kernel) (by decide +kernel)
set_option maxRecDepth 20000 in
theorem gX7_ticks_X7_noise : GoodIn wsX7_ticks (wsV RX7 160 RX7 yX7_noise wsX7_noise) := goodIn_app (goodIn_of _ (by decide +kernel)) ggX7_ticks_X7_noise
set_option maxRecDepth 20000 in
theorem ggX7_ticks_X7_records : GoodIn wsX7_ticks wsX7_records := goodIn_r _ [17, 1, 18, 54, 55, 56, 57, 58, 59, 60, 61, 62, 63, 64, 65, 66, 67, 68, 69, 70, 71] (by decide +kernel) (by decide +kernel)
set_option maxRecDepth 20000 in
theorem gX7_ticks_X7_records : GoodIn wsX7_ticks (wsV RX7 164 RX7 yX7_records wsX7_records) := goodIn_app (goodIn_of _ (by decide +kernel)) ggX7_ticks_X7_records
set_option maxRecDepth 20000 in
theorem ggX7_ticks_X7_delayed : GoodIn wsX7_ticks wsX7_delayed := goodIn_r _ [22, 1, 23, 24, 25, 26, 8, 27, 18, 28, 29, 30, 54, 55, 56, 57, 58, 59, 60, 61, 62, 63, 64, 65, 66, 67, 68, 69, 70, 71] (by decide +kernel) (by decide +kernel)
set_option maxRecDepth 20000 in
theorem gX7_ticks_X7_delayed : GoodIn wsX7_ticks (wsV RX7 168 RX7 yX7_delayed wsX7_delayed) := goodIn_app (goodIn_of _ (by decide +kernel)) ggX7_ticks_X7_delayed
set_option maxRecDepth 20000 in
theorem ggX7_ticks_X7_steps : GoodIn wsX7_ticks wsX7_steps := goodIn_r _ [34, 4, 28, 29, 8, 30] (by decide +kernel) (by decide +kernel)
set_option maxRecDepth 20000 in
theorem gX7_ticks_X7_steps : GoodIn wsX7_ticks (wsV RX7 172 RX7 yX7_steps wsX7_steps) := goodIn_app (goodIn_of _ (by decide +kernel)) ggX7_ticks_X7_steps
set_option maxRecDepth 20000 in
theorem ggX7_ticks_X7_judges : GoodIn wsX7_ticks wsX7_judges := goodIn_r _ [38, 2, 1, 13, 39, 40, 8, 41, 54, 55, 56, 57, 58, 59, 60, 61, 62, 63, 64, 65, 66, 67, 68, 69, 70, 71] (by decide +kernel) (by decide +kernel)
set_option maxRecDepth 20000 in
theorem gX7_ticks_X7_judges : GoodIn wsX7_ticks (wsV RX7 176 RX7 yX7_judges wsX7_judges) := goodIn_app (goodIn_of _ (by decide +kernel)) ggX7_ticks_X7_judges
set_option maxRecDepth 20000 in
theorem ggX7_ticks_X7_controls : GoodIn wsX7_ticks wsX7_controls := goodIn_r _ [45, 1, 3, 2, 4, 28, 29, 8, 30, 39, 40, 41, 54, 55, 56, 57, 58, 59, 60, 61, 62, 63, 64, 65, 66, 67, 68, 69, 70, 71] (by decide +kernel) (by decide +kernel)
set_option maxRecDepth 20000 in
theorem gX7_ticks_X7_controls : GoodIn wsX7_ticks (wsV RX7 180 RX7 yX7_controls wsX7_controls) := goodIn_app (goodIn_of _ (by decide +kernel)) ggX7_ticks_X7_controls
set_option maxRecDepth 20000 in
theorem ggX7_ticks_X7_measures : GoodIn wsX7_ticks wsX7_measures := goodIn_r _ [49, 1, 39, 40, 8, 41, 54, 55, 56, 57, 58, 59, 60, 61, 62, 63, 64, 65, 66, 67, 68, 69, 70, 71] (by decide +kernel) (by decide +kernel)
set_option maxRecDepth 20000 in
theorem gX7_ticks_X7_measures : GoodIn wsX7_ticks (wsV RX7 183 RX7 yX7_measures wsX7_measures) := goodIn_app (goodIn_of _ (by decide +kernel)) ggX7_ticks_X7_measures
set_option maxRecDepth 20000 in
theorem ggX7_ticks_X7_watches : GoodIn wsX7_ticks wsX7_watches := goodIn_r _ [53, 1, 24, 25, 26, 8, 27, 18, 54, 55, 56, 57, 58, 59, 60, 61, 62, 63, 64, 65, 66, 67, 68, 69, 70, 71] (by decide +kernel) (by decide +kernel)
set_option maxRecDepth 20000 in
theorem gX7_ticks_X7_watches : GoodIn wsX7_ticks (wsV RX7 186 RX7 yX7_watches wsX7_watches) := goodIn_app (goodIn_of _ (by decide +kernel)) ggX7_ticks_X7_watches
set_option maxRecDepth 20000 in
theorem ggX7_ticks_X7_floor : GoodIn wsX7_ticks wsX7_floor := goodIn_r _ [30] (by decide +kernel) (by decide +kernel)
set_option maxRecDepth 20000 in
theorem gX7_ticks_X7_floor : GoodIn wsX7_ticks (va_wsS RX7 138 yX7_floor wsX7_floor) := goodIn_app (goodIn_of _ (by decide +kernel)) ggX7_ticks_X7_floor
theorem dX7_ticks_0 : decode cX7_ticks 0 = .ok (.aload_n 0, 1) := by decide +kernel
theorem dX7_ticks_1 : decode cX7_ticks 1 = .ok (.getfield 7, 3) := by decide +kernel
theorem dX7_ticks_4 : decode cX7_ticks 4 = .ok (.sipush 652, 3) := by decide +kernel
theorem dX7_ticks_7 : decode cX7_ticks 7 = .ok (.aload_n 0, 1) := by decide +kernel
theorem dX7_ticks_8 : decode cX7_ticks 8 = .ok (.getfield 7, 3) := by decide +kernel
theorem dX7_ticks_11 : decode cX7_ticks 11 = .ok (.sipush 644, 3) := by decide +kernel
theorem dX7_ticks_14 : decode cX7_ticks 14 = .ok (.laload, 1) := by decide +kernel

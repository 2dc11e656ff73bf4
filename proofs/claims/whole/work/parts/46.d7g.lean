theorem dX7_measures_107 : decode cX7_measures 107 = .ok (.laload, 1) := by decide +kernel
theorem dX7_measures_108 : decode cX7_measures 108 = .ok (.aload_n 0, 1) := by decide +kernel
theorem dX7_measures_109 : decode cX7_measures 109 = .ok (.getfield 7, 3) := by decide +kernel
theorem dX7_measures_112 : decode cX7_measures 112 = .ok (.sipush 652, 3) := by decide +kernel
theorem dX7_measures_115 : decode cX7_measures 115 = .ok (.laload, 1) := by decide +kernel
theorem dX7_measures_116 : decode cX7_measures 116 = .ok (.lsub, 1) := by decide +kernel
theorem dX7_measures_117 : decode cX7_measures 117 = .ok (.invokestatic 152, 3) := by decide +kernel
theorem dX7_measures_120 : decode cX7_measures 120 = .ok (.ladd, 1) := by decide +kernel
theorem dX7_measures_121 : decode cX7_measures 121 = .ok (.lastore, 1) := by decide +kernel
theorem dX7_measures_122 : decode cX7_measures 122 = .ok (.aload_n 0, 1) := by decide +kernel
theorem dX7_measures_123 : decode cX7_measures 123 = .ok (.getfield 7, 3) := by decide +kernel
theorem dX7_measures_126 : decode cX7_measures 126 = .ok (.sipush 659, 3) := by decide +kernel
theorem dX7_measures_129 : decode cX7_measures 129 = .ok (.dup2, 1) := by decide +kernel
theorem dX7_measures_130 : decode cX7_measures 130 = .ok (.laload, 1) := by decide +kernel
theorem dX7_measures_131 : decode cX7_measures 131 = .ok (.lconst 1, 1) := by decide +kernel
theorem dX7_measures_132 : decode cX7_measures 132 = .ok (.ladd, 1) := by decide +kernel
theorem dX7_measures_133 : decode cX7_measures 133 = .ok (.lastore, 1) := by decide +kernel
theorem dX7_measures_134 : decode cX7_measures 134 = .ok (.return_, 1) := by decide +kernel
set_option maxRecDepth 20000 in
theorem ggX7_watches_X7_at : GoodIn wsX7_watches wsX7_at := goodIn_r _ [6, 1, 7, 8, 9, 10, 11, 12, 13, 14, 15, 16, 17, 18, 19, 20, 21, 22, 23, 24, 25] (by decide +kernel) (by decide +kernel)
set_option maxRecDepth 20000 in
theorem gX7_watches_X7_at : GoodIn wsX7_watches (wsV RX7 132 RX7 yX7_at wsX7_at) := goodIn_app (goodIn_of _ (by decide +kernel)) ggX7_watches_X7_at
theorem dX7_watches_0 : decode cX7_watches 0 = .ok (.iconst 0, 1) := by decide +kernel
theorem dX7_watches_1 : decode cX7_watches 1 = .ok (.istore_n 1, 1) := by decide +kernel
theorem dX7_watches_2 : decode cX7_watches 2 = .ok (.iload_n 1, 1) := by decide +kernel
theorem dX7_watches_3 : decode cX7_watches 3 = .ok (.i2l, 1) := by decide +kernel
theorem dX7_watches_4 : decode cX7_watches 4 = .ok (.aload_n 0, 1) := by decide +kernel
theorem dX7_watches_5 : decode cX7_watches 5 = .ok (.getfield 7, 3) := by decide +kernel
theorem dX7_watches_8 : decode cX7_watches 8 = .ok (.sipush 660, 3) := by decide +kernel
theorem dX7_watches_11 : decode cX7_watches 11 = .ok (.laload, 1) := by decide +kernel
theorem dX7_watches_12 : decode cX7_watches 12 = .ok (.lcmp, 1) := by decide +kernel
theorem dX7_watches_13 : decode cX7_watches 13 = .ok (.ifCond .ge 147, 3) := by decide +kernel
theorem dX7_watches_16 : decode cX7_watches 16 = .ok (.sipush 661, 3) := by decide +kernel
theorem dX7_watches_19 : decode cX7_watches 19 = .ok (.iconst 5, 1) := by decide +kernel
theorem dX7_watches_20 : decode cX7_watches 20 = .ok (.iload_n 1, 1) := by decide +kernel
theorem dX7_watches_21 : decode cX7_watches 21 = .ok (.imul, 1) := by decide +kernel
theorem dX7_watches_22 : decode cX7_watches 22 = .ok (.iadd, 1) := by decide +kernel
theorem dX7_watches_23 : decode cX7_watches 23 = .ok (.istore_n 2, 1) := by decide +kernel
theorem dX7_watches_24 : decode cX7_watches 24 = .ok (.aload_n 0, 1) := by decide +kernel
theorem dX7_watches_25 : decode cX7_watches 25 = .ok (.aload_n 0, 1) := by decide +kernel
theorem dX7_watches_26 : decode cX7_watches 26 = .ok (.getfield 7, 3) := by decide +kernel
theorem dX7_watches_29 : decode cX7_watches 29 = .ok (.iload_n 2, 1) := by decide +kernel
theorem dX7_watches_30 : decode cX7_watches 30 = .ok (.laload, 1) := by decide +kernel
theorem dX7_watches_31 : decode cX7_watches 31 = .ok (.l2i, 1) := by decide +kernel
theorem dX7_watches_32 : decode cX7_watches 32 = .ok (.aload_n 0, 1) := by decide +kernel
theorem dX7_watches_33 : decode cX7_watches 33 = .ok (.getfield 7, 3) := by decide +kernel
theorem dX7_watches_36 : decode cX7_watches 36 = .ok (.sipush 640, 3) := by decide +kernel
theorem dX7_watches_39 : decode cX7_watches 39 = .ok (.laload, 1) := by decide +kernel
theorem dX7_watches_40 : decode cX7_watches 40 = .ok (.invokevirtual 132, 3) := by decide +kernel
theorem dX7_watches_43 : decode cX7_watches 43 = .ok (.lstore_n 3, 1) := by decide +kernel
theorem dX7_watches_44 : decode cX7_watches 44 = .ok (.aload_n 0, 1) := by decide +kernel
theorem dX7_watches_45 : decode cX7_watches 45 = .ok (.getfield 7, 3) := by decide +kernel
theorem dX7_watches_48 : decode cX7_watches 48 = .ok (.iload_n 2, 1) := by decide +kernel
theorem dX7_watches_49 : decode cX7_watches 49 = .ok (.iconst 1, 1) := by decide +kernel
theorem dX7_watches_50 : decode cX7_watches 50 = .ok (.iadd, 1) := by decide +kernel
theorem dX7_watches_51 : decode cX7_watches 51 = .ok (.laload, 1) := by decide +kernel
theorem dX7_watches_52 : decode cX7_watches 52 = .ok (.lconst 0, 1) := by decide +kernel
theorem dX7_watches_53 : decode cX7_watches 53 = .ok (.lcmp, 1) := by decide +kernel
theorem dX7_watches_54 : decode cX7_watches 54 = .ok (.ifCond .ne 7, 3) := by decide +kernel
theorem dX7_watches_57 : decode cX7_watches 57 = .ok (.iconst 1, 1) := by decide +kernel
theorem dX7_watches_58 : decode cX7_watches 58 = .ok (.goto 4, 3) := by decide +kernel
theorem dX7_watches_61 : decode cX7_watches 61 = .ok (.iconst 0, 1) := by decide +kernel
theorem dX7_watches_62 : decode cX7_watches 62 = .ok (.istore 5, 2) := by decide +kernel
theorem dX7_watches_64 : decode cX7_watches 64 = .ok (.aload_n 0, 1) := by decide +kernel
theorem dX7_watches_65 : decode cX7_watches 65 = .ok (.getfield 7, 3) := by decide +kernel
theorem dX7_watches_68 : decode cX7_watches 68 = .ok (.iload_n 2, 1) := by decide +kernel
theorem dX7_watches_69 : decode cX7_watches 69 = .ok (.iconst 2, 1) := by decide +kernel
theorem dX7_watches_70 : decode cX7_watches 70 = .ok (.iadd, 1) := by decide +kernel
theorem dX7_watches_71 : decode cX7_watches 71 = .ok (.iload 5, 2) := by decide +kernel
theorem dX7_watches_73 : decode cX7_watches 73 = .ok (.ifCond .ne 16, 3) := by decide +kernel
theorem dX7_watches_76 : decode cX7_watches 76 = .ok (.lload_n 3, 1) := by decide +kernel
theorem dX7_watches_77 : decode cX7_watches 77 = .ok (.aload_n 0, 1) := by decide +kernel
theorem dX7_watches_78 : decode cX7_watches 78 = .ok (.getfield 7, 3) := by decide +kernel
theorem dX7_watches_81 : decode cX7_watches 81 = .ok (.iload_n 2, 1) := by decide +kernel
theorem dX7_watches_82 : decode cX7_watches 82 = .ok (.iconst 2, 1) := by decide +kernel
theorem dX7_watches_83 : decode cX7_watches 83 = .ok (.iadd, 1) := by decide +kernel
theorem dX7_watches_84 : decode cX7_watches 84 = .ok (.laload, 1) := by decide +kernel
theorem dX7_watches_85 : decode cX7_watches 85 = .ok (.lcmp, 1) := by decide +kernel
theorem dX7_watches_86 : decode cX7_watches 86 = .ok (.ifCond .ge 7, 3) := by decide +kernel
theorem dX7_watches_89 : decode cX7_watches 89 = .ok (.lload_n 3, 1) := by decide +kernel
theorem dX7_watches_90 : decode cX7_watches 90 = .ok (.goto 11, 3) := by decide +kernel
theorem dX7_watches_93 : decode cX7_watches 93 = .ok (.aload_n 0, 1) := by decide +kernel
theorem dX7_watches_94 : decode cX7_watches 94 = .ok (.getfield 7, 3) := by decide +kernel
theorem dX7_watches_97 : decode cX7_watches 97 = .ok (.iload_n 2, 1) := by decide +kernel
theorem dX7_watches_98 : decode cX7_watches 98 = .ok (.iconst 2, 1) := by decide +kernel
theorem dX7_watches_99 : decode cX7_watches 99 = .ok (.iadd, 1) := by decide +kernel
theorem dX7_watches_100 : decode cX7_watches 100 = .ok (.laload, 1) := by decide +kernel
theorem dX7_watches_101 : decode cX7_watches 101 = .ok (.lastore, 1) := by decide +kernel
theorem dX7_watches_102 : decode cX7_watches 102 = .ok (.iload 5, 2) := by decide +kernel
theorem dX7_watches_104 : decode cX7_watches 104 = .ok (.ifCond .ne 16, 3) := by decide +kernel
theorem dX7_watches_107 : decode cX7_watches 107 = .ok (.lload_n 3, 1) := by decide +kernel
theorem dX7_watches_108 : decode cX7_watches 108 = .ok (.aload_n 0, 1) := by decide +kernel
theorem dX7_watches_109 : decode cX7_watches 109 = .ok (.getfield 7, 3) := by decide +kernel
theorem dX7_watches_112 : decode cX7_watches 112 = .ok (.iload_n 2, 1) := by decide +kernel
theorem dX7_watches_113 : decode cX7_watches 113 = .ok (.iconst 3, 1) := by decide +kernel
theorem dX7_watches_114 : decode cX7_watches 114 = .ok (.iadd, 1) := by decide +kernel
theorem dX7_watches_115 : decode cX7_watches 115 = .ok (.laload, 1) := by decide +kernel
theorem dX7_watches_116 : decode cX7_watches 116 = .ok (.lcmp, 1) := by decide +kernel
theorem dX7_watches_117 : decode cX7_watches 117 = .ok (.ifCond .le 28, 3) := by decide +kernel
theorem dX7_watches_120 : decode cX7_watches 120 = .ok (.aload_n 0, 1) := by decide +kernel
theorem dX7_watches_121 : decode cX7_watches 121 = .ok (.getfield 7, 3) := by decide +kernel
theorem dX7_watches_124 : decode cX7_watches 124 = .ok (.iload_n 2, 1) := by decide +kernel
theorem dX7_watches_125 : decode cX7_watches 125 = .ok (.iconst 3, 1) := by decide +kernel
theorem dX7_watches_126 : decode cX7_watches 126 = .ok (.iadd, 1) := by decide +kernel
theorem dX7_watches_127 : decode cX7_watches 127 = .ok (.lload_n 3, 1) := by decide +kernel
theorem dX7_watches_128 : decode cX7_watches 128 = .ok (.lastore, 1) := by decide +kernel
theorem dX7_watches_129 : decode cX7_watches 129 = .ok (.aload_n 0, 1) := by decide +kernel
theorem dX7_watches_130 : decode cX7_watches 130 = .ok (.getfield 7, 3) := by decide +kernel
theorem dX7_watches_133 : decode cX7_watches 133 = .ok (.iload_n 2, 1) := by decide +kernel
theorem dX7_watches_134 : decode cX7_watches 134 = .ok (.iconst 4, 1) := by decide +kernel
theorem dX7_watches_135 : decode cX7_watches 135 = .ok (.iadd, 1) := by decide +kernel
theorem dX7_watches_136 : decode cX7_watches 136 = .ok (.aload_n 0, 1) := by decide +kernel
theorem dX7_watches_137 : decode cX7_watches 137 = .ok (.getfield 7, 3) := by decide +kernel
theorem dX7_watches_140 : decode cX7_watches 140 = .ok (.sipush 640, 3) := by decide +kernel
theorem dX7_watches_143 : decode cX7_watches 143 = .ok (.laload, 1) := by decide +kernel
theorem dX7_watches_144 : decode cX7_watches 144 = .ok (.lastore, 1) := by decide +kernel
theorem dX7_watches_145 : decode cX7_watches 145 = .ok (.aload_n 0, 1) := by decide +kernel
theorem dX7_watches_146 : decode cX7_watches 146 = .ok (.getfield 7, 3) := by decide +kernel
theorem dX7_watches_149 : decode cX7_watches 149 = .ok (.iload_n 2, 1) := by decide +kernel
theorem dX7_watches_150 : decode cX7_watches 150 = .ok (.iconst 1, 1) := by decide +kernel
theorem dX7_watches_151 : decode cX7_watches 151 = .ok (.iadd, 1) := by decide +kernel
theorem dX7_watches_152 : decode cX7_watches 152 = .ok (.lconst 1, 1) := by decide +kernel
theorem dX7_watches_153 : decode cX7_watches 153 = .ok (.lastore, 1) := by decide +kernel
theorem dX7_watches_154 : decode cX7_watches 154 = .ok (.iinc 1 1, 3) := by decide +kernel
theorem dX7_watches_157 : decode cX7_watches 157 = .ok (.goto (-155), 3) := by decide +kernel
theorem dX7_watches_160 : decode cX7_watches 160 = .ok (.return_, 1) := by decide +kernel
set_option maxRecDepth 20000 in
theorem ggX7_run_X7_in : GoodIn wsX7_run wsX7_in := goodIn_r _ [9] (by decide +kernel) (by decide +kernel)
set_option maxRecDepth 20000 in
theorem gX7_run_X7_in : GoodIn wsX7_run (va_wsS RX7 66 yX7_in wsX7_in) := goodIn_app (goodIn_of _ (by decide +kernel)) ggX7_run_X7_in

set_option maxRecDepth 20000 in
theorem ggX7_run_X7_ticks : GoodIn wsX7_run wsX7_ticks := goodIn_r _ [13, 3, 14, 15, 16, 17, 18, 19, 8, 20, 21, 22, 23, 24, 25, 26, 27, 28, 29, 30, 31, 32, 33, 34, 35, 36, 37, 38, 39, 40, 41, 42, 43, 44, 45, 46, 47, 48, 49, 50, 51, 52, 53, 54, 55, 56, 57, 58, 59, 60, 61, 62, 63, 64, 65, 66, 67, 68, 69, 70, 71, 72, 73, 74, 75, 76, 77, 78, 79, 80, 81, 82] rfl (by decide +kernel)
set_option maxRecDepth 20000 in
theorem gX7_run_X7_ticks : GoodIn wsX7_run (wsV RX7 191 RX7 yX7_ticks wsX7_ticks) := goodIn_app (goodIn_of _ (by decide +kernel)) ggX7_run_X7_ticks
theorem dX7_run_0 : decode cX7_run 0 = .ok (.iload_n 1, 1) := by decide +kernel
theorem dX7_run_1 : decode cX7_run 1 = .ok (.i2l, 1) := by decide +kernel
theorem dX7_run_2 : decode cX7_run 2 = .ok (.lconst 1, 1) := by decide +kernel
theorem dX7_run_3 : decode cX7_run 3 = .ok (.ldc2_w 189, 3) := by decide +kernel
theorem dX7_run_6 : decode cX7_run 6 = .ok (.invokestatic 66, 3) := by decide +kernel
theorem dX7_run_9 : decode cX7_run 9 = .ok (.ifCond .ne 6, 3) := by decide +kernel
theorem dX7_run_12 : decode cX7_run 12 = .ok (.ldc 74, 2) := by decide +kernel
theorem dX7_run_14 : decode cX7_run 14 = .ok (.ireturn, 1) := by decide +kernel
theorem dX7_run_15 : decode cX7_run 15 = .ok (.aload_n 0, 1) := by decide +kernel
theorem dX7_run_16 : decode cX7_run 16 = .ok (.getfield 7, 3) := by decide +kernel
theorem dX7_run_19 : decode cX7_run 19 = .ok (.sipush 640, 3) := by decide +kernel
theorem dX7_run_22 : decode cX7_run 22 = .ok (.laload, 1) := by decide +kernel
theorem dX7_run_23 : decode cX7_run 23 = .ok (.iload_n 1, 1) := by decide +kernel
theorem dX7_run_24 : decode cX7_run 24 = .ok (.i2l, 1) := by decide +kernel
theorem dX7_run_25 : decode cX7_run 25 = .ok (.ladd, 1) := by decide +kernel
theorem dX7_run_26 : decode cX7_run 26 = .ok (.ldc2_w 86, 3) := by decide +kernel
theorem dX7_run_29 : decode cX7_run 29 = .ok (.lcmp, 1) := by decide +kernel
theorem dX7_run_30 : decode cX7_run 30 = .ok (.ifCond .le 6, 3) := by decide +kernel
theorem dX7_run_33 : decode cX7_run 33 = .ok (.ldc 97, 2) := by decide +kernel
theorem dX7_run_35 : decode cX7_run 35 = .ok (.ireturn, 1) := by decide +kernel
theorem dX7_run_36 : decode cX7_run 36 = .ok (.iconst 0, 1) := by decide +kernel
theorem dX7_run_37 : decode cX7_run 37 = .ok (.istore_n 2, 1) := by decide +kernel
theorem dX7_run_38 : decode cX7_run 38 = .ok (.iload_n 2, 1) := by decide +kernel
theorem dX7_run_39 : decode cX7_run 39 = .ok (.iload_n 1, 1) := by decide +kernel
theorem dX7_run_40 : decode cX7_run 40 = .ok (.if_icmp .ge 13, 3) := by decide +kernel
theorem dX7_run_43 : decode cX7_run 43 = .ok (.aload_n 0, 1) := by decide +kernel
theorem dX7_run_44 : decode cX7_run 44 = .ok (.invokevirtual 191, 3) := by decide +kernel
theorem dX7_run_47 : decode cX7_run 47 = .ok (.iinc 2 1, 3) := by decide +kernel
theorem dX7_run_50 : decode cX7_run 50 = .ok (.goto (-12), 3) := by decide +kernel
theorem dX7_run_53 : decode cX7_run 53 = .ok (.aload_n 0, 1) := by decide +kernel
theorem dX7_run_54 : decode cX7_run 54 = .ok (.getfield 7, 3) := by decide +kernel
theorem dX7_run_57 : decode cX7_run 57 = .ok (.sipush 640, 3) := by decide +kernel
theorem dX7_run_60 : decode cX7_run 60 = .ok (.laload, 1) := by decide +kernel
theorem dX7_run_61 : decode cX7_run 61 = .ok (.l2i, 1) := by decide +kernel
theorem dX7_run_62 : decode cX7_run 62 = .ok (.ireturn, 1) := by decide +kernel
theorem dX7_time_0 : decode cX7_time 0 = .ok (.aload_n 0, 1) := by decide +kernel
theorem dX7_time_1 : decode cX7_time 1 = .ok (.getfield 7, 3) := by decide +kernel
theorem dX7_time_4 : decode cX7_time 4 = .ok (.sipush 640, 3) := by decide +kernel
theorem dX7_time_7 : decode cX7_time 7 = .ok (.laload, 1) := by decide +kernel
theorem dX7_time_8 : decode cX7_time 8 = .ok (.l2i, 1) := by decide +kernel
theorem dX7_time_9 : decode cX7_time 9 = .ok (.ireturn, 1) := by decide +kernel
set_option maxRecDepth 20000 in
theorem ggX7_isSignal_X7_in : GoodIn wsX7_isSignal wsX7_in := goodIn_r _ [5] (by decide +kernel) (by decide +kernel)
set_option maxRecDepth 20000 in
theorem gX7_isSignal_X7_in : GoodIn wsX7_isSignal (va_wsS RX7 66 yX7_in wsX7_in) := goodIn_app (goodIn_of _ (by decide +kernel)) ggX7_isSignal_X7_in
theorem dX7_isSignal_0 : decode cX7_isSignal 0 = .ok (.iload_n 0, 1) := by decide +kernel
theorem dX7_isSignal_1 : decode cX7_isSignal 1 = .ok (.i2l, 1) := by decide +kernel
theorem dX7_isSignal_2 : decode cX7_isSignal 2 = .ok (.lconst 0, 1) := by decide +kernel
theorem dX7_isSignal_3 : decode cX7_isSignal 3 = .ok (.ldc2_w 194, 3) := by decide +kernel
theorem dX7_isSignal_6 : decode cX7_isSignal 6 = .ok (.invokestatic 66, 3) := by decide +kernel
theorem dX7_isSignal_9 : decode cX7_isSignal 9 = .ok (.ireturn, 1) := by decide +kernel
theorem dX7_present_0 : decode cX7_present 0 = .ok (.iload_n 1, 1) := by decide +kernel
theorem dX7_present_1 : decode cX7_present 1 = .ok (.tableswitch 141 0 8 #[51, 61, 71, 81, 91, 101, 111, 121, 131], 51) := by decide +kernel
theorem dX7_present_52 : decode cX7_present 52 = .ok (.aload_n 0, 1) := by decide +kernel
theorem dX7_present_53 : decode cX7_present 53 = .ok (.getfield 7, 3) := by decide +kernel
theorem dX7_present_56 : decode cX7_present 56 = .ok (.sipush 641, 3) := by decide +kernel
theorem dX7_present_59 : decode cX7_present 59 = .ok (.laload, 1) := by decide +kernel
theorem dX7_present_60 : decode cX7_present 60 = .ok (.l2i, 1) := by decide +kernel
theorem dX7_present_61 : decode cX7_present 61 = .ok (.ireturn, 1) := by decide +kernel
theorem dX7_present_62 : decode cX7_present 62 = .ok (.aload_n 0, 1) := by decide +kernel
theorem dX7_present_63 : decode cX7_present 63 = .ok (.getfield 7, 3) := by decide +kernel
theorem dX7_present_66 : decode cX7_present 66 = .ok (.sipush 652, 3) := by decide +kernel
theorem dX7_present_69 : decode cX7_present 69 = .ok (.laload, 1) := by decide +kernel
theorem dX7_present_70 : decode cX7_present 70 = .ok (.l2i, 1) := by decide +kernel
theorem dX7_present_71 : decode cX7_present 71 = .ok (.ireturn, 1) := by decide +kernel
theorem dX7_present_72 : decode cX7_present 72 = .ok (.aload_n 0, 1) := by decide +kernel
theorem dX7_present_73 : decode cX7_present 73 = .ok (.getfield 7, 3) := by decide +kernel
theorem dX7_present_76 : decode cX7_present 76 = .ok (.sipush 651, 3) := by decide +kernel
theorem dX7_present_79 : decode cX7_present 79 = .ok (.laload, 1) := by decide +kernel
theorem dX7_present_80 : decode cX7_present 80 = .ok (.l2i, 1) := by decide +kernel
theorem dX7_present_81 : decode cX7_present 81 = .ok (.ireturn, 1) := by decide +kernel
theorem dX7_present_82 : decode cX7_present 82 = .ok (.aload_n 0, 1) := by decide +kernel
theorem dX7_present_83 : decode cX7_present 83 = .ok (.getfield 7, 3) := by decide +kernel
theorem dX7_present_86 : decode cX7_present 86 = .ok (.sipush 645, 3) := by decide +kernel
theorem dX7_present_89 : decode cX7_present 89 = .ok (.laload, 1) := by decide +kernel
theorem dX7_present_90 : decode cX7_present 90 = .ok (.l2i, 1) := by decide +kernel
theorem dX7_present_91 : decode cX7_present 91 = .ok (.ireturn, 1) := by decide +kernel
theorem dX7_present_92 : decode cX7_present 92 = .ok (.aload_n 0, 1) := by decide +kernel
theorem dX7_present_93 : decode cX7_present 93 = .ok (.getfield 7, 3) := by decide +kernel
theorem dX7_present_96 : decode cX7_present 96 = .ok (.sipush 653, 3) := by decide +kernel
theorem dX7_present_99 : decode cX7_present 99 = .ok (.laload, 1) := by decide +kernel
theorem dX7_present_100 : decode cX7_present 100 = .ok (.l2i, 1) := by decide +kernel
theorem dX7_present_101 : decode cX7_present 101 = .ok (.ireturn, 1) := by decide +kernel
theorem dX7_present_102 : decode cX7_present 102 = .ok (.aload_n 0, 1) := by decide +kernel
theorem dX7_present_103 : decode cX7_present 103 = .ok (.getfield 7, 3) := by decide +kernel
theorem dX7_present_106 : decode cX7_present 106 = .ok (.sipush 646, 3) := by decide +kernel
theorem dX7_present_109 : decode cX7_present 109 = .ok (.laload, 1) := by decide +kernel
theorem dX7_present_110 : decode cX7_present 110 = .ok (.l2i, 1) := by decide +kernel
theorem dX7_present_111 : decode cX7_present 111 = .ok (.ireturn, 1) := by decide +kernel
theorem dX7_present_112 : decode cX7_present 112 = .ok (.aload_n 0, 1) := by decide +kernel
theorem dX7_present_113 : decode cX7_present 113 = .ok (.getfield 7, 3) := by decide +kernel
theorem dX7_present_116 : decode cX7_present 116 = .ok (.sipush 654, 3) := by decide +kernel
theorem dX7_present_119 : decode cX7_present 119 = .ok (.laload, 1) := by decide +kernel
theorem dX7_present_120 : decode cX7_present 120 = .ok (.l2i, 1) := by decide +kernel
theorem dX7_present_121 : decode cX7_present 121 = .ok (.ireturn, 1) := by decide +kernel
theorem dX7_present_122 : decode cX7_present 122 = .ok (.aload_n 0, 1) := by decide +kernel
theorem dX7_present_123 : decode cX7_present 123 = .ok (.getfield 7, 3) := by decide +kernel
theorem dX7_present_126 : decode cX7_present 126 = .ok (.sipush 647, 3) := by decide +kernel
theorem dX7_present_129 : decode cX7_present 129 = .ok (.laload, 1) := by decide +kernel
theorem dX7_present_130 : decode cX7_present 130 = .ok (.l2i, 1) := by decide +kernel
theorem dX7_present_131 : decode cX7_present 131 = .ok (.ireturn, 1) := by decide +kernel
theorem dX7_present_132 : decode cX7_present 132 = .ok (.aload_n 0, 1) := by decide +kernel
theorem dX7_present_133 : decode cX7_present 133 = .ok (.getfield 7, 3) := by decide +kernel
theorem dX7_present_136 : decode cX7_present 136 = .ok (.sipush 644, 3) := by decide +kernel
theorem dX7_present_139 : decode cX7_present 139 = .ok (.laload, 1) := by decide +kernel
theorem dX7_present_140 : decode cX7_present 140 = .ok (.l2i, 1) := by decide +kernel
theorem dX7_present_141 : decode cX7_present 141 = .ok (.ireturn, 1) := by decide +kernel
theorem dX7_present_142 : decode cX7_present 142 = .ok (.aload_n 0, 1) := by decide +kernel
theorem dX7_present_143 : decode cX7_present 143 = .ok (.getfield 7, 3) := by decide +kernel
theorem dX7_present_146 : decode cX7_present 146 = .ok (.sipush 648, 3) := by decide +kernel
theorem dX7_present_149 : decode cX7_present 149 = .ok (.laload, 1) := by decide +kernel
theorem dX7_present_150 : decode cX7_present 150 = .ok (.l2i, 1) := by decide +kernel
theorem dX7_present_151 : decode cX7_present 151 = .ok (.ireturn, 1) := by decide +kernel
set_option maxRecDepth 20000 in
theorem ggX7_value_X7_isSignal : GoodIn wsX7_value wsX7_isSignal := goodIn_r _ [5, 6, 7, 8, 4, 9] (by decide +kernel) (by decide +kernel)
set_option maxRecDepth 20000 in
theorem gX7_value_X7_isSignal : GoodIn wsX7_value (va_wsS RX7 196 yX7_isSignal wsX7_isSignal) := goodIn_app (goodIn_of _ (by decide +kernel)) ggX7_value_X7_isSignal
set_option maxRecDepth 20000 in
theorem ggX7_value_X7_present : GoodIn wsX7_value wsX7_present := goodIn_r _ [13, 14, 15, 16, 17, 18, 19, 20, 21, 22, 23, 24, 25, 26, 27, 28, 29, 30, 31, 32] (by decide +kernel) (by decide +kernel)
set_option maxRecDepth 20000 in
theorem gX7_value_X7_present : GoodIn wsX7_value (wsV RX7 199 RX7 yX7_present wsX7_present) := goodIn_app (goodIn_of _ (by decide +kernel)) ggX7_value_X7_present
theorem dX7_value_0 : decode cX7_value 0 = .ok (.iload_n 1, 1) := by decide +kernel
theorem dX7_value_1 : decode cX7_value 1 = .ok (.invokestatic 196, 3) := by decide +kernel
theorem dX7_value_4 : decode cX7_value 4 = .ok (.ifCond .eq 11, 3) := by decide +kernel
theorem dX7_value_7 : decode cX7_value 7 = .ok (.aload_n 0, 1) := by decide +kernel
theorem dX7_value_8 : decode cX7_value 8 = .ok (.iload_n 1, 1) := by decide +kernel

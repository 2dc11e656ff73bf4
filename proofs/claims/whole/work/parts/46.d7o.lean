theorem dX7_ahead_12 : decode cX7_ahead 12 = .ok (.iload_n 2, 1) := by decide +kernel
theorem dX7_ahead_13 : decode cX7_ahead 13 = .ok (.invokestatic 196, 3) := by decide +kernel
theorem dX7_ahead_16 : decode cX7_ahead 16 = .ok (.ifCond .ne 6, 3) := by decide +kernel
theorem dX7_ahead_19 : decode cX7_ahead 19 = .ok (.ldc 74, 2) := by decide +kernel
theorem dX7_ahead_21 : decode cX7_ahead 21 = .ok (.ireturn, 1) := by decide +kernel
theorem dX7_ahead_22 : decode cX7_ahead 22 = .ok (.aload_n 0, 1) := by decide +kernel
theorem dX7_ahead_23 : decode cX7_ahead 23 = .ok (.invokevirtual 232, 3) := by decide +kernel
theorem dX7_ahead_26 : decode cX7_ahead 26 = .ok (.iconst 0, 1) := by decide +kernel
theorem dX7_ahead_27 : decode cX7_ahead 27 = .ok (.istore_n 3, 1) := by decide +kernel
theorem dX7_ahead_28 : decode cX7_ahead 28 = .ok (.iload_n 3, 1) := by decide +kernel
theorem dX7_ahead_29 : decode cX7_ahead 29 = .ok (.iload_n 1, 1) := by decide +kernel
theorem dX7_ahead_30 : decode cX7_ahead 30 = .ok (.if_icmp .ge 13, 3) := by decide +kernel
theorem dX7_ahead_33 : decode cX7_ahead 33 = .ok (.aload_n 0, 1) := by decide +kernel
theorem dX7_ahead_34 : decode cX7_ahead 34 = .ok (.invokevirtual 191, 3) := by decide +kernel
theorem dX7_ahead_37 : decode cX7_ahead 37 = .ok (.iinc 3 1, 3) := by decide +kernel
theorem dX7_ahead_40 : decode cX7_ahead 40 = .ok (.goto (-12), 3) := by decide +kernel
theorem dX7_ahead_43 : decode cX7_ahead 43 = .ok (.aload_n 0, 1) := by decide +kernel
theorem dX7_ahead_44 : decode cX7_ahead 44 = .ok (.iload_n 2, 1) := by decide +kernel
theorem dX7_ahead_45 : decode cX7_ahead 45 = .ok (.invokevirtual 199, 3) := by decide +kernel
theorem dX7_ahead_48 : decode cX7_ahead 48 = .ok (.istore_n 3, 1) := by decide +kernel
theorem dX7_ahead_49 : decode cX7_ahead 49 = .ok (.aload_n 0, 1) := by decide +kernel
theorem dX7_ahead_50 : decode cX7_ahead 50 = .ok (.invokevirtual 235, 3) := by decide +kernel
theorem dX7_ahead_53 : decode cX7_ahead 53 = .ok (.iload_n 3, 1) := by decide +kernel
theorem dX7_ahead_54 : decode cX7_ahead 54 = .ok (.ireturn, 1) := by decide +kernel
set_option maxRecDepth 20000 in
theorem ggX7_bestGain_X7_in : GoodIn wsX7_bestGain wsX7_in := goodIn_r _ [8] (by decide +kernel) (by decide +kernel)
set_option maxRecDepth 20000 in
theorem gX7_bestGain_X7_in : GoodIn wsX7_bestGain (va_wsS RX7 66 yX7_in wsX7_in) := goodIn_app (goodIn_of _ (by decide +kernel)) ggX7_bestGain_X7_in
set_option maxRecDepth 20000 in
theorem ggX7_bestGain_X7_putsAside : GoodIn wsX7_bestGain wsX7_putsAside := goodIn_r _ [12, 13, 4, 14, 3, 73, 74, 75, 76, 77, 78, 79, 80, 81, 82, 83, 84, 85, 86, 87, 88, 89, 90] (by decide +kernel) (by decide +kernel)
set_option maxRecDepth 20000 in
theorem gX7_bestGain_X7_putsAside : GoodIn wsX7_bestGain (wsV RX7 232 RX7 yX7_putsAside wsX7_putsAside) := goodIn_app (goodIn_of _ (by decide +kernel)) ggX7_bestGain_X7_putsAside
set_option maxRecDepth 20000 in
theorem ggX7_bestGain_X7_putsBack : GoodIn wsX7_bestGain wsX7_putsBack := goodIn_r _ [18, 4, 13, 3, 14, 73, 74, 75, 76, 77, 78, 79, 80, 81, 82, 83, 84, 85, 86, 87, 88, 89, 90] (by decide +kernel) (by decide +kernel)
set_option maxRecDepth 20000 in
theorem gX7_bestGain_X7_putsBack : GoodIn wsX7_bestGain (wsV RX7 235 RX7 yX7_putsBack wsX7_putsBack) := goodIn_app (goodIn_of _ (by decide +kernel)) ggX7_bestGain_X7_putsBack
set_option maxRecDepth 20000 in
theorem ggX7_bestGain_X7_ticks : GoodIn wsX7_bestGain wsX7_ticks := goodIn_r _ [22, 4, 3, 23, 24, 25, 26, 27, 7, 28, 29, 30, 31, 32, 33, 34, 35, 36, 37, 38, 39, 40, 41, 42, 43, 44, 45, 46, 47, 48, 49, 50, 51, 52, 53, 54, 55, 56, 57, 58, 59, 60, 61, 62, 63, 64, 65, 66, 67, 68, 69, 70, 71, 72, 73, 74, 75, 76, 77, 78, 79, 80, 81, 82, 83, 84, 85, 86, 87, 88, 89, 90] rfl (by decide +kernel)
set_option maxRecDepth 20000 in
theorem gX7_bestGain_X7_ticks : GoodIn wsX7_bestGain (wsV RX7 191 RX7 yX7_ticks wsX7_ticks) := goodIn_app (goodIn_of _ (by decide +kernel)) ggX7_bestGain_X7_ticks
theorem dX7_bestGain_0 : decode cX7_bestGain 0 = .ok (.iload_n 1, 1) := by decide +kernel
theorem dX7_bestGain_1 : decode cX7_bestGain 1 = .ok (.i2l, 1) := by decide +kernel
theorem dX7_bestGain_2 : decode cX7_bestGain 2 = .ok (.lconst 1, 1) := by decide +kernel
theorem dX7_bestGain_3 : decode cX7_bestGain 3 = .ok (.ldc2_w 238, 3) := by decide +kernel
theorem dX7_bestGain_6 : decode cX7_bestGain 6 = .ok (.invokestatic 66, 3) := by decide +kernel
theorem dX7_bestGain_9 : decode cX7_bestGain 9 = .ok (.ifCond .ne 6, 3) := by decide +kernel
theorem dX7_bestGain_12 : decode cX7_bestGain 12 = .ok (.ldc 74, 2) := by decide +kernel
theorem dX7_bestGain_14 : decode cX7_bestGain 14 = .ok (.ireturn, 1) := by decide +kernel
theorem dX7_bestGain_15 : decode cX7_bestGain 15 = .ok (.aload_n 0, 1) := by decide +kernel
theorem dX7_bestGain_16 : decode cX7_bestGain 16 = .ok (.invokevirtual 232, 3) := by decide +kernel
theorem dX7_bestGain_19 : decode cX7_bestGain 19 = .ok (.iconst 0, 1) := by decide +kernel
theorem dX7_bestGain_20 : decode cX7_bestGain 20 = .ok (.istore_n 2, 1) := by decide +kernel
theorem dX7_bestGain_21 : decode cX7_bestGain 21 = .ok (.lconst 0, 1) := by decide +kernel
theorem dX7_bestGain_22 : decode cX7_bestGain 22 = .ok (.lstore_n 3, 1) := by decide +kernel
theorem dX7_bestGain_23 : decode cX7_bestGain 23 = .ok (.iconst 0, 1) := by decide +kernel
theorem dX7_bestGain_24 : decode cX7_bestGain 24 = .ok (.istore 5, 2) := by decide +kernel
theorem dX7_bestGain_26 : decode cX7_bestGain 26 = .ok (.iload 5, 2) := by decide +kernel
theorem dX7_bestGain_28 : decode cX7_bestGain 28 = .ok (.sipush 5000, 3) := by decide +kernel
theorem dX7_bestGain_31 : decode cX7_bestGain 31 = .ok (.if_icmp .gt 107, 3) := by decide +kernel
theorem dX7_bestGain_34 : decode cX7_bestGain 34 = .ok (.aload_n 0, 1) := by decide +kernel
theorem dX7_bestGain_35 : decode cX7_bestGain 35 = .ok (.invokevirtual 235, 3) := by decide +kernel
theorem dX7_bestGain_38 : decode cX7_bestGain 38 = .ok (.aload_n 0, 1) := by decide +kernel
theorem dX7_bestGain_39 : decode cX7_bestGain 39 = .ok (.getfield 19, 3) := by decide +kernel
theorem dX7_bestGain_42 : decode cX7_bestGain 42 = .ok (.iconst 0, 1) := by decide +kernel
theorem dX7_bestGain_43 : decode cX7_bestGain 43 = .ok (.iload 5, 2) := by decide +kernel
theorem dX7_bestGain_45 : decode cX7_bestGain 45 = .ok (.iastore, 1) := by decide +kernel
theorem dX7_bestGain_46 : decode cX7_bestGain 46 = .ok (.aload_n 0, 1) := by decide +kernel
theorem dX7_bestGain_47 : decode cX7_bestGain 47 = .ok (.getfield 7, 3) := by decide +kernel
theorem dX7_bestGain_50 : decode cX7_bestGain 50 = .ok (.sipush 656, 3) := by decide +kernel
theorem dX7_bestGain_53 : decode cX7_bestGain 53 = .ok (.lconst 0, 1) := by decide +kernel
theorem dX7_bestGain_54 : decode cX7_bestGain 54 = .ok (.lastore, 1) := by decide +kernel
theorem dX7_bestGain_55 : decode cX7_bestGain 55 = .ok (.iconst 0, 1) := by decide +kernel
theorem dX7_bestGain_56 : decode cX7_bestGain 56 = .ok (.istore 6, 2) := by decide +kernel
theorem dX7_bestGain_58 : decode cX7_bestGain 58 = .ok (.iload 6, 2) := by decide +kernel
theorem dX7_bestGain_60 : decode cX7_bestGain 60 = .ok (.iload_n 1, 1) := by decide +kernel
theorem dX7_bestGain_61 : decode cX7_bestGain 61 = .ok (.if_icmp .ge 13, 3) := by decide +kernel
theorem dX7_bestGain_64 : decode cX7_bestGain 64 = .ok (.aload_n 0, 1) := by decide +kernel
theorem dX7_bestGain_65 : decode cX7_bestGain 65 = .ok (.invokevirtual 191, 3) := by decide +kernel
theorem dX7_bestGain_68 : decode cX7_bestGain 68 = .ok (.iinc 6 1, 3) := by decide +kernel
theorem dX7_bestGain_71 : decode cX7_bestGain 71 = .ok (.goto (-13), 3) := by decide +kernel
theorem dX7_bestGain_74 : decode cX7_bestGain 74 = .ok (.iload 5, 2) := by decide +kernel
theorem dX7_bestGain_76 : decode cX7_bestGain 76 = .ok (.ifCond .eq 16, 3) := by decide +kernel
theorem dX7_bestGain_79 : decode cX7_bestGain 79 = .ok (.aload_n 0, 1) := by decide +kernel
theorem dX7_bestGain_80 : decode cX7_bestGain 80 = .ok (.getfield 7, 3) := by decide +kernel
theorem dX7_bestGain_83 : decode cX7_bestGain 83 = .ok (.sipush 656, 3) := by decide +kernel
theorem dX7_bestGain_86 : decode cX7_bestGain 86 = .ok (.laload, 1) := by decide +kernel
theorem dX7_bestGain_87 : decode cX7_bestGain 87 = .ok (.lload_n 3, 1) := by decide +kernel
theorem dX7_bestGain_88 : decode cX7_bestGain 88 = .ok (.lcmp, 1) := by decide +kernel
theorem dX7_bestGain_89 : decode cX7_bestGain 89 = .ok (.ifCond .ge 7, 3) := by decide +kernel
theorem dX7_bestGain_92 : decode cX7_bestGain 92 = .ok (.iconst 1, 1) := by decide +kernel
theorem dX7_bestGain_93 : decode cX7_bestGain 93 = .ok (.goto 4, 3) := by decide +kernel
theorem dX7_bestGain_96 : decode cX7_bestGain 96 = .ok (.iconst 0, 1) := by decide +kernel
theorem dX7_bestGain_97 : decode cX7_bestGain 97 = .ok (.istore 6, 2) := by decide +kernel
theorem dX7_bestGain_99 : decode cX7_bestGain 99 = .ok (.iload 6, 2) := by decide +kernel
theorem dX7_bestGain_101 : decode cX7_bestGain 101 = .ok (.ifCond .eq 8, 3) := by decide +kernel
theorem dX7_bestGain_104 : decode cX7_bestGain 104 = .ok (.iload 5, 2) := by decide +kernel
theorem dX7_bestGain_106 : decode cX7_bestGain 106 = .ok (.goto 4, 3) := by decide +kernel
theorem dX7_bestGain_109 : decode cX7_bestGain 109 = .ok (.iload_n 2, 1) := by decide +kernel
theorem dX7_bestGain_110 : decode cX7_bestGain 110 = .ok (.istore_n 2, 1) := by decide +kernel
theorem dX7_bestGain_111 : decode cX7_bestGain 111 = .ok (.iload 6, 2) := by decide +kernel
theorem dX7_bestGain_113 : decode cX7_bestGain 113 = .ok (.ifCond .eq 14, 3) := by decide +kernel
theorem dX7_bestGain_116 : decode cX7_bestGain 116 = .ok (.aload_n 0, 1) := by decide +kernel
theorem dX7_bestGain_117 : decode cX7_bestGain 117 = .ok (.getfield 7, 3) := by decide +kernel
theorem dX7_bestGain_120 : decode cX7_bestGain 120 = .ok (.sipush 656, 3) := by decide +kernel
theorem dX7_bestGain_123 : decode cX7_bestGain 123 = .ok (.laload, 1) := by decide +kernel
theorem dX7_bestGain_124 : decode cX7_bestGain 124 = .ok (.goto 4, 3) := by decide +kernel
theorem dX7_bestGain_127 : decode cX7_bestGain 127 = .ok (.lload_n 3, 1) := by decide +kernel
theorem dX7_bestGain_128 : decode cX7_bestGain 128 = .ok (.lstore_n 3, 1) := by decide +kernel
theorem dX7_bestGain_129 : decode cX7_bestGain 129 = .ok (.iinc 5 250, 6) := by decide +kernel
theorem dX7_bestGain_135 : decode cX7_bestGain 135 = .ok (.goto (-109), 3) := by decide +kernel
theorem dX7_bestGain_138 : decode cX7_bestGain 138 = .ok (.aload_n 0, 1) := by decide +kernel
theorem dX7_bestGain_139 : decode cX7_bestGain 139 = .ok (.invokevirtual 235, 3) := by decide +kernel
theorem dX7_bestGain_142 : decode cX7_bestGain 142 = .ok (.iload_n 2, 1) := by decide +kernel
theorem dX7_bestGain_143 : decode cX7_bestGain 143 = .ok (.ireturn, 1) := by decide +kernel
set_option maxRecDepth 20000 in
theorem ggX7_idealDifference_X7_in : GoodIn wsX7_idealDifference wsX7_in := goodIn_r _ [10] (by decide +kernel) (by decide +kernel)
set_option maxRecDepth 20000 in
theorem gX7_idealDifference_X7_in : GoodIn wsX7_idealDifference (va_wsS RX7 66 yX7_in wsX7_in) := goodIn_app (goodIn_of _ (by decide +kernel)) ggX7_idealDifference_X7_in
set_option maxRecDepth 20000 in
theorem ggX7_idealDifference_X7_putsAside : GoodIn wsX7_idealDifference wsX7_putsAside := goodIn_r _ [14, 15, 4, 16, 3, 78, 79, 80, 81, 82, 83, 84, 85, 86, 87, 88, 89, 90, 91, 92, 93, 94, 95] (by decide +kernel) (by decide +kernel)
set_option maxRecDepth 20000 in
theorem gX7_idealDifference_X7_putsAside : GoodIn wsX7_idealDifference (wsV RX7 232 RX7 yX7_putsAside wsX7_putsAside) := goodIn_app (goodIn_of _ (by decide +kernel)) ggX7_idealDifference_X7_putsAside
set_option maxRecDepth 20000 in
theorem ggX7_idealDifference_X7_clears : GoodIn wsX7_idealDifference wsX7_clears := goodIn_r _ [20, 4, 78, 79, 80, 81, 82, 83, 84, 85, 86, 87, 88, 89, 90, 91, 92, 93, 94, 95] (by decide +kernel) (by decide +kernel)
set_option maxRecDepth 20000 in
theorem gX7_idealDifference_X7_clears : GoodIn wsX7_idealDifference (wsV RX7 204 RX7 yX7_clears wsX7_clears) := goodIn_app (goodIn_of _ (by decide +kernel)) ggX7_idealDifference_X7_clears
set_option maxRecDepth 20000 in
theorem ggX7_idealDifference_X7_ticks : GoodIn wsX7_idealDifference wsX7_ticks := goodIn_r _ [24, 4, 3, 6, 25, 26, 27, 28, 9, 29, 30, 31, 32, 33, 34, 35, 36, 37, 38, 39, 40, 41, 42, 43, 44, 45, 46, 47, 48, 49, 50, 51, 52, 53, 54, 55, 56, 57, 58, 59, 60, 61, 62, 63, 64, 65, 66, 67, 68, 69, 70, 71, 72, 73, 78, 79, 80, 81, 82, 83, 84, 85, 86, 87, 88, 89, 90, 91, 92, 93, 94, 95] rfl (by decide +kernel)
set_option maxRecDepth 20000 in
theorem gX7_idealDifference_X7_ticks : GoodIn wsX7_idealDifference (wsV RX7 191 RX7 yX7_ticks wsX7_ticks) := goodIn_app (goodIn_of _ (by decide +kernel)) ggX7_idealDifference_X7_ticks

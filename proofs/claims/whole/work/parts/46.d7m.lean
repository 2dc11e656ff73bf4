theorem dX7_correlationOf_52 : decode cX7_correlationOf 52 = .ok (.aload_n 0, 1) := by decide +kernel
theorem dX7_correlationOf_53 : decode cX7_correlationOf 53 = .ok (.iconst 2, 1) := by decide +kernel
theorem dX7_correlationOf_54 : decode cX7_correlationOf 54 = .ok (.lload 4, 2) := by decide +kernel
theorem dX7_correlationOf_56 : decode cX7_correlationOf 56 = .ok (.ldc2_w 150, 3) := by decide +kernel
theorem dX7_correlationOf_59 : decode cX7_correlationOf 59 = .ok (.lsub, 1) := by decide +kernel
theorem dX7_correlationOf_60 : decode cX7_correlationOf 60 = .ok (.iload_n 1, 1) := by decide +kernel
theorem dX7_correlationOf_61 : decode cX7_correlationOf 61 = .ok (.i2l, 1) := by decide +kernel
theorem dX7_correlationOf_62 : decode cX7_correlationOf 62 = .ok (.lsub, 1) := by decide +kernel
theorem dX7_correlationOf_63 : decode cX7_correlationOf 63 = .ok (.invokevirtual 132, 3) := by decide +kernel
theorem dX7_correlationOf_66 : decode cX7_correlationOf 66 = .ok (.lsub, 1) := by decide +kernel
theorem dX7_correlationOf_67 : decode cX7_correlationOf 67 = .ok (.aload_n 0, 1) := by decide +kernel
theorem dX7_correlationOf_68 : decode cX7_correlationOf 68 = .ok (.iconst 1, 1) := by decide +kernel
theorem dX7_correlationOf_69 : decode cX7_correlationOf 69 = .ok (.lload 4, 2) := by decide +kernel
theorem dX7_correlationOf_71 : decode cX7_correlationOf 71 = .ok (.invokevirtual 132, 3) := by decide +kernel
theorem dX7_correlationOf_74 : decode cX7_correlationOf 74 = .ok (.aload_n 0, 1) := by decide +kernel
theorem dX7_correlationOf_75 : decode cX7_correlationOf 75 = .ok (.iconst 1, 1) := by decide +kernel
theorem dX7_correlationOf_76 : decode cX7_correlationOf 76 = .ok (.lload 4, 2) := by decide +kernel
theorem dX7_correlationOf_78 : decode cX7_correlationOf 78 = .ok (.lconst 1, 1) := by decide +kernel
theorem dX7_correlationOf_79 : decode cX7_correlationOf 79 = .ok (.lsub, 1) := by decide +kernel
theorem dX7_correlationOf_80 : decode cX7_correlationOf 80 = .ok (.invokevirtual 132, 3) := by decide +kernel
theorem dX7_correlationOf_83 : decode cX7_correlationOf 83 = .ok (.lsub, 1) := by decide +kernel
theorem dX7_correlationOf_84 : decode cX7_correlationOf 84 = .ok (.lmul, 1) := by decide +kernel
theorem dX7_correlationOf_85 : decode cX7_correlationOf 85 = .ok (.ladd, 1) := by decide +kernel
theorem dX7_correlationOf_86 : decode cX7_correlationOf 86 = .ok (.lstore_n 2, 1) := by decide +kernel
theorem dX7_correlationOf_87 : decode cX7_correlationOf 87 = .ok (.lload 4, 2) := by decide +kernel
theorem dX7_correlationOf_89 : decode cX7_correlationOf 89 = .ok (.lconst 1, 1) := by decide +kernel
theorem dX7_correlationOf_90 : decode cX7_correlationOf 90 = .ok (.lsub, 1) := by decide +kernel
theorem dX7_correlationOf_91 : decode cX7_correlationOf 91 = .ok (.lstore 4, 2) := by decide +kernel
theorem dX7_correlationOf_93 : decode cX7_correlationOf 93 = .ok (.goto (-79), 3) := by decide +kernel
theorem dX7_correlationOf_96 : decode cX7_correlationOf 96 = .ok (.aload_n 0, 1) := by decide +kernel
theorem dX7_correlationOf_97 : decode cX7_correlationOf 97 = .ok (.getfield 19, 3) := by decide +kernel
theorem dX7_correlationOf_100 : decode cX7_correlationOf 100 = .ok (.iconst 5, 1) := by decide +kernel
theorem dX7_correlationOf_101 : decode cX7_correlationOf 101 = .ok (.iaload, 1) := by decide +kernel
theorem dX7_correlationOf_102 : decode cX7_correlationOf 102 = .ok (.ifCond .ge 8, 3) := by decide +kernel
theorem dX7_correlationOf_105 : decode cX7_correlationOf 105 = .ok (.lload_n 2, 1) := by decide +kernel
theorem dX7_correlationOf_106 : decode cX7_correlationOf 106 = .ok (.lneg, 1) := by decide +kernel
theorem dX7_correlationOf_107 : decode cX7_correlationOf 107 = .ok (.goto 4, 3) := by decide +kernel
theorem dX7_correlationOf_110 : decode cX7_correlationOf 110 = .ok (.lload_n 2, 1) := by decide +kernel
theorem dX7_correlationOf_111 : decode cX7_correlationOf 111 = .ok (.lreturn, 1) := by decide +kernel
set_option maxRecDepth 20000 in
theorem ggX7_correlation_X7_in : GoodIn wsX7_correlation wsX7_in := goodIn_r _ [6] (by decide +kernel) (by decide +kernel)
set_option maxRecDepth 20000 in
theorem gX7_correlation_X7_in : GoodIn wsX7_correlation (va_wsS RX7 66 yX7_in wsX7_in) := goodIn_app (goodIn_of _ (by decide +kernel)) ggX7_correlation_X7_in
set_option maxRecDepth 20000 in
theorem ggX7_correlation_X7_correlationOf : GoodIn wsX7_correlation wsX7_correlationOf := goodIn_r _ [10, 11, 12, 13, 14, 15, 16, 17, 5, 18, 19, 20, 21, 22, 23, 24, 25, 26, 27, 28, 29, 30, 31, 32, 33, 34, 35, 36, 37] (by decide +kernel) (by decide +kernel)
set_option maxRecDepth 20000 in
theorem gX7_correlation_X7_correlationOf : GoodIn wsX7_correlation (wsV RX7 225 RX7 yX7_correlationOf wsX7_correlationOf) := goodIn_app (goodIn_of _ (by decide +kernel)) ggX7_correlation_X7_correlationOf
theorem dX7_correlation_0 : decode cX7_correlation 0 = .ok (.iload_n 1, 1) := by decide +kernel
theorem dX7_correlation_1 : decode cX7_correlation 1 = .ok (.i2l, 1) := by decide +kernel
theorem dX7_correlation_2 : decode cX7_correlation 2 = .ok (.lconst 0, 1) := by decide +kernel
theorem dX7_correlation_3 : decode cX7_correlation 3 = .ok (.ldc2_w 223, 3) := by decide +kernel
theorem dX7_correlation_6 : decode cX7_correlation 6 = .ok (.invokestatic 66, 3) := by decide +kernel
theorem dX7_correlation_9 : decode cX7_correlation 9 = .ok (.ifCond .eq 11, 3) := by decide +kernel
theorem dX7_correlation_12 : decode cX7_correlation 12 = .ok (.aload_n 0, 1) := by decide +kernel
theorem dX7_correlation_13 : decode cX7_correlation 13 = .ok (.iload_n 1, 1) := by decide +kernel
theorem dX7_correlation_14 : decode cX7_correlation 14 = .ok (.invokevirtual 225, 3) := by decide +kernel
theorem dX7_correlation_17 : decode cX7_correlation 17 = .ok (.goto 6, 3) := by decide +kernel
theorem dX7_correlation_20 : decode cX7_correlation 20 = .ok (.ldc2_w 221, 3) := by decide +kernel
theorem dX7_correlation_23 : decode cX7_correlation 23 = .ok (.lreturn, 1) := by decide +kernel
set_option maxRecDepth 20000 in
theorem ggX7_bestLag_X7_correlationOf : GoodIn wsX7_bestLag wsX7_correlationOf := goodIn_r _ [6, 7, 8, 9, 10, 11, 12, 13, 5, 14, 15, 16, 17, 18, 19, 20, 21, 22, 23, 24, 25, 26, 27, 28, 29, 30, 31, 32, 33] (by decide +kernel) (by decide +kernel)
set_option maxRecDepth 20000 in
theorem gX7_bestLag_X7_correlationOf : GoodIn wsX7_bestLag (wsV RX7 225 RX7 yX7_correlationOf wsX7_correlationOf) := goodIn_app (goodIn_of _ (by decide +kernel)) ggX7_bestLag_X7_correlationOf
theorem dX7_bestLag_0 : decode cX7_bestLag 0 = .ok (.ldc 82, 2) := by decide +kernel
theorem dX7_bestLag_2 : decode cX7_bestLag 2 = .ok (.istore_n 1, 1) := by decide +kernel
theorem dX7_bestLag_3 : decode cX7_bestLag 3 = .ok (.lconst 0, 1) := by decide +kernel
theorem dX7_bestLag_4 : decode cX7_bestLag 4 = .ok (.lstore_n 2, 1) := by decide +kernel
theorem dX7_bestLag_5 : decode cX7_bestLag 5 = .ok (.iconst 0, 1) := by decide +kernel
theorem dX7_bestLag_6 : decode cX7_bestLag 6 = .ok (.istore 4, 2) := by decide +kernel
theorem dX7_bestLag_8 : decode cX7_bestLag 8 = .ok (.iload 4, 2) := by decide +kernel
theorem dX7_bestLag_10 : decode cX7_bestLag 10 = .ok (.bipush 30, 2) := by decide +kernel
theorem dX7_bestLag_12 : decode cX7_bestLag 12 = .ok (.if_icmp .gt 45, 3) := by decide +kernel
theorem dX7_bestLag_15 : decode cX7_bestLag 15 = .ok (.aload_n 0, 1) := by decide +kernel
theorem dX7_bestLag_16 : decode cX7_bestLag 16 = .ok (.iload 4, 2) := by decide +kernel
theorem dX7_bestLag_18 : decode cX7_bestLag 18 = .ok (.invokevirtual 225, 3) := by decide +kernel
theorem dX7_bestLag_21 : decode cX7_bestLag 21 = .ok (.lstore 5, 2) := by decide +kernel
theorem dX7_bestLag_23 : decode cX7_bestLag 23 = .ok (.lload 5, 2) := by decide +kernel
theorem dX7_bestLag_25 : decode cX7_bestLag 25 = .ok (.lload_n 2, 1) := by decide +kernel
theorem dX7_bestLag_26 : decode cX7_bestLag 26 = .ok (.lcmp, 1) := by decide +kernel
theorem dX7_bestLag_27 : decode cX7_bestLag 27 = .ok (.ifCond .le 8, 3) := by decide +kernel
theorem dX7_bestLag_30 : decode cX7_bestLag 30 = .ok (.iload 4, 2) := by decide +kernel
theorem dX7_bestLag_32 : decode cX7_bestLag 32 = .ok (.goto 4, 3) := by decide +kernel
theorem dX7_bestLag_35 : decode cX7_bestLag 35 = .ok (.iload_n 1, 1) := by decide +kernel
theorem dX7_bestLag_36 : decode cX7_bestLag 36 = .ok (.istore_n 1, 1) := by decide +kernel
theorem dX7_bestLag_37 : decode cX7_bestLag 37 = .ok (.lload 5, 2) := by decide +kernel
theorem dX7_bestLag_39 : decode cX7_bestLag 39 = .ok (.lload_n 2, 1) := by decide +kernel
theorem dX7_bestLag_40 : decode cX7_bestLag 40 = .ok (.lcmp, 1) := by decide +kernel
theorem dX7_bestLag_41 : decode cX7_bestLag 41 = .ok (.ifCond .le 8, 3) := by decide +kernel
theorem dX7_bestLag_44 : decode cX7_bestLag 44 = .ok (.lload 5, 2) := by decide +kernel
theorem dX7_bestLag_46 : decode cX7_bestLag 46 = .ok (.goto 4, 3) := by decide +kernel
theorem dX7_bestLag_49 : decode cX7_bestLag 49 = .ok (.lload_n 2, 1) := by decide +kernel
theorem dX7_bestLag_50 : decode cX7_bestLag 50 = .ok (.lstore_n 2, 1) := by decide +kernel
theorem dX7_bestLag_51 : decode cX7_bestLag 51 = .ok (.iinc 4 1, 3) := by decide +kernel
theorem dX7_bestLag_54 : decode cX7_bestLag 54 = .ok (.goto (-46), 3) := by decide +kernel
theorem dX7_bestLag_57 : decode cX7_bestLag 57 = .ok (.iload_n 1, 1) := by decide +kernel
theorem dX7_bestLag_58 : decode cX7_bestLag 58 = .ok (.ireturn, 1) := by decide +kernel
set_option maxRecDepth 20000 in
theorem ggX7_estimatedLag_X7_bestLag : GoodIn wsX7_estimatedLag wsX7_bestLag := goodIn_r _ [5, 6, 7, 8, 9, 4, 10, 11, 12, 13, 14, 15, 16, 17, 18, 19, 20, 21, 22, 23, 24, 25, 26, 27, 28, 29, 30, 31, 32, 33, 34, 35, 36, 37] (by decide +kernel) (by decide +kernel)
set_option maxRecDepth 20000 in
theorem gX7_estimatedLag_X7_bestLag : GoodIn wsX7_estimatedLag (wsV RX7 229 RX7 yX7_bestLag wsX7_bestLag) := goodIn_app (goodIn_of _ (by decide +kernel)) ggX7_estimatedLag_X7_bestLag
theorem dX7_estimatedLag_0 : decode cX7_estimatedLag 0 = .ok (.aload_n 0, 1) := by decide +kernel
theorem dX7_estimatedLag_1 : decode cX7_estimatedLag 1 = .ok (.invokevirtual 229, 3) := by decide +kernel
theorem dX7_estimatedLag_4 : decode cX7_estimatedLag 4 = .ok (.ireturn, 1) := by decide +kernel
set_option maxRecDepth 20000 in
theorem ggX7_tuneDelay_X7_bestLag : GoodIn wsX7_tuneDelay wsX7_bestLag := goodIn_r _ [8, 9, 10, 11, 12, 7, 13, 14, 15, 1, 3, 16, 17, 18, 19, 20, 27, 28, 29, 30, 31, 32, 33, 34, 35, 36, 37, 38, 39, 40, 41, 42, 43, 44] (by decide +kernel) (by decide +kernel)
set_option maxRecDepth 20000 in
theorem gX7_tuneDelay_X7_bestLag : GoodIn wsX7_tuneDelay (wsV RX7 229 RX7 yX7_bestLag wsX7_bestLag) := goodIn_app (goodIn_of _ (by decide +kernel)) ggX7_tuneDelay_X7_bestLag
set_option maxRecDepth 20000 in
theorem ggX7_tuneDelay_X7_correlationOf : GoodIn wsX7_tuneDelay wsX7_correlationOf := goodIn_r _ [13, 14, 15, 1, 3, 16, 17, 18, 7, 19, 20, 27, 28, 29, 30, 31, 32, 33, 34, 35, 36, 37, 38, 39, 40, 41, 42, 43, 44] (by decide +kernel) (by decide +kernel)
set_option maxRecDepth 20000 in
theorem gX7_tuneDelay_X7_correlationOf : GoodIn wsX7_tuneDelay (wsV RX7 225 RX7 yX7_correlationOf wsX7_correlationOf) := goodIn_app (goodIn_of _ (by decide +kernel)) ggX7_tuneDelay_X7_correlationOf
set_option maxRecDepth 20000 in
theorem ggX7_tuneDelay_X7_keeps : GoodIn wsX7_tuneDelay wsX7_keeps := goodIn_r _ [24, 25, 26, 3, 27, 28, 29, 30, 31, 32, 33, 34, 35, 36, 37, 38, 39, 40, 41, 42, 43, 44] (by decide +kernel) (by decide +kernel)
set_option maxRecDepth 20000 in
theorem gX7_tuneDelay_X7_keeps : GoodIn wsX7_tuneDelay (wsV RX7 75 RX7 yX7_keeps wsX7_keeps) := goodIn_app (goodIn_of _ (by decide +kernel)) ggX7_tuneDelay_X7_keeps
theorem dX7_tuneDelay_0 : decode cX7_tuneDelay 0 = .ok (.aload_n 0, 1) := by decide +kernel
theorem dX7_tuneDelay_1 : decode cX7_tuneDelay 1 = .ok (.invokevirtual 229, 3) := by decide +kernel
theorem dX7_tuneDelay_4 : decode cX7_tuneDelay 4 = .ok (.istore_n 1, 1) := by decide +kernel
theorem dX7_tuneDelay_5 : decode cX7_tuneDelay 5 = .ok (.iload_n 1, 1) := by decide +kernel
theorem dX7_tuneDelay_6 : decode cX7_tuneDelay 6 = .ok (.ifCond .lt 7, 3) := by decide +kernel
theorem dX7_tuneDelay_9 : decode cX7_tuneDelay 9 = .ok (.iconst 1, 1) := by decide +kernel
theorem dX7_tuneDelay_10 : decode cX7_tuneDelay 10 = .ok (.goto 4, 3) := by decide +kernel
theorem dX7_tuneDelay_13 : decode cX7_tuneDelay 13 = .ok (.iconst 0, 1) := by decide +kernel
theorem dX7_tuneDelay_14 : decode cX7_tuneDelay 14 = .ok (.istore_n 2, 1) := by decide +kernel
theorem dX7_tuneDelay_15 : decode cX7_tuneDelay 15 = .ok (.iconst 0, 1) := by decide +kernel
theorem dX7_tuneDelay_16 : decode cX7_tuneDelay 16 = .ok (.istore_n 3, 1) := by decide +kernel
theorem dX7_tuneDelay_17 : decode cX7_tuneDelay 17 = .ok (.iload_n 3, 1) := by decide +kernel
theorem dX7_tuneDelay_18 : decode cX7_tuneDelay 18 = .ok (.bipush 30, 2) := by decide +kernel
theorem dX7_tuneDelay_20 : decode cX7_tuneDelay 20 = .ok (.if_icmp .gt 42, 3) := by decide +kernel
theorem dX7_tuneDelay_23 : decode cX7_tuneDelay 23 = .ok (.iload_n 2, 1) := by decide +kernel

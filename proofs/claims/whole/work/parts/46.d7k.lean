theorem dX7_watchedAt_28 : decode cX7_watchedAt 28 = .ok (.iconst 5, 1) := by decide +kernel
theorem dX7_watchedAt_29 : decode cX7_watchedAt 29 = .ok (.iload_n 1, 1) := by decide +kernel
theorem dX7_watchedAt_30 : decode cX7_watchedAt 30 = .ok (.imul, 1) := by decide +kernel
theorem dX7_watchedAt_31 : decode cX7_watchedAt 31 = .ok (.iadd, 1) := by decide +kernel
theorem dX7_watchedAt_32 : decode cX7_watchedAt 32 = .ok (.laload, 1) := by decide +kernel
theorem dX7_watchedAt_33 : decode cX7_watchedAt 33 = .ok (.l2i, 1) := by decide +kernel
theorem dX7_watchedAt_34 : decode cX7_watchedAt 34 = .ok (.goto 5, 3) := by decide +kernel
theorem dX7_watchedAt_37 : decode cX7_watchedAt 37 = .ok (.ldc 82, 2) := by decide +kernel
theorem dX7_watchedAt_39 : decode cX7_watchedAt 39 = .ok (.ireturn, 1) := by decide +kernel
set_option maxRecDepth 20000 in
theorem ggX7_extreme_X7_isSignal : GoodIn wsX7_extreme wsX7_isSignal := goodIn_r _ [9, 10, 11, 12, 8, 13] (by decide +kernel) (by decide +kernel)
set_option maxRecDepth 20000 in
theorem gX7_extreme_X7_isSignal : GoodIn wsX7_extreme (va_wsS RX7 196 yX7_isSignal wsX7_isSignal) := goodIn_app (goodIn_of _ (by decide +kernel)) ggX7_extreme_X7_isSignal
set_option maxRecDepth 20000 in
theorem ggX7_extreme_X7_in : GoodIn wsX7_extreme wsX7_in := goodIn_r _ [13] (by decide +kernel) (by decide +kernel)
set_option maxRecDepth 20000 in
theorem gX7_extreme_X7_in : GoodIn wsX7_extreme (va_wsS RX7 66 yX7_in wsX7_in) := goodIn_app (goodIn_of _ (by decide +kernel)) ggX7_extreme_X7_in
set_option maxRecDepth 20000 in
theorem ggX7_extreme_X7_placeOf : GoodIn wsX7_extreme wsX7_placeOf := goodIn_r _ [17, 4, 5, 18, 19, 20, 21, 22, 23, 24, 25, 26, 27, 28, 29, 30, 31, 32, 33, 34, 35] (by decide +kernel) (by decide +kernel)
set_option maxRecDepth 20000 in
theorem gX7_extreme_X7_placeOf : GoodIn wsX7_extreme (wsV RX7 210 RX7 yX7_placeOf wsX7_placeOf) := goodIn_app (goodIn_of _ (by decide +kernel)) ggX7_extreme_X7_placeOf
theorem dX7_extreme_0 : decode cX7_extreme 0 = .ok (.iload_n 1, 1) := by decide +kernel
theorem dX7_extreme_1 : decode cX7_extreme 1 = .ok (.invokestatic 196, 3) := by decide +kernel
theorem dX7_extreme_4 : decode cX7_extreme 4 = .ok (.ifCond .eq 15, 3) := by decide +kernel
theorem dX7_extreme_7 : decode cX7_extreme 7 = .ok (.iload_n 2, 1) := by decide +kernel
theorem dX7_extreme_8 : decode cX7_extreme 8 = .ok (.i2l, 1) := by decide +kernel
theorem dX7_extreme_9 : decode cX7_extreme 9 = .ok (.lconst 0, 1) := by decide +kernel
theorem dX7_extreme_10 : decode cX7_extreme 10 = .ok (.ldc2_w 150, 3) := by decide +kernel
theorem dX7_extreme_13 : decode cX7_extreme 13 = .ok (.invokestatic 66, 3) := by decide +kernel
theorem dX7_extreme_16 : decode cX7_extreme 16 = .ok (.ifCond .ne 6, 3) := by decide +kernel
theorem dX7_extreme_19 : decode cX7_extreme 19 = .ok (.ldc 74, 2) := by decide +kernel
theorem dX7_extreme_21 : decode cX7_extreme 21 = .ok (.ireturn, 1) := by decide +kernel
theorem dX7_extreme_22 : decode cX7_extreme 22 = .ok (.aload_n 0, 1) := by decide +kernel
theorem dX7_extreme_23 : decode cX7_extreme 23 = .ok (.iload_n 1, 1) := by decide +kernel
theorem dX7_extreme_24 : decode cX7_extreme 24 = .ok (.invokevirtual 210, 3) := by decide +kernel
theorem dX7_extreme_27 : decode cX7_extreme 27 = .ok (.istore_n 3, 1) := by decide +kernel
theorem dX7_extreme_28 : decode cX7_extreme 28 = .ok (.iload_n 3, 1) := by decide +kernel
theorem dX7_extreme_29 : decode cX7_extreme 29 = .ok (.ifCond .ge 6, 3) := by decide +kernel
theorem dX7_extreme_32 : decode cX7_extreme 32 = .ok (.ldc 83, 2) := by decide +kernel
theorem dX7_extreme_34 : decode cX7_extreme 34 = .ok (.ireturn, 1) := by decide +kernel
theorem dX7_extreme_35 : decode cX7_extreme 35 = .ok (.aload_n 0, 1) := by decide +kernel
theorem dX7_extreme_36 : decode cX7_extreme 36 = .ok (.getfield 7, 3) := by decide +kernel
theorem dX7_extreme_39 : decode cX7_extreme 39 = .ok (.sipush 661, 3) := by decide +kernel
theorem dX7_extreme_42 : decode cX7_extreme 42 = .ok (.iconst 5, 1) := by decide +kernel
theorem dX7_extreme_43 : decode cX7_extreme 43 = .ok (.iload_n 3, 1) := by decide +kernel
theorem dX7_extreme_44 : decode cX7_extreme 44 = .ok (.imul, 1) := by decide +kernel
theorem dX7_extreme_45 : decode cX7_extreme 45 = .ok (.iadd, 1) := by decide +kernel
theorem dX7_extreme_46 : decode cX7_extreme 46 = .ok (.iconst 1, 1) := by decide +kernel
theorem dX7_extreme_47 : decode cX7_extreme 47 = .ok (.iadd, 1) := by decide +kernel
theorem dX7_extreme_48 : decode cX7_extreme 48 = .ok (.laload, 1) := by decide +kernel
theorem dX7_extreme_49 : decode cX7_extreme 49 = .ok (.lconst 0, 1) := by decide +kernel
theorem dX7_extreme_50 : decode cX7_extreme 50 = .ok (.lcmp, 1) := by decide +kernel
theorem dX7_extreme_51 : decode cX7_extreme 51 = .ok (.ifCond .ne 8, 3) := by decide +kernel
theorem dX7_extreme_54 : decode cX7_extreme 54 = .ok (.ldc 82, 2) := by decide +kernel
theorem dX7_extreme_56 : decode cX7_extreme 56 = .ok (.goto 20, 3) := by decide +kernel
theorem dX7_extreme_59 : decode cX7_extreme 59 = .ok (.aload_n 0, 1) := by decide +kernel
theorem dX7_extreme_60 : decode cX7_extreme 60 = .ok (.getfield 7, 3) := by decide +kernel
theorem dX7_extreme_63 : decode cX7_extreme 63 = .ok (.sipush 661, 3) := by decide +kernel
theorem dX7_extreme_66 : decode cX7_extreme 66 = .ok (.iconst 5, 1) := by decide +kernel
theorem dX7_extreme_67 : decode cX7_extreme 67 = .ok (.iload_n 3, 1) := by decide +kernel
theorem dX7_extreme_68 : decode cX7_extreme 68 = .ok (.imul, 1) := by decide +kernel
theorem dX7_extreme_69 : decode cX7_extreme 69 = .ok (.iadd, 1) := by decide +kernel
theorem dX7_extreme_70 : decode cX7_extreme 70 = .ok (.iconst 2, 1) := by decide +kernel
theorem dX7_extreme_71 : decode cX7_extreme 71 = .ok (.iadd, 1) := by decide +kernel
theorem dX7_extreme_72 : decode cX7_extreme 72 = .ok (.iload_n 2, 1) := by decide +kernel
theorem dX7_extreme_73 : decode cX7_extreme 73 = .ok (.iadd, 1) := by decide +kernel
theorem dX7_extreme_74 : decode cX7_extreme 74 = .ok (.laload, 1) := by decide +kernel
theorem dX7_extreme_75 : decode cX7_extreme 75 = .ok (.l2i, 1) := by decide +kernel
theorem dX7_extreme_76 : decode cX7_extreme 76 = .ok (.ireturn, 1) := by decide +kernel
set_option maxRecDepth 20000 in
theorem ggX7_measure_X7_in : GoodIn wsX7_measure wsX7_in := goodIn_r _ [7] (by decide +kernel) (by decide +kernel)
set_option maxRecDepth 20000 in
theorem gX7_measure_X7_in : GoodIn wsX7_measure (va_wsS RX7 66 yX7_in wsX7_in) := goodIn_app (goodIn_of _ (by decide +kernel)) ggX7_measure_X7_in
theorem dX7_measure_0 : decode cX7_measure 0 = .ok (.iload_n 1, 1) := by decide +kernel
theorem dX7_measure_1 : decode cX7_measure 1 = .ok (.i2l, 1) := by decide +kernel
theorem dX7_measure_2 : decode cX7_measure 2 = .ok (.lconst 0, 1) := by decide +kernel
theorem dX7_measure_3 : decode cX7_measure 3 = .ok (.ldc2_w 219, 3) := by decide +kernel
theorem dX7_measure_6 : decode cX7_measure 6 = .ok (.invokestatic 66, 3) := by decide +kernel
theorem dX7_measure_9 : decode cX7_measure 9 = .ok (.ifCond .eq 16, 3) := by decide +kernel
theorem dX7_measure_12 : decode cX7_measure 12 = .ok (.aload_n 0, 1) := by decide +kernel
theorem dX7_measure_13 : decode cX7_measure 13 = .ok (.getfield 7, 3) := by decide +kernel
theorem dX7_measure_16 : decode cX7_measure 16 = .ok (.sipush 656, 3) := by decide +kernel
theorem dX7_measure_19 : decode cX7_measure 19 = .ok (.iload_n 1, 1) := by decide +kernel
theorem dX7_measure_20 : decode cX7_measure 20 = .ok (.iadd, 1) := by decide +kernel
theorem dX7_measure_21 : decode cX7_measure 21 = .ok (.laload, 1) := by decide +kernel
theorem dX7_measure_22 : decode cX7_measure 22 = .ok (.goto 6, 3) := by decide +kernel
theorem dX7_measure_25 : decode cX7_measure 25 = .ok (.ldc2_w 221, 3) := by decide +kernel
theorem dX7_measure_28 : decode cX7_measure 28 = .ok (.lreturn, 1) := by decide +kernel
set_option maxRecDepth 20000 in
theorem ggX7_settledTicks_X7_in : GoodIn wsX7_settledTicks wsX7_in := goodIn_r _ [7] (by decide +kernel) (by decide +kernel)
set_option maxRecDepth 20000 in
theorem gX7_settledTicks_X7_in : GoodIn wsX7_settledTicks (va_wsS RX7 66 yX7_in wsX7_in) := goodIn_app (goodIn_of _ (by decide +kernel)) ggX7_settledTicks_X7_in
set_option maxRecDepth 20000 in
theorem ggX7_settledTicks_X7_at : GoodIn wsX7_settledTicks wsX7_at := goodIn_r _ [11, 3, 12, 16, 17, 18, 19, 20, 21, 22, 23, 24, 25, 26, 27, 28, 29, 30, 31, 32, 33] (by decide +kernel) (by decide +kernel)
set_option maxRecDepth 20000 in
theorem gX7_settledTicks_X7_at : GoodIn wsX7_settledTicks (wsV RX7 132 RX7 yX7_at wsX7_at) := goodIn_app (goodIn_of _ (by decide +kernel)) ggX7_settledTicks_X7_at
set_option maxRecDepth 20000 in
theorem ggX7_settledTicks_X7_size : GoodIn wsX7_settledTicks wsX7_size := goodIn_r _ [15] (by decide +kernel) (by decide +kernel)
set_option maxRecDepth 20000 in
theorem gX7_settledTicks_X7_size : GoodIn wsX7_settledTicks (va_wsS RX7 152 yX7_size wsX7_size) := goodIn_app (goodIn_of _ (by decide +kernel)) ggX7_settledTicks_X7_size
theorem dX7_settledTicks_0 : decode cX7_settledTicks 0 = .ok (.iload_n 1, 1) := by decide +kernel
theorem dX7_settledTicks_1 : decode cX7_settledTicks 1 = .ok (.i2l, 1) := by decide +kernel
theorem dX7_settledTicks_2 : decode cX7_settledTicks 2 = .ok (.lconst 0, 1) := by decide +kernel
theorem dX7_settledTicks_3 : decode cX7_settledTicks 3 = .ok (.ldc2_w 86, 3) := by decide +kernel
theorem dX7_settledTicks_6 : decode cX7_settledTicks 6 = .ok (.invokestatic 66, 3) := by decide +kernel
theorem dX7_settledTicks_9 : decode cX7_settledTicks 9 = .ok (.ifCond .ne 6, 3) := by decide +kernel
theorem dX7_settledTicks_12 : decode cX7_settledTicks 12 = .ok (.ldc 74, 2) := by decide +kernel
theorem dX7_settledTicks_14 : decode cX7_settledTicks 14 = .ok (.ireturn, 1) := by decide +kernel
theorem dX7_settledTicks_15 : decode cX7_settledTicks 15 = .ok (.iconst 0, 1) := by decide +kernel
theorem dX7_settledTicks_16 : decode cX7_settledTicks 16 = .ok (.istore_n 2, 1) := by decide +kernel
theorem dX7_settledTicks_17 : decode cX7_settledTicks 17 = .ok (.iload_n 2, 1) := by decide +kernel
theorem dX7_settledTicks_18 : decode cX7_settledTicks 18 = .ok (.bipush 64, 2) := by decide +kernel
theorem dX7_settledTicks_20 : decode cX7_settledTicks 20 = .ok (.if_icmp .ge 69, 3) := by decide +kernel
theorem dX7_settledTicks_23 : decode cX7_settledTicks 23 = .ok (.iload_n 2, 1) := by decide +kernel
theorem dX7_settledTicks_24 : decode cX7_settledTicks 24 = .ok (.i2l, 1) := by decide +kernel
theorem dX7_settledTicks_25 : decode cX7_settledTicks 25 = .ok (.aload_n 0, 1) := by decide +kernel
theorem dX7_settledTicks_26 : decode cX7_settledTicks 26 = .ok (.getfield 7, 3) := by decide +kernel
theorem dX7_settledTicks_29 : decode cX7_settledTicks 29 = .ok (.sipush 659, 3) := by decide +kernel
theorem dX7_settledTicks_32 : decode cX7_settledTicks 32 = .ok (.laload, 1) := by decide +kernel
theorem dX7_settledTicks_33 : decode cX7_settledTicks 33 = .ok (.lcmp, 1) := by decide +kernel
theorem dX7_settledTicks_34 : decode cX7_settledTicks 34 = .ok (.ifCond .ge 55, 3) := by decide +kernel
theorem dX7_settledTicks_37 : decode cX7_settledTicks 37 = .ok (.aload_n 0, 1) := by decide +kernel
theorem dX7_settledTicks_38 : decode cX7_settledTicks 38 = .ok (.iconst 0, 1) := by decide +kernel
theorem dX7_settledTicks_39 : decode cX7_settledTicks 39 = .ok (.aload_n 0, 1) := by decide +kernel
theorem dX7_settledTicks_40 : decode cX7_settledTicks 40 = .ok (.getfield 7, 3) := by decide +kernel
theorem dX7_settledTicks_43 : decode cX7_settledTicks 43 = .ok (.sipush 640, 3) := by decide +kernel
theorem dX7_settledTicks_46 : decode cX7_settledTicks 46 = .ok (.laload, 1) := by decide +kernel
theorem dX7_settledTicks_47 : decode cX7_settledTicks 47 = .ok (.lconst 1, 1) := by decide +kernel
theorem dX7_settledTicks_48 : decode cX7_settledTicks 48 = .ok (.lsub, 1) := by decide +kernel
theorem dX7_settledTicks_49 : decode cX7_settledTicks 49 = .ok (.iload_n 2, 1) := by decide +kernel

theorem dX7_watch_24 : decode cX7_watch 24 = .ok (.sipush 660, 3) := by decide +kernel
theorem dX7_watch_27 : decode cX7_watch 27 = .ok (.laload, 1) := by decide +kernel
theorem dX7_watch_28 : decode cX7_watch 28 = .ok (.ldc2_w 213, 3) := by decide +kernel
theorem dX7_watch_31 : decode cX7_watch 31 = .ok (.lcmp, 1) := by decide +kernel
theorem dX7_watch_32 : decode cX7_watch 32 = .ok (.ifCond .ne 6, 3) := by decide +kernel
theorem dX7_watch_35 : decode cX7_watch 35 = .ok (.ldc 97, 2) := by decide +kernel
theorem dX7_watch_37 : decode cX7_watch 37 = .ok (.ireturn, 1) := by decide +kernel
theorem dX7_watch_38 : decode cX7_watch 38 = .ok (.iload_n 2, 1) := by decide +kernel
theorem dX7_watch_39 : decode cX7_watch 39 = .ok (.ifCond .ge 25, 3) := by decide +kernel
theorem dX7_watch_42 : decode cX7_watch 42 = .ok (.aload_n 0, 1) := by decide +kernel
theorem dX7_watch_43 : decode cX7_watch 43 = .ok (.getfield 7, 3) := by decide +kernel
theorem dX7_watch_46 : decode cX7_watch 46 = .ok (.sipush 660, 3) := by decide +kernel
theorem dX7_watch_49 : decode cX7_watch 49 = .ok (.laload, 1) := by decide +kernel
theorem dX7_watch_50 : decode cX7_watch 50 = .ok (.l2i, 1) := by decide +kernel
theorem dX7_watch_51 : decode cX7_watch 51 = .ok (.istore_n 2, 1) := by decide +kernel
theorem dX7_watch_52 : decode cX7_watch 52 = .ok (.aload_n 0, 1) := by decide +kernel
theorem dX7_watch_53 : decode cX7_watch 53 = .ok (.getfield 7, 3) := by decide +kernel
theorem dX7_watch_56 : decode cX7_watch 56 = .ok (.sipush 660, 3) := by decide +kernel
theorem dX7_watch_59 : decode cX7_watch 59 = .ok (.dup2, 1) := by decide +kernel
theorem dX7_watch_60 : decode cX7_watch 60 = .ok (.laload, 1) := by decide +kernel
theorem dX7_watch_61 : decode cX7_watch 61 = .ok (.lconst 1, 1) := by decide +kernel
theorem dX7_watch_62 : decode cX7_watch 62 = .ok (.ladd, 1) := by decide +kernel
theorem dX7_watch_63 : decode cX7_watch 63 = .ok (.lastore, 1) := by decide +kernel
theorem dX7_watch_64 : decode cX7_watch 64 = .ok (.aload_n 0, 1) := by decide +kernel
theorem dX7_watch_65 : decode cX7_watch 65 = .ok (.getfield 7, 3) := by decide +kernel
theorem dX7_watch_68 : decode cX7_watch 68 = .ok (.sipush 661, 3) := by decide +kernel
theorem dX7_watch_71 : decode cX7_watch 71 = .ok (.iconst 5, 1) := by decide +kernel
theorem dX7_watch_72 : decode cX7_watch 72 = .ok (.iload_n 2, 1) := by decide +kernel
theorem dX7_watch_73 : decode cX7_watch 73 = .ok (.imul, 1) := by decide +kernel
theorem dX7_watch_74 : decode cX7_watch 74 = .ok (.iadd, 1) := by decide +kernel
theorem dX7_watch_75 : decode cX7_watch 75 = .ok (.iload_n 1, 1) := by decide +kernel
theorem dX7_watch_76 : decode cX7_watch 76 = .ok (.i2l, 1) := by decide +kernel
theorem dX7_watch_77 : decode cX7_watch 77 = .ok (.lastore, 1) := by decide +kernel
theorem dX7_watch_78 : decode cX7_watch 78 = .ok (.aload_n 0, 1) := by decide +kernel
theorem dX7_watch_79 : decode cX7_watch 79 = .ok (.getfield 7, 3) := by decide +kernel
theorem dX7_watch_82 : decode cX7_watch 82 = .ok (.sipush 661, 3) := by decide +kernel
theorem dX7_watch_85 : decode cX7_watch 85 = .ok (.iconst 5, 1) := by decide +kernel
theorem dX7_watch_86 : decode cX7_watch 86 = .ok (.iload_n 2, 1) := by decide +kernel
theorem dX7_watch_87 : decode cX7_watch 87 = .ok (.imul, 1) := by decide +kernel
theorem dX7_watch_88 : decode cX7_watch 88 = .ok (.iadd, 1) := by decide +kernel
theorem dX7_watch_89 : decode cX7_watch 89 = .ok (.iconst 1, 1) := by decide +kernel
theorem dX7_watch_90 : decode cX7_watch 90 = .ok (.iadd, 1) := by decide +kernel
theorem dX7_watch_91 : decode cX7_watch 91 = .ok (.lconst 0, 1) := by decide +kernel
theorem dX7_watch_92 : decode cX7_watch 92 = .ok (.lastore, 1) := by decide +kernel
theorem dX7_watch_93 : decode cX7_watch 93 = .ok (.aload_n 0, 1) := by decide +kernel
theorem dX7_watch_94 : decode cX7_watch 94 = .ok (.getfield 7, 3) := by decide +kernel
theorem dX7_watch_97 : decode cX7_watch 97 = .ok (.sipush 660, 3) := by decide +kernel
theorem dX7_watch_100 : decode cX7_watch 100 = .ok (.laload, 1) := by decide +kernel
theorem dX7_watch_101 : decode cX7_watch 101 = .ok (.l2i, 1) := by decide +kernel
theorem dX7_watch_102 : decode cX7_watch 102 = .ok (.ireturn, 1) := by decide +kernel
set_option maxRecDepth 20000 in
theorem ggX7_unwatch_X7_isSignal : GoodIn wsX7_unwatch wsX7_isSignal := goodIn_r _ [9, 10, 11, 12, 8, 13] (by decide +kernel) (by decide +kernel)
set_option maxRecDepth 20000 in
theorem gX7_unwatch_X7_isSignal : GoodIn wsX7_unwatch (va_wsS RX7 196 yX7_isSignal wsX7_isSignal) := goodIn_app (goodIn_of _ (by decide +kernel)) ggX7_unwatch_X7_isSignal
set_option maxRecDepth 20000 in
theorem ggX7_unwatch_X7_placeOf : GoodIn wsX7_unwatch wsX7_placeOf := goodIn_r _ [17, 3, 2, 18, 19, 20, 21, 22, 23, 24, 25, 26, 27, 28, 29, 30, 31, 32, 33, 34, 35] (by decide +kernel) (by decide +kernel)
set_option maxRecDepth 20000 in
theorem gX7_unwatch_X7_placeOf : GoodIn wsX7_unwatch (wsV RX7 210 RX7 yX7_placeOf wsX7_placeOf) := goodIn_app (goodIn_of _ (by decide +kernel)) ggX7_unwatch_X7_placeOf
theorem dX7_unwatch_0 : decode cX7_unwatch 0 = .ok (.iload_n 1, 1) := by decide +kernel
theorem dX7_unwatch_1 : decode cX7_unwatch 1 = .ok (.invokestatic 196, 3) := by decide +kernel
theorem dX7_unwatch_4 : decode cX7_unwatch 4 = .ok (.ifCond .ne 6, 3) := by decide +kernel
theorem dX7_unwatch_7 : decode cX7_unwatch 7 = .ok (.ldc 74, 2) := by decide +kernel
theorem dX7_unwatch_9 : decode cX7_unwatch 9 = .ok (.ireturn, 1) := by decide +kernel
theorem dX7_unwatch_10 : decode cX7_unwatch 10 = .ok (.aload_n 0, 1) := by decide +kernel
theorem dX7_unwatch_11 : decode cX7_unwatch 11 = .ok (.iload_n 1, 1) := by decide +kernel
theorem dX7_unwatch_12 : decode cX7_unwatch 12 = .ok (.invokevirtual 210, 3) := by decide +kernel
theorem dX7_unwatch_15 : decode cX7_unwatch 15 = .ok (.istore_n 2, 1) := by decide +kernel
theorem dX7_unwatch_16 : decode cX7_unwatch 16 = .ok (.iload_n 2, 1) := by decide +kernel
theorem dX7_unwatch_17 : decode cX7_unwatch 17 = .ok (.ifCond .ge 6, 3) := by decide +kernel
theorem dX7_unwatch_20 : decode cX7_unwatch 20 = .ok (.ldc 82, 2) := by decide +kernel
theorem dX7_unwatch_22 : decode cX7_unwatch 22 = .ok (.ireturn, 1) := by decide +kernel
theorem dX7_unwatch_23 : decode cX7_unwatch 23 = .ok (.aload_n 0, 1) := by decide +kernel
theorem dX7_unwatch_24 : decode cX7_unwatch 24 = .ok (.getfield 7, 3) := by decide +kernel
theorem dX7_unwatch_27 : decode cX7_unwatch 27 = .ok (.sipush 660, 3) := by decide +kernel
theorem dX7_unwatch_30 : decode cX7_unwatch 30 = .ok (.dup2, 1) := by decide +kernel
theorem dX7_unwatch_31 : decode cX7_unwatch 31 = .ok (.laload, 1) := by decide +kernel
theorem dX7_unwatch_32 : decode cX7_unwatch 32 = .ok (.lconst 1, 1) := by decide +kernel
theorem dX7_unwatch_33 : decode cX7_unwatch 33 = .ok (.lsub, 1) := by decide +kernel
theorem dX7_unwatch_34 : decode cX7_unwatch 34 = .ok (.lastore, 1) := by decide +kernel
theorem dX7_unwatch_35 : decode cX7_unwatch 35 = .ok (.sipush 661, 3) := by decide +kernel
theorem dX7_unwatch_38 : decode cX7_unwatch 38 = .ok (.iconst 5, 1) := by decide +kernel
theorem dX7_unwatch_39 : decode cX7_unwatch 39 = .ok (.iload_n 2, 1) := by decide +kernel
theorem dX7_unwatch_40 : decode cX7_unwatch 40 = .ok (.imul, 1) := by decide +kernel
theorem dX7_unwatch_41 : decode cX7_unwatch 41 = .ok (.iadd, 1) := by decide +kernel
theorem dX7_unwatch_42 : decode cX7_unwatch 42 = .ok (.istore_n 3, 1) := by decide +kernel
theorem dX7_unwatch_43 : decode cX7_unwatch 43 = .ok (.iload_n 3, 1) := by decide +kernel
theorem dX7_unwatch_44 : decode cX7_unwatch 44 = .ok (.i2l, 1) := by decide +kernel
theorem dX7_unwatch_45 : decode cX7_unwatch 45 = .ok (.ldc2_w 215, 3) := by decide +kernel
theorem dX7_unwatch_48 : decode cX7_unwatch 48 = .ok (.ldc2_w 217, 3) := by decide +kernel
theorem dX7_unwatch_51 : decode cX7_unwatch 51 = .ok (.aload_n 0, 1) := by decide +kernel
theorem dX7_unwatch_52 : decode cX7_unwatch 52 = .ok (.getfield 7, 3) := by decide +kernel
theorem dX7_unwatch_55 : decode cX7_unwatch 55 = .ok (.sipush 660, 3) := by decide +kernel
theorem dX7_unwatch_58 : decode cX7_unwatch 58 = .ok (.laload, 1) := by decide +kernel
theorem dX7_unwatch_59 : decode cX7_unwatch 59 = .ok (.lmul, 1) := by decide +kernel
theorem dX7_unwatch_60 : decode cX7_unwatch 60 = .ok (.ladd, 1) := by decide +kernel
theorem dX7_unwatch_61 : decode cX7_unwatch 61 = .ok (.lcmp, 1) := by decide +kernel
theorem dX7_unwatch_62 : decode cX7_unwatch 62 = .ok (.ifCond .ge 23, 3) := by decide +kernel
theorem dX7_unwatch_65 : decode cX7_unwatch 65 = .ok (.aload_n 0, 1) := by decide +kernel
theorem dX7_unwatch_66 : decode cX7_unwatch 66 = .ok (.getfield 7, 3) := by decide +kernel
theorem dX7_unwatch_69 : decode cX7_unwatch 69 = .ok (.iload_n 3, 1) := by decide +kernel
theorem dX7_unwatch_70 : decode cX7_unwatch 70 = .ok (.aload_n 0, 1) := by decide +kernel
theorem dX7_unwatch_71 : decode cX7_unwatch 71 = .ok (.getfield 7, 3) := by decide +kernel
theorem dX7_unwatch_74 : decode cX7_unwatch 74 = .ok (.iload_n 3, 1) := by decide +kernel
theorem dX7_unwatch_75 : decode cX7_unwatch 75 = .ok (.iconst 5, 1) := by decide +kernel
theorem dX7_unwatch_76 : decode cX7_unwatch 76 = .ok (.iadd, 1) := by decide +kernel
theorem dX7_unwatch_77 : decode cX7_unwatch 77 = .ok (.laload, 1) := by decide +kernel
theorem dX7_unwatch_78 : decode cX7_unwatch 78 = .ok (.lastore, 1) := by decide +kernel
theorem dX7_unwatch_79 : decode cX7_unwatch 79 = .ok (.iinc 3 1, 3) := by decide +kernel
theorem dX7_unwatch_82 : decode cX7_unwatch 82 = .ok (.goto (-39), 3) := by decide +kernel
theorem dX7_unwatch_85 : decode cX7_unwatch 85 = .ok (.aload_n 0, 1) := by decide +kernel
theorem dX7_unwatch_86 : decode cX7_unwatch 86 = .ok (.getfield 7, 3) := by decide +kernel
theorem dX7_unwatch_89 : decode cX7_unwatch 89 = .ok (.sipush 660, 3) := by decide +kernel
theorem dX7_unwatch_92 : decode cX7_unwatch 92 = .ok (.laload, 1) := by decide +kernel
theorem dX7_unwatch_93 : decode cX7_unwatch 93 = .ok (.l2i, 1) := by decide +kernel
theorem dX7_unwatch_94 : decode cX7_unwatch 94 = .ok (.ireturn, 1) := by decide +kernel
theorem dX7_watchedAt_0 : decode cX7_watchedAt 0 = .ok (.iload_n 1, 1) := by decide +kernel
theorem dX7_watchedAt_1 : decode cX7_watchedAt 1 = .ok (.ifCond .ge 6, 3) := by decide +kernel
theorem dX7_watchedAt_4 : decode cX7_watchedAt 4 = .ok (.ldc 74, 2) := by decide +kernel
theorem dX7_watchedAt_6 : decode cX7_watchedAt 6 = .ok (.ireturn, 1) := by decide +kernel
theorem dX7_watchedAt_7 : decode cX7_watchedAt 7 = .ok (.iload_n 1, 1) := by decide +kernel
theorem dX7_watchedAt_8 : decode cX7_watchedAt 8 = .ok (.i2l, 1) := by decide +kernel
theorem dX7_watchedAt_9 : decode cX7_watchedAt 9 = .ok (.aload_n 0, 1) := by decide +kernel
theorem dX7_watchedAt_10 : decode cX7_watchedAt 10 = .ok (.getfield 7, 3) := by decide +kernel
theorem dX7_watchedAt_13 : decode cX7_watchedAt 13 = .ok (.sipush 660, 3) := by decide +kernel
theorem dX7_watchedAt_16 : decode cX7_watchedAt 16 = .ok (.laload, 1) := by decide +kernel
theorem dX7_watchedAt_17 : decode cX7_watchedAt 17 = .ok (.lcmp, 1) := by decide +kernel
theorem dX7_watchedAt_18 : decode cX7_watchedAt 18 = .ok (.ifCond .ge 19, 3) := by decide +kernel
theorem dX7_watchedAt_21 : decode cX7_watchedAt 21 = .ok (.aload_n 0, 1) := by decide +kernel
theorem dX7_watchedAt_22 : decode cX7_watchedAt 22 = .ok (.getfield 7, 3) := by decide +kernel
theorem dX7_watchedAt_25 : decode cX7_watchedAt 25 = .ok (.sipush 661, 3) := by decide +kernel

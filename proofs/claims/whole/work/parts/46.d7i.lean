theorem dX7_value_9 : decode cX7_value 9 = .ok (.invokevirtual 199, 3) := by decide +kernel
theorem dX7_value_12 : decode cX7_value 12 = .ok (.goto 5, 3) := by decide +kernel
theorem dX7_value_15 : decode cX7_value 15 = .ok (.ldc 74, 2) := by decide +kernel
theorem dX7_value_17 : decode cX7_value 17 = .ok (.ireturn, 1) := by decide +kernel
set_option maxRecDepth 20000 in
theorem ggX7_recorded_X7_isSignal : GoodIn wsX7_recorded wsX7_isSignal := goodIn_r _ [8, 9, 10, 11, 7, 12] (by decide +kernel) (by decide +kernel)
set_option maxRecDepth 20000 in
theorem gX7_recorded_X7_isSignal : GoodIn wsX7_recorded (va_wsS RX7 196 yX7_isSignal wsX7_isSignal) := goodIn_app (goodIn_of _ (by decide +kernel)) ggX7_recorded_X7_isSignal
set_option maxRecDepth 20000 in
theorem ggX7_recorded_X7_in : GoodIn wsX7_recorded wsX7_in := goodIn_r _ [12] (by decide +kernel) (by decide +kernel)
set_option maxRecDepth 20000 in
theorem gX7_recorded_X7_in : GoodIn wsX7_recorded (va_wsS RX7 66 yX7_in wsX7_in) := goodIn_app (goodIn_of _ (by decide +kernel)) ggX7_recorded_X7_in
set_option maxRecDepth 20000 in
theorem ggX7_recorded_X7_at : GoodIn wsX7_recorded wsX7_at := goodIn_r _ [16, 3, 17, 18, 19, 20, 21, 22, 23, 24, 25, 26, 27, 28, 29, 30, 31, 32, 33, 34, 35] (by decide +kernel) (by decide +kernel)
set_option maxRecDepth 20000 in
theorem gX7_recorded_X7_at : GoodIn wsX7_recorded (wsV RX7 132 RX7 yX7_at wsX7_at) := goodIn_app (goodIn_of _ (by decide +kernel)) ggX7_recorded_X7_at
theorem dX7_recorded_0 : decode cX7_recorded 0 = .ok (.iload_n 1, 1) := by decide +kernel
theorem dX7_recorded_1 : decode cX7_recorded 1 = .ok (.invokestatic 196, 3) := by decide +kernel
theorem dX7_recorded_4 : decode cX7_recorded 4 = .ok (.ifCond .eq 15, 3) := by decide +kernel
theorem dX7_recorded_7 : decode cX7_recorded 7 = .ok (.iload_n 2, 1) := by decide +kernel
theorem dX7_recorded_8 : decode cX7_recorded 8 = .ok (.i2l, 1) := by decide +kernel
theorem dX7_recorded_9 : decode cX7_recorded 9 = .ok (.lconst 0, 1) := by decide +kernel
theorem dX7_recorded_10 : decode cX7_recorded 10 = .ok (.ldc2_w 202, 3) := by decide +kernel
theorem dX7_recorded_13 : decode cX7_recorded 13 = .ok (.invokestatic 66, 3) := by decide +kernel
theorem dX7_recorded_16 : decode cX7_recorded 16 = .ok (.ifCond .ne 6, 3) := by decide +kernel
theorem dX7_recorded_19 : decode cX7_recorded 19 = .ok (.ldc 74, 2) := by decide +kernel
theorem dX7_recorded_21 : decode cX7_recorded 21 = .ok (.ireturn, 1) := by decide +kernel
theorem dX7_recorded_22 : decode cX7_recorded 22 = .ok (.iload_n 2, 1) := by decide +kernel
theorem dX7_recorded_23 : decode cX7_recorded 23 = .ok (.i2l, 1) := by decide +kernel
theorem dX7_recorded_24 : decode cX7_recorded 24 = .ok (.aload_n 0, 1) := by decide +kernel
theorem dX7_recorded_25 : decode cX7_recorded 25 = .ok (.getfield 7, 3) := by decide +kernel
theorem dX7_recorded_28 : decode cX7_recorded 28 = .ok (.sipush 640, 3) := by decide +kernel
theorem dX7_recorded_31 : decode cX7_recorded 31 = .ok (.laload, 1) := by decide +kernel
theorem dX7_recorded_32 : decode cX7_recorded 32 = .ok (.lcmp, 1) := by decide +kernel
theorem dX7_recorded_33 : decode cX7_recorded 33 = .ok (.ifCond .ge 25, 3) := by decide +kernel
theorem dX7_recorded_36 : decode cX7_recorded 36 = .ok (.aload_n 0, 1) := by decide +kernel
theorem dX7_recorded_37 : decode cX7_recorded 37 = .ok (.iload_n 1, 1) := by decide +kernel
theorem dX7_recorded_38 : decode cX7_recorded 38 = .ok (.aload_n 0, 1) := by decide +kernel
theorem dX7_recorded_39 : decode cX7_recorded 39 = .ok (.getfield 7, 3) := by decide +kernel
theorem dX7_recorded_42 : decode cX7_recorded 42 = .ok (.sipush 640, 3) := by decide +kernel
theorem dX7_recorded_45 : decode cX7_recorded 45 = .ok (.laload, 1) := by decide +kernel
theorem dX7_recorded_46 : decode cX7_recorded 46 = .ok (.lconst 1, 1) := by decide +kernel
theorem dX7_recorded_47 : decode cX7_recorded 47 = .ok (.lsub, 1) := by decide +kernel
theorem dX7_recorded_48 : decode cX7_recorded 48 = .ok (.iload_n 2, 1) := by decide +kernel
theorem dX7_recorded_49 : decode cX7_recorded 49 = .ok (.i2l, 1) := by decide +kernel
theorem dX7_recorded_50 : decode cX7_recorded 50 = .ok (.lsub, 1) := by decide +kernel
theorem dX7_recorded_51 : decode cX7_recorded 51 = .ok (.invokevirtual 132, 3) := by decide +kernel
theorem dX7_recorded_54 : decode cX7_recorded 54 = .ok (.l2i, 1) := by decide +kernel
theorem dX7_recorded_55 : decode cX7_recorded 55 = .ok (.goto 5, 3) := by decide +kernel
theorem dX7_recorded_58 : decode cX7_recorded 58 = .ok (.ldc 82, 2) := by decide +kernel
theorem dX7_recorded_60 : decode cX7_recorded 60 = .ok (.ireturn, 1) := by decide +kernel
theorem dX7_clears_0 : decode cX7_clears 0 = .ok (.iconst 0, 1) := by decide +kernel
theorem dX7_clears_1 : decode cX7_clears 1 = .ok (.istore_n 1, 1) := by decide +kernel
theorem dX7_clears_2 : decode cX7_clears 2 = .ok (.iload_n 1, 1) := by decide +kernel
theorem dX7_clears_3 : decode cX7_clears 3 = .ok (.sipush 681, 3) := by decide +kernel
theorem dX7_clears_6 : decode cX7_clears 6 = .ok (.if_icmp .ge 16, 3) := by decide +kernel
theorem dX7_clears_9 : decode cX7_clears 9 = .ok (.aload_n 0, 1) := by decide +kernel
theorem dX7_clears_10 : decode cX7_clears 10 = .ok (.getfield 7, 3) := by decide +kernel
theorem dX7_clears_13 : decode cX7_clears 13 = .ok (.iload_n 1, 1) := by decide +kernel
theorem dX7_clears_14 : decode cX7_clears 14 = .ok (.lconst 0, 1) := by decide +kernel
theorem dX7_clears_15 : decode cX7_clears 15 = .ok (.lastore, 1) := by decide +kernel
theorem dX7_clears_16 : decode cX7_clears 16 = .ok (.iinc 1 1, 3) := by decide +kernel
theorem dX7_clears_19 : decode cX7_clears 19 = .ok (.goto (-17), 3) := by decide +kernel
theorem dX7_clears_22 : decode cX7_clears 22 = .ok (.return_, 1) := by decide +kernel
set_option maxRecDepth 20000 in
theorem ggX7_restart_X7_clears : GoodIn wsX7_restart wsX7_clears := goodIn_r _ [7, 1, 8, 9, 10, 11, 12, 13, 14, 15, 16, 17, 18, 19, 20, 21, 22, 23, 24, 25] (by decide +kernel) (by decide +kernel)
set_option maxRecDepth 20000 in
theorem gX7_restart_X7_clears : GoodIn wsX7_restart (wsV RX7 204 RX7 yX7_clears wsX7_clears) := goodIn_app (goodIn_of _ (by decide +kernel)) ggX7_restart_X7_clears
theorem dX7_restart_0 : decode cX7_restart 0 = .ok (.aload_n 0, 1) := by decide +kernel
theorem dX7_restart_1 : decode cX7_restart 1 = .ok (.getfield 7, 3) := by decide +kernel
theorem dX7_restart_4 : decode cX7_restart 4 = .ok (.sipush 640, 3) := by decide +kernel
theorem dX7_restart_7 : decode cX7_restart 7 = .ok (.laload, 1) := by decide +kernel
theorem dX7_restart_8 : decode cX7_restart 8 = .ok (.l2i, 1) := by decide +kernel
theorem dX7_restart_9 : decode cX7_restart 9 = .ok (.istore_n 1, 1) := by decide +kernel
theorem dX7_restart_10 : decode cX7_restart 10 = .ok (.aload_n 0, 1) := by decide +kernel
theorem dX7_restart_11 : decode cX7_restart 11 = .ok (.invokevirtual 204, 3) := by decide +kernel
theorem dX7_restart_14 : decode cX7_restart 14 = .ok (.aload_n 0, 1) := by decide +kernel
theorem dX7_restart_15 : decode cX7_restart 15 = .ok (.iconst 0, 1) := by decide +kernel
theorem dX7_restart_16 : decode cX7_restart 16 = .ok (.putfield 207, 3) := by decide +kernel
theorem dX7_restart_19 : decode cX7_restart 19 = .ok (.iload_n 1, 1) := by decide +kernel
theorem dX7_restart_20 : decode cX7_restart 20 = .ok (.ireturn, 1) := by decide +kernel
theorem dX7_placeOf_0 : decode cX7_placeOf 0 = .ok (.iconst 0, 1) := by decide +kernel
theorem dX7_placeOf_1 : decode cX7_placeOf 1 = .ok (.istore_n 2, 1) := by decide +kernel
theorem dX7_placeOf_2 : decode cX7_placeOf 2 = .ok (.iload_n 2, 1) := by decide +kernel
theorem dX7_placeOf_3 : decode cX7_placeOf 3 = .ok (.i2l, 1) := by decide +kernel
theorem dX7_placeOf_4 : decode cX7_placeOf 4 = .ok (.aload_n 0, 1) := by decide +kernel
theorem dX7_placeOf_5 : decode cX7_placeOf 5 = .ok (.getfield 7, 3) := by decide +kernel
theorem dX7_placeOf_8 : decode cX7_placeOf 8 = .ok (.sipush 660, 3) := by decide +kernel
theorem dX7_placeOf_11 : decode cX7_placeOf 11 = .ok (.laload, 1) := by decide +kernel
theorem dX7_placeOf_12 : decode cX7_placeOf 12 = .ok (.lcmp, 1) := by decide +kernel
theorem dX7_placeOf_13 : decode cX7_placeOf 13 = .ok (.ifCond .ge 29, 3) := by decide +kernel
theorem dX7_placeOf_16 : decode cX7_placeOf 16 = .ok (.aload_n 0, 1) := by decide +kernel
theorem dX7_placeOf_17 : decode cX7_placeOf 17 = .ok (.getfield 7, 3) := by decide +kernel
theorem dX7_placeOf_20 : decode cX7_placeOf 20 = .ok (.sipush 661, 3) := by decide +kernel
theorem dX7_placeOf_23 : decode cX7_placeOf 23 = .ok (.iconst 5, 1) := by decide +kernel
theorem dX7_placeOf_24 : decode cX7_placeOf 24 = .ok (.iload_n 2, 1) := by decide +kernel
theorem dX7_placeOf_25 : decode cX7_placeOf 25 = .ok (.imul, 1) := by decide +kernel
theorem dX7_placeOf_26 : decode cX7_placeOf 26 = .ok (.iadd, 1) := by decide +kernel
theorem dX7_placeOf_27 : decode cX7_placeOf 27 = .ok (.laload, 1) := by decide +kernel
theorem dX7_placeOf_28 : decode cX7_placeOf 28 = .ok (.iload_n 1, 1) := by decide +kernel
theorem dX7_placeOf_29 : decode cX7_placeOf 29 = .ok (.i2l, 1) := by decide +kernel
theorem dX7_placeOf_30 : decode cX7_placeOf 30 = .ok (.lcmp, 1) := by decide +kernel
theorem dX7_placeOf_31 : decode cX7_placeOf 31 = .ok (.ifCond .ne 5, 3) := by decide +kernel
theorem dX7_placeOf_34 : decode cX7_placeOf 34 = .ok (.iload_n 2, 1) := by decide +kernel
theorem dX7_placeOf_35 : decode cX7_placeOf 35 = .ok (.ireturn, 1) := by decide +kernel
theorem dX7_placeOf_36 : decode cX7_placeOf 36 = .ok (.iinc 2 1, 3) := by decide +kernel
theorem dX7_placeOf_39 : decode cX7_placeOf 39 = .ok (.goto (-37), 3) := by decide +kernel
theorem dX7_placeOf_42 : decode cX7_placeOf 42 = .ok (.ldc 82, 2) := by decide +kernel
theorem dX7_placeOf_44 : decode cX7_placeOf 44 = .ok (.ireturn, 1) := by decide +kernel
set_option maxRecDepth 20000 in
theorem ggX7_watch_X7_isSignal : GoodIn wsX7_watch wsX7_isSignal := goodIn_r _ [8, 9, 10, 11, 7, 12] (by decide +kernel) (by decide +kernel)
set_option maxRecDepth 20000 in
theorem gX7_watch_X7_isSignal : GoodIn wsX7_watch (va_wsS RX7 196 yX7_isSignal wsX7_isSignal) := goodIn_app (goodIn_of _ (by decide +kernel)) ggX7_watch_X7_isSignal
set_option maxRecDepth 20000 in
theorem ggX7_watch_X7_placeOf : GoodIn wsX7_watch wsX7_placeOf := goodIn_r _ [16, 2, 17, 18, 19, 20, 21, 22, 23, 24, 25, 26, 27, 28, 29, 30, 31, 32, 33, 34, 35] (by decide +kernel) (by decide +kernel)
set_option maxRecDepth 20000 in
theorem gX7_watch_X7_placeOf : GoodIn wsX7_watch (wsV RX7 210 RX7 yX7_placeOf wsX7_placeOf) := goodIn_app (goodIn_of _ (by decide +kernel)) ggX7_watch_X7_placeOf
theorem dX7_watch_0 : decode cX7_watch 0 = .ok (.iload_n 1, 1) := by decide +kernel
theorem dX7_watch_1 : decode cX7_watch 1 = .ok (.invokestatic 196, 3) := by decide +kernel
theorem dX7_watch_4 : decode cX7_watch 4 = .ok (.ifCond .ne 6, 3) := by decide +kernel
theorem dX7_watch_7 : decode cX7_watch 7 = .ok (.ldc 74, 2) := by decide +kernel
theorem dX7_watch_9 : decode cX7_watch 9 = .ok (.ireturn, 1) := by decide +kernel
theorem dX7_watch_10 : decode cX7_watch 10 = .ok (.aload_n 0, 1) := by decide +kernel
theorem dX7_watch_11 : decode cX7_watch 11 = .ok (.iload_n 1, 1) := by decide +kernel
theorem dX7_watch_12 : decode cX7_watch 12 = .ok (.invokevirtual 210, 3) := by decide +kernel
theorem dX7_watch_15 : decode cX7_watch 15 = .ok (.istore_n 2, 1) := by decide +kernel
theorem dX7_watch_16 : decode cX7_watch 16 = .ok (.iload_n 2, 1) := by decide +kernel
theorem dX7_watch_17 : decode cX7_watch 17 = .ok (.ifCond .ge 21, 3) := by decide +kernel
theorem dX7_watch_20 : decode cX7_watch 20 = .ok (.aload_n 0, 1) := by decide +kernel
theorem dX7_watch_21 : decode cX7_watch 21 = .ok (.getfield 7, 3) := by decide +kernel

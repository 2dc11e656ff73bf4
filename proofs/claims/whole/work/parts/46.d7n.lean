theorem dX7_tuneDelay_24 : decode cX7_tuneDelay 24 = .ok (.ifCond .eq 38, 3) := by decide +kernel
theorem dX7_tuneDelay_27 : decode cX7_tuneDelay 27 = .ok (.iload_n 3, 1) := by decide +kernel
theorem dX7_tuneDelay_28 : decode cX7_tuneDelay 28 = .ok (.iload_n 1, 1) := by decide +kernel
theorem dX7_tuneDelay_29 : decode cX7_tuneDelay 29 = .ok (.if_icmp .eq 21, 3) := by decide +kernel
theorem dX7_tuneDelay_32 : decode cX7_tuneDelay 32 = .ok (.aload_n 0, 1) := by decide +kernel
theorem dX7_tuneDelay_33 : decode cX7_tuneDelay 33 = .ok (.iload_n 1, 1) := by decide +kernel
theorem dX7_tuneDelay_34 : decode cX7_tuneDelay 34 = .ok (.invokevirtual 225, 3) := by decide +kernel
theorem dX7_tuneDelay_37 : decode cX7_tuneDelay 37 = .ok (.ldc2_w 150, 3) := by decide +kernel
theorem dX7_tuneDelay_40 : decode cX7_tuneDelay 40 = .ok (.aload_n 0, 1) := by decide +kernel
theorem dX7_tuneDelay_41 : decode cX7_tuneDelay 41 = .ok (.iload_n 3, 1) := by decide +kernel
theorem dX7_tuneDelay_42 : decode cX7_tuneDelay 42 = .ok (.invokevirtual 225, 3) := by decide +kernel
theorem dX7_tuneDelay_45 : decode cX7_tuneDelay 45 = .ok (.lmul, 1) := by decide +kernel
theorem dX7_tuneDelay_46 : decode cX7_tuneDelay 46 = .ok (.lcmp, 1) := by decide +kernel
theorem dX7_tuneDelay_47 : decode cX7_tuneDelay 47 = .ok (.ifCond .lt 7, 3) := by decide +kernel
theorem dX7_tuneDelay_50 : decode cX7_tuneDelay 50 = .ok (.iconst 1, 1) := by decide +kernel
theorem dX7_tuneDelay_51 : decode cX7_tuneDelay 51 = .ok (.goto 4, 3) := by decide +kernel
theorem dX7_tuneDelay_54 : decode cX7_tuneDelay 54 = .ok (.iconst 0, 1) := by decide +kernel
theorem dX7_tuneDelay_55 : decode cX7_tuneDelay 55 = .ok (.istore_n 2, 1) := by decide +kernel
theorem dX7_tuneDelay_56 : decode cX7_tuneDelay 56 = .ok (.iinc 3 1, 3) := by decide +kernel
theorem dX7_tuneDelay_59 : decode cX7_tuneDelay 59 = .ok (.goto (-42), 3) := by decide +kernel
theorem dX7_tuneDelay_62 : decode cX7_tuneDelay 62 = .ok (.iload_n 2, 1) := by decide +kernel
theorem dX7_tuneDelay_63 : decode cX7_tuneDelay 63 = .ok (.ifCond .ne 6, 3) := by decide +kernel
theorem dX7_tuneDelay_66 : decode cX7_tuneDelay 66 = .ok (.ldc 83, 2) := by decide +kernel
theorem dX7_tuneDelay_68 : decode cX7_tuneDelay 68 = .ok (.ireturn, 1) := by decide +kernel
theorem dX7_tuneDelay_69 : decode cX7_tuneDelay 69 = .ok (.aload_n 0, 1) := by decide +kernel
theorem dX7_tuneDelay_70 : decode cX7_tuneDelay 70 = .ok (.invokevirtual 75, 3) := by decide +kernel
theorem dX7_tuneDelay_73 : decode cX7_tuneDelay 73 = .ok (.aload_n 0, 1) := by decide +kernel
theorem dX7_tuneDelay_74 : decode cX7_tuneDelay 74 = .ok (.getfield 19, 3) := by decide +kernel
theorem dX7_tuneDelay_77 : decode cX7_tuneDelay 77 = .ok (.bipush 7, 2) := by decide +kernel
theorem dX7_tuneDelay_79 : decode cX7_tuneDelay 79 = .ok (.bipush 10, 2) := by decide +kernel
theorem dX7_tuneDelay_81 : decode cX7_tuneDelay 81 = .ok (.iload_n 1, 1) := by decide +kernel
theorem dX7_tuneDelay_82 : decode cX7_tuneDelay 82 = .ok (.imul, 1) := by decide +kernel
theorem dX7_tuneDelay_83 : decode cX7_tuneDelay 83 = .ok (.iastore, 1) := by decide +kernel
theorem dX7_tuneDelay_84 : decode cX7_tuneDelay 84 = .ok (.aload_n 0, 1) := by decide +kernel
theorem dX7_tuneDelay_85 : decode cX7_tuneDelay 85 = .ok (.getfield 19, 3) := by decide +kernel
theorem dX7_tuneDelay_88 : decode cX7_tuneDelay 88 = .ok (.bipush 7, 2) := by decide +kernel
theorem dX7_tuneDelay_90 : decode cX7_tuneDelay 90 = .ok (.iaload, 1) := by decide +kernel
theorem dX7_tuneDelay_91 : decode cX7_tuneDelay 91 = .ok (.ireturn, 1) := by decide +kernel
theorem dX7_putsAside_0 : decode cX7_putsAside 0 = .ok (.iconst 0, 1) := by decide +kernel
theorem dX7_putsAside_1 : decode cX7_putsAside 1 = .ok (.istore_n 1, 1) := by decide +kernel
theorem dX7_putsAside_2 : decode cX7_putsAside 2 = .ok (.iload_n 1, 1) := by decide +kernel
theorem dX7_putsAside_3 : decode cX7_putsAside 3 = .ok (.sipush 681, 3) := by decide +kernel
theorem dX7_putsAside_6 : decode cX7_putsAside 6 = .ok (.if_icmp .ge 21, 3) := by decide +kernel
theorem dX7_putsAside_9 : decode cX7_putsAside 9 = .ok (.aload_n 0, 1) := by decide +kernel
theorem dX7_putsAside_10 : decode cX7_putsAside 10 = .ok (.getfield 13, 3) := by decide +kernel
theorem dX7_putsAside_13 : decode cX7_putsAside 13 = .ok (.iload_n 1, 1) := by decide +kernel
theorem dX7_putsAside_14 : decode cX7_putsAside 14 = .ok (.aload_n 0, 1) := by decide +kernel
theorem dX7_putsAside_15 : decode cX7_putsAside 15 = .ok (.getfield 7, 3) := by decide +kernel
theorem dX7_putsAside_18 : decode cX7_putsAside 18 = .ok (.iload_n 1, 1) := by decide +kernel
theorem dX7_putsAside_19 : decode cX7_putsAside 19 = .ok (.laload, 1) := by decide +kernel
theorem dX7_putsAside_20 : decode cX7_putsAside 20 = .ok (.lastore, 1) := by decide +kernel
theorem dX7_putsAside_21 : decode cX7_putsAside 21 = .ok (.iinc 1 1, 3) := by decide +kernel
theorem dX7_putsAside_24 : decode cX7_putsAside 24 = .ok (.goto (-22), 3) := by decide +kernel
theorem dX7_putsAside_27 : decode cX7_putsAside 27 = .ok (.iconst 0, 1) := by decide +kernel
theorem dX7_putsAside_28 : decode cX7_putsAside 28 = .ok (.istore_n 1, 1) := by decide +kernel
theorem dX7_putsAside_29 : decode cX7_putsAside 29 = .ok (.iload_n 1, 1) := by decide +kernel
theorem dX7_putsAside_30 : decode cX7_putsAside 30 = .ok (.bipush 15, 2) := by decide +kernel
theorem dX7_putsAside_32 : decode cX7_putsAside 32 = .ok (.if_icmp .ge 21, 3) := by decide +kernel
theorem dX7_putsAside_35 : decode cX7_putsAside 35 = .ok (.aload_n 0, 1) := by decide +kernel
theorem dX7_putsAside_36 : decode cX7_putsAside 36 = .ok (.getfield 23, 3) := by decide +kernel
theorem dX7_putsAside_39 : decode cX7_putsAside 39 = .ok (.iload_n 1, 1) := by decide +kernel
theorem dX7_putsAside_40 : decode cX7_putsAside 40 = .ok (.aload_n 0, 1) := by decide +kernel
theorem dX7_putsAside_41 : decode cX7_putsAside 41 = .ok (.getfield 19, 3) := by decide +kernel
theorem dX7_putsAside_44 : decode cX7_putsAside 44 = .ok (.iload_n 1, 1) := by decide +kernel
theorem dX7_putsAside_45 : decode cX7_putsAside 45 = .ok (.iaload, 1) := by decide +kernel
theorem dX7_putsAside_46 : decode cX7_putsAside 46 = .ok (.iastore, 1) := by decide +kernel
theorem dX7_putsAside_47 : decode cX7_putsAside 47 = .ok (.iinc 1 1, 3) := by decide +kernel
theorem dX7_putsAside_50 : decode cX7_putsAside 50 = .ok (.goto (-21), 3) := by decide +kernel
theorem dX7_putsAside_53 : decode cX7_putsAside 53 = .ok (.return_, 1) := by decide +kernel
theorem dX7_putsBack_0 : decode cX7_putsBack 0 = .ok (.iconst 0, 1) := by decide +kernel
theorem dX7_putsBack_1 : decode cX7_putsBack 1 = .ok (.istore_n 1, 1) := by decide +kernel
theorem dX7_putsBack_2 : decode cX7_putsBack 2 = .ok (.iload_n 1, 1) := by decide +kernel
theorem dX7_putsBack_3 : decode cX7_putsBack 3 = .ok (.sipush 681, 3) := by decide +kernel
theorem dX7_putsBack_6 : decode cX7_putsBack 6 = .ok (.if_icmp .ge 21, 3) := by decide +kernel
theorem dX7_putsBack_9 : decode cX7_putsBack 9 = .ok (.aload_n 0, 1) := by decide +kernel
theorem dX7_putsBack_10 : decode cX7_putsBack 10 = .ok (.getfield 7, 3) := by decide +kernel
theorem dX7_putsBack_13 : decode cX7_putsBack 13 = .ok (.iload_n 1, 1) := by decide +kernel
theorem dX7_putsBack_14 : decode cX7_putsBack 14 = .ok (.aload_n 0, 1) := by decide +kernel
theorem dX7_putsBack_15 : decode cX7_putsBack 15 = .ok (.getfield 13, 3) := by decide +kernel
theorem dX7_putsBack_18 : decode cX7_putsBack 18 = .ok (.iload_n 1, 1) := by decide +kernel
theorem dX7_putsBack_19 : decode cX7_putsBack 19 = .ok (.laload, 1) := by decide +kernel
theorem dX7_putsBack_20 : decode cX7_putsBack 20 = .ok (.lastore, 1) := by decide +kernel
theorem dX7_putsBack_21 : decode cX7_putsBack 21 = .ok (.iinc 1 1, 3) := by decide +kernel
theorem dX7_putsBack_24 : decode cX7_putsBack 24 = .ok (.goto (-22), 3) := by decide +kernel
theorem dX7_putsBack_27 : decode cX7_putsBack 27 = .ok (.iconst 0, 1) := by decide +kernel
theorem dX7_putsBack_28 : decode cX7_putsBack 28 = .ok (.istore_n 1, 1) := by decide +kernel
theorem dX7_putsBack_29 : decode cX7_putsBack 29 = .ok (.iload_n 1, 1) := by decide +kernel
theorem dX7_putsBack_30 : decode cX7_putsBack 30 = .ok (.bipush 15, 2) := by decide +kernel
theorem dX7_putsBack_32 : decode cX7_putsBack 32 = .ok (.if_icmp .ge 21, 3) := by decide +kernel
theorem dX7_putsBack_35 : decode cX7_putsBack 35 = .ok (.aload_n 0, 1) := by decide +kernel
theorem dX7_putsBack_36 : decode cX7_putsBack 36 = .ok (.getfield 19, 3) := by decide +kernel
theorem dX7_putsBack_39 : decode cX7_putsBack 39 = .ok (.iload_n 1, 1) := by decide +kernel
theorem dX7_putsBack_40 : decode cX7_putsBack 40 = .ok (.aload_n 0, 1) := by decide +kernel
theorem dX7_putsBack_41 : decode cX7_putsBack 41 = .ok (.getfield 23, 3) := by decide +kernel
theorem dX7_putsBack_44 : decode cX7_putsBack 44 = .ok (.iload_n 1, 1) := by decide +kernel
theorem dX7_putsBack_45 : decode cX7_putsBack 45 = .ok (.iaload, 1) := by decide +kernel
theorem dX7_putsBack_46 : decode cX7_putsBack 46 = .ok (.iastore, 1) := by decide +kernel
theorem dX7_putsBack_47 : decode cX7_putsBack 47 = .ok (.iinc 1 1, 3) := by decide +kernel
theorem dX7_putsBack_50 : decode cX7_putsBack 50 = .ok (.goto (-21), 3) := by decide +kernel
theorem dX7_putsBack_53 : decode cX7_putsBack 53 = .ok (.return_, 1) := by decide +kernel
set_option maxRecDepth 20000 in
theorem ggX7_ahead_X7_in : GoodIn wsX7_ahead wsX7_in := goodIn_r _ [6] (by decide +kernel) (by decide +kernel)
set_option maxRecDepth 20000 in
theorem gX7_ahead_X7_in : GoodIn wsX7_ahead (va_wsS RX7 66 yX7_in wsX7_in) := goodIn_app (goodIn_of _ (by decide +kernel)) ggX7_ahead_X7_in
set_option maxRecDepth 20000 in
theorem ggX7_ahead_X7_isSignal : GoodIn wsX7_ahead wsX7_isSignal := goodIn_r _ [9, 10, 3, 4, 5, 6] (by decide +kernel) (by decide +kernel)
set_option maxRecDepth 20000 in
theorem gX7_ahead_X7_isSignal : GoodIn wsX7_ahead (va_wsS RX7 196 yX7_isSignal wsX7_isSignal) := goodIn_app (goodIn_of _ (by decide +kernel)) ggX7_ahead_X7_isSignal
set_option maxRecDepth 20000 in
theorem ggX7_ahead_X7_putsAside : GoodIn wsX7_ahead wsX7_putsAside := goodIn_r _ [14, 15, 16, 17, 18, 81, 82, 83, 84, 85, 86, 87, 88, 89, 90, 91, 92, 93, 94, 95, 96, 97, 98] (by decide +kernel) (by decide +kernel)
set_option maxRecDepth 20000 in
theorem gX7_ahead_X7_putsAside : GoodIn wsX7_ahead (wsV RX7 232 RX7 yX7_putsAside wsX7_putsAside) := goodIn_app (goodIn_of _ (by decide +kernel)) ggX7_ahead_X7_putsAside
set_option maxRecDepth 20000 in
theorem ggX7_ahead_X7_ticks : GoodIn wsX7_ahead wsX7_ticks := goodIn_r _ [22, 16, 18, 23, 24, 25, 26, 27, 5, 28, 29, 30, 31, 32, 33, 34, 35, 36, 37, 38, 39, 40, 41, 42, 43, 44, 45, 46, 47, 48, 49, 50, 51, 52, 53, 54, 55, 56, 57, 58, 59, 60, 61, 62, 63, 64, 65, 66, 67, 68, 69, 70, 71, 72, 81, 82, 83, 84, 85, 86, 87, 88, 89, 90, 91, 92, 93, 94, 95, 96, 97, 98] rfl (by decide +kernel)
set_option maxRecDepth 20000 in
theorem gX7_ahead_X7_ticks : GoodIn wsX7_ahead (wsV RX7 191 RX7 yX7_ticks wsX7_ticks) := goodIn_app (goodIn_of _ (by decide +kernel)) ggX7_ahead_X7_ticks
set_option maxRecDepth 20000 in
theorem ggX7_ahead_X7_present : GoodIn wsX7_ahead wsX7_present := goodIn_r _ [76, 16, 81, 82, 83, 84, 85, 86, 87, 88, 89, 90, 91, 92, 93, 94, 95, 96, 97, 98] (by decide +kernel) (by decide +kernel)
set_option maxRecDepth 20000 in
theorem gX7_ahead_X7_present : GoodIn wsX7_ahead (wsV RX7 199 RX7 yX7_present wsX7_present) := goodIn_app (goodIn_of _ (by decide +kernel)) ggX7_ahead_X7_present
set_option maxRecDepth 20000 in
theorem ggX7_ahead_X7_putsBack : GoodIn wsX7_ahead wsX7_putsBack := goodIn_r _ [80, 16, 15, 18, 17, 81, 82, 83, 84, 85, 86, 87, 88, 89, 90, 91, 92, 93, 94, 95, 96, 97, 98] (by decide +kernel) (by decide +kernel)
set_option maxRecDepth 20000 in
theorem gX7_ahead_X7_putsBack : GoodIn wsX7_ahead (wsV RX7 235 RX7 yX7_putsBack wsX7_putsBack) := goodIn_app (goodIn_of _ (by decide +kernel)) ggX7_ahead_X7_putsBack
theorem dX7_ahead_0 : decode cX7_ahead 0 = .ok (.iload_n 1, 1) := by decide +kernel
theorem dX7_ahead_1 : decode cX7_ahead 1 = .ok (.i2l, 1) := by decide +kernel
theorem dX7_ahead_2 : decode cX7_ahead 2 = .ok (.lconst 1, 1) := by decide +kernel
theorem dX7_ahead_3 : decode cX7_ahead 3 = .ok (.ldc2_w 189, 3) := by decide +kernel
theorem dX7_ahead_6 : decode cX7_ahead 6 = .ok (.invokestatic 66, 3) := by decide +kernel
theorem dX7_ahead_9 : decode cX7_ahead 9 = .ok (.ifCond .eq 10, 3) := by decide +kernel

theorem dX7_keeps_75 : decode cX7_keeps 75 = .ok (.iastore, 1) := by decide +kernel
theorem dX7_keeps_76 : decode cX7_keeps 76 = .ok (.iinc 1 1, 3) := by decide +kernel
theorem dX7_keeps_79 : decode cX7_keeps 79 = .ok (.goto (-29), 3) := by decide +kernel
theorem dX7_keeps_82 : decode cX7_keeps 82 = .ok (.aload_n 0, 1) := by decide +kernel
theorem dX7_keeps_83 : decode cX7_keeps 83 = .ok (.dup, 1) := by decide +kernel
theorem dX7_keeps_84 : decode cX7_keeps 84 = .ok (.getfield 60, 3) := by decide +kernel
theorem dX7_keeps_87 : decode cX7_keeps 87 = .ok (.iconst 1, 1) := by decide +kernel
theorem dX7_keeps_88 : decode cX7_keeps 88 = .ok (.iadd, 1) := by decide +kernel
theorem dX7_keeps_89 : decode cX7_keeps 89 = .ok (.putfield 60, 3) := by decide +kernel
theorem dX7_keeps_92 : decode cX7_keeps 92 = .ok (.return_, 1) := by decide +kernel
set_option maxRecDepth 20000 in
theorem ggX7_isParameter_X7_in : GoodIn wsX7_isParameter wsX7_in := goodIn_r _ [5] (by decide +kernel) (by decide +kernel)
set_option maxRecDepth 20000 in
theorem gX7_isParameter_X7_in : GoodIn wsX7_isParameter (va_wsS RX7 66 yX7_in wsX7_in) := goodIn_app (goodIn_of _ (by decide +kernel)) ggX7_isParameter_X7_in
theorem dX7_isParameter_0 : decode cX7_isParameter 0 = .ok (.iload_n 0, 1) := by decide +kernel
theorem dX7_isParameter_1 : decode cX7_isParameter 1 = .ok (.i2l, 1) := by decide +kernel
theorem dX7_isParameter_2 : decode cX7_isParameter 2 = .ok (.lconst 0, 1) := by decide +kernel
theorem dX7_isParameter_3 : decode cX7_isParameter 3 = .ok (.ldc2_w 64, 3) := by decide +kernel
theorem dX7_isParameter_6 : decode cX7_isParameter 6 = .ok (.invokestatic 66, 3) := by decide +kernel
theorem dX7_isParameter_9 : decode cX7_isParameter 9 = .ok (.ireturn, 1) := by decide +kernel
set_option maxRecDepth 20000 in
theorem ggX7_setParameter_X7_isParameter : GoodIn wsX7_setParameter wsX7_isParameter := goodIn_r _ [8, 9, 10, 11, 7, 12] (by decide +kernel) (by decide +kernel)
set_option maxRecDepth 20000 in
theorem gX7_setParameter_X7_isParameter : GoodIn wsX7_setParameter (va_wsS RX7 70 yX7_isParameter wsX7_isParameter) := goodIn_app (goodIn_of _ (by decide +kernel)) ggX7_setParameter_X7_isParameter
set_option maxRecDepth 20000 in
theorem ggX7_setParameter_X7_in : GoodIn wsX7_setParameter wsX7_in := goodIn_r _ [12] (by decide +kernel) (by decide +kernel)
set_option maxRecDepth 20000 in
theorem gX7_setParameter_X7_in : GoodIn wsX7_setParameter (va_wsS RX7 66 yX7_in wsX7_in) := goodIn_app (goodIn_of _ (by decide +kernel)) ggX7_setParameter_X7_in
set_option maxRecDepth 20000 in
theorem ggX7_setParameter_X7_keeps : GoodIn wsX7_setParameter wsX7_keeps := goodIn_r _ [16, 17, 18, 4, 19, 20, 21, 22, 23, 24, 25, 26, 27, 28, 29, 30, 31, 32, 33, 34, 35, 36] (by decide +kernel) (by decide +kernel)
set_option maxRecDepth 20000 in
theorem gX7_setParameter_X7_keeps : GoodIn wsX7_setParameter (wsV RX7 75 RX7 yX7_keeps wsX7_keeps) := goodIn_app (goodIn_of _ (by decide +kernel)) ggX7_setParameter_X7_keeps
theorem dX7_setParameter_0 : decode cX7_setParameter 0 = .ok (.iload_n 1, 1) := by decide +kernel
theorem dX7_setParameter_1 : decode cX7_setParameter 1 = .ok (.invokestatic 70, 3) := by decide +kernel
theorem dX7_setParameter_4 : decode cX7_setParameter 4 = .ok (.ifCond .eq 25, 3) := by decide +kernel
theorem dX7_setParameter_7 : decode cX7_setParameter 7 = .ok (.iload_n 2, 1) := by decide +kernel
theorem dX7_setParameter_8 : decode cX7_setParameter 8 = .ok (.i2l, 1) := by decide +kernel
theorem dX7_setParameter_9 : decode cX7_setParameter 9 = .ok (.aload_n 0, 1) := by decide +kernel
theorem dX7_setParameter_10 : decode cX7_setParameter 10 = .ok (.getfield 29, 3) := by decide +kernel
theorem dX7_setParameter_13 : decode cX7_setParameter 13 = .ok (.iload_n 1, 1) := by decide +kernel
theorem dX7_setParameter_14 : decode cX7_setParameter 14 = .ok (.iaload, 1) := by decide +kernel
theorem dX7_setParameter_15 : decode cX7_setParameter 15 = .ok (.i2l, 1) := by decide +kernel
theorem dX7_setParameter_16 : decode cX7_setParameter 16 = .ok (.aload_n 0, 1) := by decide +kernel
theorem dX7_setParameter_17 : decode cX7_setParameter 17 = .ok (.getfield 32, 3) := by decide +kernel
theorem dX7_setParameter_20 : decode cX7_setParameter 20 = .ok (.iload_n 1, 1) := by decide +kernel
theorem dX7_setParameter_21 : decode cX7_setParameter 21 = .ok (.iaload, 1) := by decide +kernel
theorem dX7_setParameter_22 : decode cX7_setParameter 22 = .ok (.i2l, 1) := by decide +kernel
theorem dX7_setParameter_23 : decode cX7_setParameter 23 = .ok (.invokestatic 66, 3) := by decide +kernel
theorem dX7_setParameter_26 : decode cX7_setParameter 26 = .ok (.ifCond .ne 6, 3) := by decide +kernel
theorem dX7_setParameter_29 : decode cX7_setParameter 29 = .ok (.ldc 74, 2) := by decide +kernel
theorem dX7_setParameter_31 : decode cX7_setParameter 31 = .ok (.ireturn, 1) := by decide +kernel
theorem dX7_setParameter_32 : decode cX7_setParameter 32 = .ok (.aload_n 0, 1) := by decide +kernel
theorem dX7_setParameter_33 : decode cX7_setParameter 33 = .ok (.invokevirtual 75, 3) := by decide +kernel
theorem dX7_setParameter_36 : decode cX7_setParameter 36 = .ok (.aload_n 0, 1) := by decide +kernel
theorem dX7_setParameter_37 : decode cX7_setParameter 37 = .ok (.getfield 19, 3) := by decide +kernel
theorem dX7_setParameter_40 : decode cX7_setParameter 40 = .ok (.iload_n 1, 1) := by decide +kernel
theorem dX7_setParameter_41 : decode cX7_setParameter 41 = .ok (.iaload, 1) := by decide +kernel
theorem dX7_setParameter_42 : decode cX7_setParameter 42 = .ok (.istore_n 3, 1) := by decide +kernel
theorem dX7_setParameter_43 : decode cX7_setParameter 43 = .ok (.aload_n 0, 1) := by decide +kernel
theorem dX7_setParameter_44 : decode cX7_setParameter 44 = .ok (.getfield 19, 3) := by decide +kernel
theorem dX7_setParameter_47 : decode cX7_setParameter 47 = .ok (.iload_n 1, 1) := by decide +kernel
theorem dX7_setParameter_48 : decode cX7_setParameter 48 = .ok (.iload_n 2, 1) := by decide +kernel
theorem dX7_setParameter_49 : decode cX7_setParameter 49 = .ok (.iastore, 1) := by decide +kernel
theorem dX7_setParameter_50 : decode cX7_setParameter 50 = .ok (.iload_n 3, 1) := by decide +kernel
theorem dX7_setParameter_51 : decode cX7_setParameter 51 = .ok (.ireturn, 1) := by decide +kernel
set_option maxRecDepth 20000 in
theorem ggX7_parameter_X7_isParameter : GoodIn wsX7_parameter wsX7_isParameter := goodIn_r _ [6, 7, 8, 9, 5, 10] (by decide +kernel) (by decide +kernel)
set_option maxRecDepth 20000 in
theorem gX7_parameter_X7_isParameter : GoodIn wsX7_parameter (va_wsS RX7 70 yX7_isParameter wsX7_isParameter) := goodIn_app (goodIn_of _ (by decide +kernel)) ggX7_parameter_X7_isParameter
theorem dX7_parameter_0 : decode cX7_parameter 0 = .ok (.iload_n 1, 1) := by decide +kernel
theorem dX7_parameter_1 : decode cX7_parameter 1 = .ok (.invokestatic 70, 3) := by decide +kernel
theorem dX7_parameter_4 : decode cX7_parameter 4 = .ok (.ifCond .eq 12, 3) := by decide +kernel
theorem dX7_parameter_7 : decode cX7_parameter 7 = .ok (.aload_n 0, 1) := by decide +kernel
theorem dX7_parameter_8 : decode cX7_parameter 8 = .ok (.getfield 19, 3) := by decide +kernel
theorem dX7_parameter_11 : decode cX7_parameter 11 = .ok (.iload_n 1, 1) := by decide +kernel
theorem dX7_parameter_12 : decode cX7_parameter 12 = .ok (.iaload, 1) := by decide +kernel
theorem dX7_parameter_13 : decode cX7_parameter 13 = .ok (.goto 5, 3) := by decide +kernel
theorem dX7_parameter_16 : decode cX7_parameter 16 = .ok (.ldc 74, 2) := by decide +kernel
theorem dX7_parameter_18 : decode cX7_parameter 18 = .ok (.ireturn, 1) := by decide +kernel
theorem dX7_longOf_0 : decode cX7_longOf 0 = .ok (.iconst 0, 1) := by decide +kernel
theorem dX7_longOf_1 : decode cX7_longOf 1 = .ok (.istore_n 2, 1) := by decide +kernel
theorem dX7_longOf_2 : decode cX7_longOf 2 = .ok (.iload_n 2, 1) := by decide +kernel
theorem dX7_longOf_3 : decode cX7_longOf 3 = .ok (.bipush 9, 2) := by decide +kernel
theorem dX7_longOf_5 : decode cX7_longOf 5 = .ok (.if_icmp .ge 23, 3) := by decide +kernel
theorem dX7_longOf_8 : decode cX7_longOf 8 = .ok (.aload_n 0, 1) := by decide +kernel
theorem dX7_longOf_9 : decode cX7_longOf 9 = .ok (.getfield 35, 3) := by decide +kernel
theorem dX7_longOf_12 : decode cX7_longOf 12 = .ok (.bipush 9, 2) := by decide +kernel
theorem dX7_longOf_14 : decode cX7_longOf 14 = .ok (.iload_n 1, 1) := by decide +kernel
theorem dX7_longOf_15 : decode cX7_longOf 15 = .ok (.imul, 1) := by decide +kernel
theorem dX7_longOf_16 : decode cX7_longOf 16 = .ok (.iload_n 2, 1) := by decide +kernel
theorem dX7_longOf_17 : decode cX7_longOf 17 = .ok (.iadd, 1) := by decide +kernel
theorem dX7_longOf_18 : decode cX7_longOf 18 = .ok (.iaload, 1) := by decide +kernel
theorem dX7_longOf_19 : decode cX7_longOf 19 = .ok (.ifCond .eq 9, 3) := by decide +kernel
theorem dX7_longOf_22 : decode cX7_longOf 22 = .ok (.iinc 2 1, 3) := by decide +kernel
theorem dX7_longOf_25 : decode cX7_longOf 25 = .ok (.goto (-23), 3) := by decide +kernel
theorem dX7_longOf_28 : decode cX7_longOf 28 = .ok (.iload_n 2, 1) := by decide +kernel
theorem dX7_longOf_29 : decode cX7_longOf 29 = .ok (.ireturn, 1) := by decide +kernel
set_option maxRecDepth 20000 in
theorem ggX7_nameAt_X7_isParameter : GoodIn wsX7_nameAt wsX7_isParameter := goodIn_r _ [7, 8, 9, 10, 6, 11] (by decide +kernel) (by decide +kernel)
set_option maxRecDepth 20000 in
theorem gX7_nameAt_X7_isParameter : GoodIn wsX7_nameAt (va_wsS RX7 70 yX7_isParameter wsX7_isParameter) := goodIn_app (goodIn_of _ (by decide +kernel)) ggX7_nameAt_X7_isParameter
set_option maxRecDepth 20000 in
theorem ggX7_nameAt_X7_longOf : GoodIn wsX7_nameAt wsX7_longOf := goodIn_r _ [15, 2, 16, 17, 18, 19, 20, 21, 22, 23, 24, 25, 26, 27, 28, 29, 30, 31, 32, 33] (by decide +kernel) (by decide +kernel)
set_option maxRecDepth 20000 in
theorem gX7_nameAt_X7_longOf : GoodIn wsX7_nameAt (wsV RX7 78 RX7 yX7_longOf wsX7_longOf) := goodIn_app (goodIn_of _ (by decide +kernel)) ggX7_nameAt_X7_longOf
theorem dX7_nameAt_0 : decode cX7_nameAt 0 = .ok (.iload_n 1, 1) := by decide +kernel
theorem dX7_nameAt_1 : decode cX7_nameAt 1 = .ok (.invokestatic 70, 3) := by decide +kernel
theorem dX7_nameAt_4 : decode cX7_nameAt 4 = .ok (.ifCond .eq 7, 3) := by decide +kernel
theorem dX7_nameAt_7 : decode cX7_nameAt 7 = .ok (.iload_n 2, 1) := by decide +kernel
theorem dX7_nameAt_8 : decode cX7_nameAt 8 = .ok (.ifCond .ge 6, 3) := by decide +kernel
theorem dX7_nameAt_11 : decode cX7_nameAt 11 = .ok (.ldc 74, 2) := by decide +kernel
theorem dX7_nameAt_13 : decode cX7_nameAt 13 = .ok (.ireturn, 1) := by decide +kernel
theorem dX7_nameAt_14 : decode cX7_nameAt 14 = .ok (.iload_n 2, 1) := by decide +kernel
theorem dX7_nameAt_15 : decode cX7_nameAt 15 = .ok (.aload_n 0, 1) := by decide +kernel
theorem dX7_nameAt_16 : decode cX7_nameAt 16 = .ok (.iload_n 1, 1) := by decide +kernel
theorem dX7_nameAt_17 : decode cX7_nameAt 17 = .ok (.invokevirtual 78, 3) := by decide +kernel
theorem dX7_nameAt_20 : decode cX7_nameAt 20 = .ok (.if_icmp .ge 17, 3) := by decide +kernel
theorem dX7_nameAt_23 : decode cX7_nameAt 23 = .ok (.aload_n 0, 1) := by decide +kernel
theorem dX7_nameAt_24 : decode cX7_nameAt 24 = .ok (.getfield 35, 3) := by decide +kernel
theorem dX7_nameAt_27 : decode cX7_nameAt 27 = .ok (.bipush 9, 2) := by decide +kernel
theorem dX7_nameAt_29 : decode cX7_nameAt 29 = .ok (.iload_n 1, 1) := by decide +kernel
theorem dX7_nameAt_30 : decode cX7_nameAt 30 = .ok (.imul, 1) := by decide +kernel
theorem dX7_nameAt_31 : decode cX7_nameAt 31 = .ok (.iload_n 2, 1) := by decide +kernel
theorem dX7_nameAt_32 : decode cX7_nameAt 32 = .ok (.iadd, 1) := by decide +kernel
theorem dX7_nameAt_33 : decode cX7_nameAt 33 = .ok (.iaload, 1) := by decide +kernel
theorem dX7_nameAt_34 : decode cX7_nameAt 34 = .ok (.goto 5, 3) := by decide +kernel
theorem dX7_nameAt_37 : decode cX7_nameAt 37 = .ok (.ldc 82, 2) := by decide +kernel
theorem dX7_nameAt_39 : decode cX7_nameAt 39 = .ok (.ireturn, 1) := by decide +kernel
theorem dX7_undo_0 : decode cX7_undo 0 = .ok (.aload_n 0, 1) := by decide +kernel
theorem dX7_undo_1 : decode cX7_undo 1 = .ok (.getfield 60, 3) := by decide +kernel
theorem dX7_undo_4 : decode cX7_undo 4 = .ok (.ifCond .ne 6, 3) := by decide +kernel
theorem dX7_undo_7 : decode cX7_undo 7 = .ok (.ldc 83, 2) := by decide +kernel
theorem dX7_undo_9 : decode cX7_undo 9 = .ok (.ireturn, 1) := by decide +kernel
theorem dX7_undo_10 : decode cX7_undo 10 = .ok (.aload_n 0, 1) := by decide +kernel
theorem dX7_undo_11 : decode cX7_undo 11 = .ok (.dup, 1) := by decide +kernel
theorem dX7_undo_12 : decode cX7_undo 12 = .ok (.getfield 60, 3) := by decide +kernel
theorem dX7_undo_15 : decode cX7_undo 15 = .ok (.iconst 1, 1) := by decide +kernel
theorem dX7_undo_16 : decode cX7_undo 16 = .ok (.isub, 1) := by decide +kernel
theorem dX7_undo_17 : decode cX7_undo 17 = .ok (.putfield 60, 3) := by decide +kernel
theorem dX7_undo_20 : decode cX7_undo 20 = .ok (.iconst 0, 1) := by decide +kernel
theorem dX7_undo_21 : decode cX7_undo 21 = .ok (.istore_n 1, 1) := by decide +kernel
theorem dX7_undo_22 : decode cX7_undo 22 = .ok (.iload_n 1, 1) := by decide +kernel
theorem dX7_undo_23 : decode cX7_undo 23 = .ok (.bipush 15, 2) := by decide +kernel
theorem dX7_undo_25 : decode cX7_undo 25 = .ok (.if_icmp .ge 29, 3) := by decide +kernel
theorem dX7_undo_28 : decode cX7_undo 28 = .ok (.aload_n 0, 1) := by decide +kernel
theorem dX7_undo_29 : decode cX7_undo 29 = .ok (.getfield 19, 3) := by decide +kernel
theorem dX7_undo_32 : decode cX7_undo 32 = .ok (.iload_n 1, 1) := by decide +kernel
theorem dX7_undo_33 : decode cX7_undo 33 = .ok (.aload_n 0, 1) := by decide +kernel
theorem dX7_undo_34 : decode cX7_undo 34 = .ok (.getfield 26, 3) := by decide +kernel
theorem dX7_undo_37 : decode cX7_undo 37 = .ok (.bipush 15, 2) := by decide +kernel
theorem dX7_undo_39 : decode cX7_undo 39 = .ok (.aload_n 0, 1) := by decide +kernel
theorem dX7_undo_40 : decode cX7_undo 40 = .ok (.getfield 60, 3) := by decide +kernel
theorem dX7_undo_43 : decode cX7_undo 43 = .ok (.imul, 1) := by decide +kernel
theorem dX7_undo_44 : decode cX7_undo 44 = .ok (.iload_n 1, 1) := by decide +kernel
theorem dX7_undo_45 : decode cX7_undo 45 = .ok (.iadd, 1) := by decide +kernel
theorem dX7_undo_46 : decode cX7_undo 46 = .ok (.iaload, 1) := by decide +kernel
theorem dX7_undo_47 : decode cX7_undo 47 = .ok (.iastore, 1) := by decide +kernel
theorem dX7_undo_48 : decode cX7_undo 48 = .ok (.iinc 1 1, 3) := by decide +kernel
theorem dX7_undo_51 : decode cX7_undo 51 = .ok (.goto (-29), 3) := by decide +kernel
theorem dX7_undo_54 : decode cX7_undo 54 = .ok (.aload_n 0, 1) := by decide +kernel
theorem dX7_undo_55 : decode cX7_undo 55 = .ok (.getfield 60, 3) := by decide +kernel
theorem dX7_undo_58 : decode cX7_undo 58 = .ok (.ireturn, 1) := by decide +kernel
set_option maxRecDepth 20000 in
theorem ggX7_setSetpoint_X7_in : GoodIn wsX7_setSetpoint wsX7_in := goodIn_r _ [8] (by decide +kernel) (by decide +kernel)
set_option maxRecDepth 20000 in
theorem gX7_setSetpoint_X7_in : GoodIn wsX7_setSetpoint (va_wsS RX7 66 yX7_in wsX7_in) := goodIn_app (goodIn_of _ (by decide +kernel)) ggX7_setSetpoint_X7_in
theorem dX7_setSetpoint_0 : decode cX7_setSetpoint 0 = .ok (.iload_n 1, 1) := by decide +kernel
theorem dX7_setSetpoint_1 : decode cX7_setSetpoint 1 = .ok (.i2l, 1) := by decide +kernel
theorem dX7_setSetpoint_2 : decode cX7_setSetpoint 2 = .ok (.ldc2_w 84, 3) := by decide +kernel
theorem dX7_setSetpoint_5 : decode cX7_setSetpoint 5 = .ok (.ldc2_w 86, 3) := by decide +kernel
theorem dX7_setSetpoint_8 : decode cX7_setSetpoint 8 = .ok (.invokestatic 66, 3) := by decide +kernel
theorem dX7_setSetpoint_11 : decode cX7_setSetpoint 11 = .ok (.ifCond .ne 6, 3) := by decide +kernel
theorem dX7_setSetpoint_14 : decode cX7_setSetpoint 14 = .ok (.ldc 74, 2) := by decide +kernel
theorem dX7_setSetpoint_16 : decode cX7_setSetpoint 16 = .ok (.ireturn, 1) := by decide +kernel
theorem dX7_setSetpoint_17 : decode cX7_setSetpoint 17 = .ok (.aload_n 0, 1) := by decide +kernel
theorem dX7_setSetpoint_18 : decode cX7_setSetpoint 18 = .ok (.getfield 7, 3) := by decide +kernel
theorem dX7_setSetpoint_21 : decode cX7_setSetpoint 21 = .ok (.sipush 641, 3) := by decide +kernel
theorem dX7_setSetpoint_24 : decode cX7_setSetpoint 24 = .ok (.laload, 1) := by decide +kernel
theorem dX7_setSetpoint_25 : decode cX7_setSetpoint 25 = .ok (.l2i, 1) := by decide +kernel
theorem dX7_setSetpoint_26 : decode cX7_setSetpoint 26 = .ok (.istore_n 2, 1) := by decide +kernel
theorem dX7_setSetpoint_27 : decode cX7_setSetpoint 27 = .ok (.aload_n 0, 1) := by decide +kernel
theorem dX7_setSetpoint_28 : decode cX7_setSetpoint 28 = .ok (.getfield 7, 3) := by decide +kernel
theorem dX7_setSetpoint_31 : decode cX7_setSetpoint 31 = .ok (.sipush 641, 3) := by decide +kernel
theorem dX7_setSetpoint_34 : decode cX7_setSetpoint 34 = .ok (.iload_n 1, 1) := by decide +kernel
theorem dX7_setSetpoint_35 : decode cX7_setSetpoint 35 = .ok (.i2l, 1) := by decide +kernel
theorem dX7_setSetpoint_36 : decode cX7_setSetpoint 36 = .ok (.lastore, 1) := by decide +kernel
theorem dX7_setSetpoint_37 : decode cX7_setSetpoint 37 = .ok (.aload_n 0, 1) := by decide +kernel
theorem dX7_setSetpoint_38 : decode cX7_setSetpoint 38 = .ok (.getfield 7, 3) := by decide +kernel
theorem dX7_setSetpoint_41 : decode cX7_setSetpoint 41 = .ok (.sipush 655, 3) := by decide +kernel
theorem dX7_setSetpoint_44 : decode cX7_setSetpoint 44 = .ok (.iload_n 2, 1) := by decide +kernel
theorem dX7_setSetpoint_45 : decode cX7_setSetpoint 45 = .ok (.i2l, 1) := by decide +kernel
theorem dX7_setSetpoint_46 : decode cX7_setSetpoint 46 = .ok (.lastore, 1) := by decide +kernel
theorem dX7_setSetpoint_47 : decode cX7_setSetpoint 47 = .ok (.aload_n 0, 1) := by decide +kernel
theorem dX7_setSetpoint_48 : decode cX7_setSetpoint 48 = .ok (.getfield 7, 3) := by decide +kernel
theorem dX7_setSetpoint_51 : decode cX7_setSetpoint 51 = .ok (.sipush 656, 3) := by decide +kernel
theorem dX7_setSetpoint_54 : decode cX7_setSetpoint 54 = .ok (.lconst 0, 1) := by decide +kernel
theorem dX7_setSetpoint_55 : decode cX7_setSetpoint 55 = .ok (.lastore, 1) := by decide +kernel
theorem dX7_setSetpoint_56 : decode cX7_setSetpoint 56 = .ok (.aload_n 0, 1) := by decide +kernel
theorem dX7_setSetpoint_57 : decode cX7_setSetpoint 57 = .ok (.getfield 7, 3) := by decide +kernel
theorem dX7_setSetpoint_60 : decode cX7_setSetpoint 60 = .ok (.sipush 657, 3) := by decide +kernel
theorem dX7_setSetpoint_63 : decode cX7_setSetpoint 63 = .ok (.lconst 0, 1) := by decide +kernel
theorem dX7_setSetpoint_64 : decode cX7_setSetpoint 64 = .ok (.lastore, 1) := by decide +kernel
theorem dX7_setSetpoint_65 : decode cX7_setSetpoint 65 = .ok (.aload_n 0, 1) := by decide +kernel
theorem dX7_setSetpoint_66 : decode cX7_setSetpoint 66 = .ok (.getfield 7, 3) := by decide +kernel
theorem dX7_setSetpoint_69 : decode cX7_setSetpoint 69 = .ok (.sipush 658, 3) := by decide +kernel
theorem dX7_setSetpoint_72 : decode cX7_setSetpoint 72 = .ok (.lconst 0, 1) := by decide +kernel
theorem dX7_setSetpoint_73 : decode cX7_setSetpoint 73 = .ok (.lastore, 1) := by decide +kernel
theorem dX7_setSetpoint_74 : decode cX7_setSetpoint 74 = .ok (.aload_n 0, 1) := by decide +kernel
theorem dX7_setSetpoint_75 : decode cX7_setSetpoint 75 = .ok (.getfield 7, 3) := by decide +kernel
theorem dX7_setSetpoint_78 : decode cX7_setSetpoint 78 = .ok (.sipush 659, 3) := by decide +kernel
theorem dX7_setSetpoint_81 : decode cX7_setSetpoint 81 = .ok (.lconst 0, 1) := by decide +kernel
theorem dX7_setSetpoint_82 : decode cX7_setSetpoint 82 = .ok (.lastore, 1) := by decide +kernel
theorem dX7_setSetpoint_83 : decode cX7_setSetpoint 83 = .ok (.iload_n 2, 1) := by decide +kernel
theorem dX7_setSetpoint_84 : decode cX7_setSetpoint 84 = .ok (.ireturn, 1) := by decide +kernel
set_option maxRecDepth 20000 in
theorem ggX7_setLoad_X7_in : GoodIn wsX7_setLoad wsX7_in := goodIn_r _ [8] (by decide +kernel) (by decide +kernel)
set_option maxRecDepth 20000 in
theorem gX7_setLoad_X7_in : GoodIn wsX7_setLoad (va_wsS RX7 66 yX7_in wsX7_in) := goodIn_app (goodIn_of _ (by decide +kernel)) ggX7_setLoad_X7_in
theorem dX7_setLoad_0 : decode cX7_setLoad 0 = .ok (.iload_n 1, 1) := by decide +kernel
theorem dX7_setLoad_1 : decode cX7_setLoad 1 = .ok (.i2l, 1) := by decide +kernel
theorem dX7_setLoad_2 : decode cX7_setLoad 2 = .ok (.ldc2_w 84, 3) := by decide +kernel
theorem dX7_setLoad_5 : decode cX7_setLoad 5 = .ok (.ldc2_w 86, 3) := by decide +kernel
theorem dX7_setLoad_8 : decode cX7_setLoad 8 = .ok (.invokestatic 66, 3) := by decide +kernel
theorem dX7_setLoad_11 : decode cX7_setLoad 11 = .ok (.ifCond .ne 6, 3) := by decide +kernel
theorem dX7_setLoad_14 : decode cX7_setLoad 14 = .ok (.ldc 74, 2) := by decide +kernel
theorem dX7_setLoad_16 : decode cX7_setLoad 16 = .ok (.ireturn, 1) := by decide +kernel
theorem dX7_setLoad_17 : decode cX7_setLoad 17 = .ok (.aload_n 0, 1) := by decide +kernel
theorem dX7_setLoad_18 : decode cX7_setLoad 18 = .ok (.getfield 7, 3) := by decide +kernel
theorem dX7_setLoad_21 : decode cX7_setLoad 21 = .ok (.sipush 642, 3) := by decide +kernel
theorem dX7_setLoad_24 : decode cX7_setLoad 24 = .ok (.laload, 1) := by decide +kernel
theorem dX7_setLoad_25 : decode cX7_setLoad 25 = .ok (.l2i, 1) := by decide +kernel
theorem dX7_setLoad_26 : decode cX7_setLoad 26 = .ok (.istore_n 2, 1) := by decide +kernel
theorem dX7_setLoad_27 : decode cX7_setLoad 27 = .ok (.aload_n 0, 1) := by decide +kernel
theorem dX7_setLoad_28 : decode cX7_setLoad 28 = .ok (.getfield 7, 3) := by decide +kernel
theorem dX7_setLoad_31 : decode cX7_setLoad 31 = .ok (.sipush 642, 3) := by decide +kernel
theorem dX7_setLoad_34 : decode cX7_setLoad 34 = .ok (.iload_n 1, 1) := by decide +kernel
theorem dX7_setLoad_35 : decode cX7_setLoad 35 = .ok (.i2l, 1) := by decide +kernel
theorem dX7_setLoad_36 : decode cX7_setLoad 36 = .ok (.lastore, 1) := by decide +kernel
theorem dX7_setLoad_37 : decode cX7_setLoad 37 = .ok (.iload_n 2, 1) := by decide +kernel
theorem dX7_setLoad_38 : decode cX7_setLoad 38 = .ok (.ireturn, 1) := by decide +kernel
set_option maxRecDepth 20000 in
theorem ggX7_setSeed_X7_in : GoodIn wsX7_setSeed wsX7_in := goodIn_r _ [7] (by decide +kernel) (by decide +kernel)
set_option maxRecDepth 20000 in
theorem gX7_setSeed_X7_in : GoodIn wsX7_setSeed (va_wsS RX7 66 yX7_in wsX7_in) := goodIn_app (goodIn_of _ (by decide +kernel)) ggX7_setSeed_X7_in
theorem dX7_setSeed_0 : decode cX7_setSeed 0 = .ok (.iload_n 1, 1) := by decide +kernel
theorem dX7_setSeed_1 : decode cX7_setSeed 1 = .ok (.i2l, 1) := by decide +kernel
theorem dX7_setSeed_2 : decode cX7_setSeed 2 = .ok (.lconst 0, 1) := by decide +kernel
theorem dX7_setSeed_3 : decode cX7_setSeed 3 = .ok (.ldc2_w 88, 3) := by decide +kernel
theorem dX7_setSeed_6 : decode cX7_setSeed 6 = .ok (.invokestatic 66, 3) := by decide +kernel
theorem dX7_setSeed_9 : decode cX7_setSeed 9 = .ok (.ifCond .ne 6, 3) := by decide +kernel
theorem dX7_setSeed_12 : decode cX7_setSeed 12 = .ok (.ldc 74, 2) := by decide +kernel
theorem dX7_setSeed_14 : decode cX7_setSeed 14 = .ok (.ireturn, 1) := by decide +kernel
theorem dX7_setSeed_15 : decode cX7_setSeed 15 = .ok (.aload_n 0, 1) := by decide +kernel
theorem dX7_setSeed_16 : decode cX7_setSeed 16 = .ok (.getfield 7, 3) := by decide +kernel
theorem dX7_setSeed_19 : decode cX7_setSeed 19 = .ok (.sipush 643, 3) := by decide +kernel
theorem dX7_setSeed_22 : decode cX7_setSeed 22 = .ok (.laload, 1) := by decide +kernel
theorem dX7_setSeed_23 : decode cX7_setSeed 23 = .ok (.l2i, 1) := by decide +kernel
theorem dX7_setSeed_24 : decode cX7_setSeed 24 = .ok (.istore_n 2, 1) := by decide +kernel
theorem dX7_setSeed_25 : decode cX7_setSeed 25 = .ok (.aload_n 0, 1) := by decide +kernel
theorem dX7_setSeed_26 : decode cX7_setSeed 26 = .ok (.getfield 7, 3) := by decide +kernel
theorem dX7_setSeed_29 : decode cX7_setSeed 29 = .ok (.sipush 643, 3) := by decide +kernel
theorem dX7_setSeed_32 : decode cX7_setSeed 32 = .ok (.iload_n 1, 1) := by decide +kernel
theorem dX7_setSeed_33 : decode cX7_setSeed 33 = .ok (.i2l, 1) := by decide +kernel
theorem dX7_setSeed_34 : decode cX7_setSeed 34 = .ok (.lastore, 1) := by decide +kernel
theorem dX7_setSeed_35 : decode cX7_setSeed 35 = .ok (.iload_n 2, 1) := by decide +kernel
theorem dX7_setSeed_36 : decode cX7_setSeed 36 = .ok (.ireturn, 1) := by decide +kernel
set_option maxRecDepth 20000 in
theorem ggX7_type_X7_in : GoodIn wsX7_type wsX7_in := goodIn_r _ [10] (by decide +kernel) (by decide +kernel)
set_option maxRecDepth 20000 in
theorem gX7_type_X7_in : GoodIn wsX7_type (va_wsS RX7 66 yX7_in wsX7_in) := goodIn_app (goodIn_of _ (by decide +kernel)) ggX7_type_X7_in
theorem dX7_type_0 : decode cX7_type 0 = .ok (.iload_n 1, 1) := by decide +kernel
theorem dX7_type_1 : decode cX7_type 1 = .ok (.i2l, 1) := by decide +kernel
theorem dX7_type_2 : decode cX7_type 2 = .ok (.ldc2_w 90, 3) := by decide +kernel
theorem dX7_type_5 : decode cX7_type 5 = .ok (.ldc2_w 92, 3) := by decide +kernel
theorem dX7_type_8 : decode cX7_type 8 = .ok (.invokestatic 66, 3) := by decide +kernel
theorem dX7_type_11 : decode cX7_type 11 = .ok (.ifCond .ne 6, 3) := by decide +kernel
theorem dX7_type_14 : decode cX7_type 14 = .ok (.ldc 74, 2) := by decide +kernel
theorem dX7_type_16 : decode cX7_type 16 = .ok (.ireturn, 1) := by decide +kernel
theorem dX7_type_17 : decode cX7_type 17 = .ok (.aload_n 0, 1) := by decide +kernel
theorem dX7_type_18 : decode cX7_type 18 = .ok (.getfield 94, 3) := by decide +kernel
theorem dX7_type_21 : decode cX7_type 21 = .ok (.bipush 80, 2) := by decide +kernel
theorem dX7_type_23 : decode cX7_type 23 = .ok (.if_icmp .ne 6, 3) := by decide +kernel
theorem dX7_type_26 : decode cX7_type 26 = .ok (.ldc 97, 2) := by decide +kernel
theorem dX7_type_28 : decode cX7_type 28 = .ok (.ireturn, 1) := by decide +kernel
theorem dX7_type_29 : decode cX7_type 29 = .ok (.aload_n 0, 1) := by decide +kernel
theorem dX7_type_30 : decode cX7_type 30 = .ok (.getfield 38, 3) := by decide +kernel
theorem dX7_type_33 : decode cX7_type 33 = .ok (.aload_n 0, 1) := by decide +kernel
theorem dX7_type_34 : decode cX7_type 34 = .ok (.getfield 94, 3) := by decide +kernel
theorem dX7_type_37 : decode cX7_type 37 = .ok (.iload_n 1, 1) := by decide +kernel
theorem dX7_type_38 : decode cX7_type 38 = .ok (.iastore, 1) := by decide +kernel
theorem dX7_type_39 : decode cX7_type 39 = .ok (.aload_n 0, 1) := by decide +kernel
theorem dX7_type_40 : decode cX7_type 40 = .ok (.dup, 1) := by decide +kernel
theorem dX7_type_41 : decode cX7_type 41 = .ok (.getfield 94, 3) := by decide +kernel
theorem dX7_type_44 : decode cX7_type 44 = .ok (.iconst 1, 1) := by decide +kernel
theorem dX7_type_45 : decode cX7_type 45 = .ok (.iadd, 1) := by decide +kernel
theorem dX7_type_46 : decode cX7_type 46 = .ok (.putfield 94, 3) := by decide +kernel
theorem dX7_type_49 : decode cX7_type 49 = .ok (.aload_n 0, 1) := by decide +kernel
theorem dX7_type_50 : decode cX7_type 50 = .ok (.getfield 94, 3) := by decide +kernel
theorem dX7_type_53 : decode cX7_type 53 = .ok (.ireturn, 1) := by decide +kernel
theorem dX7_clearText_0 : decode cX7_clearText 0 = .ok (.aload_n 0, 1) := by decide +kernel
theorem dX7_clearText_1 : decode cX7_clearText 1 = .ok (.getfield 94, 3) := by decide +kernel
theorem dX7_clearText_4 : decode cX7_clearText 4 = .ok (.istore_n 1, 1) := by decide +kernel
theorem dX7_clearText_5 : decode cX7_clearText 5 = .ok (.aload_n 0, 1) := by decide +kernel
theorem dX7_clearText_6 : decode cX7_clearText 6 = .ok (.iconst 0, 1) := by decide +kernel
theorem dX7_clearText_7 : decode cX7_clearText 7 = .ok (.putfield 94, 3) := by decide +kernel
theorem dX7_clearText_10 : decode cX7_clearText 10 = .ok (.iload_n 1, 1) := by decide +kernel
theorem dX7_clearText_11 : decode cX7_clearText 11 = .ok (.ireturn, 1) := by decide +kernel
theorem dX7_charAt_0 : decode cX7_charAt 0 = .ok (.iload_n 1, 1) := by decide +kernel
theorem dX7_charAt_1 : decode cX7_charAt 1 = .ok (.aload_n 0, 1) := by decide +kernel
theorem dX7_charAt_2 : decode cX7_charAt 2 = .ok (.getfield 94, 3) := by decide +kernel
theorem dX7_charAt_5 : decode cX7_charAt 5 = .ok (.if_icmp .ge 12, 3) := by decide +kernel
theorem dX7_charAt_8 : decode cX7_charAt 8 = .ok (.aload_n 0, 1) := by decide +kernel
theorem dX7_charAt_9 : decode cX7_charAt 9 = .ok (.getfield 38, 3) := by decide +kernel
theorem dX7_charAt_12 : decode cX7_charAt 12 = .ok (.iload_n 1, 1) := by decide +kernel
theorem dX7_charAt_13 : decode cX7_charAt 13 = .ok (.iaload, 1) := by decide +kernel
theorem dX7_charAt_14 : decode cX7_charAt 14 = .ok (.goto 4, 3) := by decide +kernel
theorem dX7_charAt_17 : decode cX7_charAt 17 = .ok (.iconst 0, 1) := by decide +kernel
theorem dX7_charAt_18 : decode cX7_charAt 18 = .ok (.ireturn, 1) := by decide +kernel
set_option maxRecDepth 20000 in
theorem ggX7_named_X7_longOf : GoodIn wsX7_named wsX7_longOf := goodIn_r _ [8, 2, 15, 16, 17, 18, 19, 20, 21, 22, 23, 24, 25, 26, 27, 28, 29, 30, 31, 32] (by decide +kernel) (by decide +kernel)
set_option maxRecDepth 20000 in
theorem gX7_named_X7_longOf : GoodIn wsX7_named (wsV RX7 78 RX7 yX7_longOf wsX7_longOf) := goodIn_app (goodIn_of _ (by decide +kernel)) ggX7_named_X7_longOf
set_option maxRecDepth 20000 in
theorem ggX7_named_X7_charAt : GoodIn wsX7_named wsX7_charAt := goodIn_r _ [12, 13, 14, 15, 16, 17, 18, 19, 20, 21, 22, 23, 24, 25, 26, 27, 28, 29, 30, 31, 32] (by decide +kernel) (by decide +kernel)
set_option maxRecDepth 20000 in
theorem gX7_named_X7_charAt : GoodIn wsX7_named (wsV RX7 101 RX7 yX7_charAt wsX7_charAt) := goodIn_app (goodIn_of _ (by decide +kernel)) ggX7_named_X7_charAt
theorem dX7_named_0 : decode cX7_named 0 = .ok (.iconst 0, 1) := by decide +kernel
theorem dX7_named_1 : decode cX7_named 1 = .ok (.istore_n 1, 1) := by decide +kernel
theorem dX7_named_2 : decode cX7_named 2 = .ok (.iload_n 1, 1) := by decide +kernel
theorem dX7_named_3 : decode cX7_named 3 = .ok (.bipush 15, 2) := by decide +kernel
theorem dX7_named_5 : decode cX7_named 5 = .ok (.if_icmp .ge 105, 3) := by decide +kernel
theorem dX7_named_8 : decode cX7_named 8 = .ok (.aload_n 0, 1) := by decide +kernel
theorem dX7_named_9 : decode cX7_named 9 = .ok (.iload_n 1, 1) := by decide +kernel
theorem dX7_named_10 : decode cX7_named 10 = .ok (.invokevirtual 78, 3) := by decide +kernel
theorem dX7_named_13 : decode cX7_named 13 = .ok (.istore_n 2, 1) := by decide +kernel
theorem dX7_named_14 : decode cX7_named 14 = .ok (.aload_n 0, 1) := by decide +kernel
theorem dX7_named_15 : decode cX7_named 15 = .ok (.aload_n 0, 1) := by decide +kernel
theorem dX7_named_16 : decode cX7_named 16 = .ok (.getfield 98, 3) := by decide +kernel
theorem dX7_named_19 : decode cX7_named 19 = .ok (.iload_n 2, 1) := by decide +kernel
theorem dX7_named_20 : decode cX7_named 20 = .ok (.iadd, 1) := by decide +kernel
theorem dX7_named_21 : decode cX7_named 21 = .ok (.invokevirtual 101, 3) := by decide +kernel
theorem dX7_named_24 : decode cX7_named 24 = .ok (.bipush 61, 2) := by decide +kernel
theorem dX7_named_26 : decode cX7_named 26 = .ok (.if_icmp .ne 7, 3) := by decide +kernel
theorem dX7_named_29 : decode cX7_named 29 = .ok (.iconst 1, 1) := by decide +kernel
theorem dX7_named_30 : decode cX7_named 30 = .ok (.goto 4, 3) := by decide +kernel
theorem dX7_named_33 : decode cX7_named 33 = .ok (.iconst 0, 1) := by decide +kernel
theorem dX7_named_34 : decode cX7_named 34 = .ok (.istore_n 3, 1) := by decide +kernel
theorem dX7_named_35 : decode cX7_named 35 = .ok (.iconst 0, 1) := by decide +kernel
theorem dX7_named_36 : decode cX7_named 36 = .ok (.istore 4, 2) := by decide +kernel
theorem dX7_named_38 : decode cX7_named 38 = .ok (.iload 4, 2) := by decide +kernel
theorem dX7_named_40 : decode cX7_named 40 = .ok (.iload_n 2, 1) := by decide +kernel
theorem dX7_named_41 : decode cX7_named 41 = .ok (.if_icmp .ge 45, 3) := by decide +kernel
theorem dX7_named_44 : decode cX7_named 44 = .ok (.iload_n 3, 1) := by decide +kernel
theorem dX7_named_45 : decode cX7_named 45 = .ok (.ifCond .eq 33, 3) := by decide +kernel
theorem dX7_named_48 : decode cX7_named 48 = .ok (.aload_n 0, 1) := by decide +kernel
theorem dX7_named_49 : decode cX7_named 49 = .ok (.aload_n 0, 1) := by decide +kernel
theorem dX7_named_50 : decode cX7_named 50 = .ok (.getfield 98, 3) := by decide +kernel
theorem dX7_named_53 : decode cX7_named 53 = .ok (.iload 4, 2) := by decide +kernel
theorem dX7_named_55 : decode cX7_named 55 = .ok (.iadd, 1) := by decide +kernel
theorem dX7_named_56 : decode cX7_named 56 = .ok (.invokevirtual 101, 3) := by decide +kernel
theorem dX7_named_59 : decode cX7_named 59 = .ok (.aload_n 0, 1) := by decide +kernel
theorem dX7_named_60 : decode cX7_named 60 = .ok (.getfield 35, 3) := by decide +kernel
theorem dX7_named_63 : decode cX7_named 63 = .ok (.bipush 9, 2) := by decide +kernel
theorem dX7_named_65 : decode cX7_named 65 = .ok (.iload_n 1, 1) := by decide +kernel
theorem dX7_named_66 : decode cX7_named 66 = .ok (.imul, 1) := by decide +kernel
theorem dX7_named_67 : decode cX7_named 67 = .ok (.iload 4, 2) := by decide +kernel
theorem dX7_named_69 : decode cX7_named 69 = .ok (.iadd, 1) := by decide +kernel
theorem dX7_named_70 : decode cX7_named 70 = .ok (.iaload, 1) := by decide +kernel
theorem dX7_named_71 : decode cX7_named 71 = .ok (.if_icmp .ne 7, 3) := by decide +kernel
theorem dX7_named_74 : decode cX7_named 74 = .ok (.iconst 1, 1) := by decide +kernel
theorem dX7_named_75 : decode cX7_named 75 = .ok (.goto 4, 3) := by decide +kernel
theorem dX7_named_78 : decode cX7_named 78 = .ok (.iconst 0, 1) := by decide +kernel
theorem dX7_named_79 : decode cX7_named 79 = .ok (.istore_n 3, 1) := by decide +kernel
theorem dX7_named_80 : decode cX7_named 80 = .ok (.iinc 4 1, 3) := by decide +kernel
theorem dX7_named_83 : decode cX7_named 83 = .ok (.goto (-45), 3) := by decide +kernel
theorem dX7_named_86 : decode cX7_named 86 = .ok (.iload_n 3, 1) := by decide +kernel
theorem dX7_named_87 : decode cX7_named 87 = .ok (.ifCond .eq 17, 3) := by decide +kernel
theorem dX7_named_90 : decode cX7_named 90 = .ok (.aload_n 0, 1) := by decide +kernel
theorem dX7_named_91 : decode cX7_named 91 = .ok (.dup, 1) := by decide +kernel
theorem dX7_named_92 : decode cX7_named 92 = .ok (.getfield 98, 3) := by decide +kernel
theorem dX7_named_95 : decode cX7_named 95 = .ok (.iload_n 2, 1) := by decide +kernel
theorem dX7_named_96 : decode cX7_named 96 = .ok (.iconst 1, 1) := by decide +kernel
theorem dX7_named_97 : decode cX7_named 97 = .ok (.iadd, 1) := by decide +kernel
theorem dX7_named_98 : decode cX7_named 98 = .ok (.iadd, 1) := by decide +kernel
theorem dX7_named_99 : decode cX7_named 99 = .ok (.putfield 98, 3) := by decide +kernel
theorem dX7_named_102 : decode cX7_named 102 = .ok (.iload_n 1, 1) := by decide +kernel
theorem dX7_named_103 : decode cX7_named 103 = .ok (.ireturn, 1) := by decide +kernel
theorem dX7_named_104 : decode cX7_named 104 = .ok (.iinc 1 1, 3) := by decide +kernel
theorem dX7_named_107 : decode cX7_named 107 = .ok (.goto (-105), 3) := by decide +kernel
theorem dX7_named_110 : decode cX7_named 110 = .ok (.ldc 82, 2) := by decide +kernel
theorem dX7_named_112 : decode cX7_named 112 = .ok (.ireturn, 1) := by decide +kernel
set_option maxRecDepth 20000 in
theorem ggX7_isAssignment_X7_named : GoodIn wsX7_isAssignment wsX7_named := goodIn_r _ [13, 2, 14, 15, 16, 17, 18, 12, 19, 20, 21, 22, 23, 24, 25, 29, 30, 31, 32, 33, 34, 35, 36, 37, 38, 39, 40, 41, 42, 43, 44, 45, 46] (by decide +kernel) (by decide +kernel)
set_option maxRecDepth 20000 in
theorem gX7_isAssignment_X7_named : GoodIn wsX7_isAssignment (wsV RX7 104 RX7 yX7_named wsX7_named) := goodIn_app (goodIn_of _ (by decide +kernel)) ggX7_isAssignment_X7_named
set_option maxRecDepth 20000 in
theorem ggX7_isAssignment_X7_charAt : GoodIn wsX7_isAssignment wsX7_charAt := goodIn_r _ [23, 24, 25, 29, 30, 31, 32, 33, 34, 35, 36, 37, 38, 39, 40, 41, 42, 43, 44, 45, 46] (by decide +kernel) (by decide +kernel)
set_option maxRecDepth 20000 in
theorem gX7_isAssignment_X7_charAt : GoodIn wsX7_isAssignment (wsV RX7 101 RX7 yX7_charAt wsX7_charAt) := goodIn_app (goodIn_of _ (by decide +kernel)) ggX7_isAssignment_X7_charAt
set_option maxRecDepth 20000 in
theorem ggX7_isAssignment_X7_in : GoodIn wsX7_isAssignment wsX7_in := goodIn_r _ [28] (by decide +kernel) (by decide +kernel)

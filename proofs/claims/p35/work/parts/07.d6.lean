set_option maxRecDepth 20000 in
theorem ggX6_init_X3_init : GoodIn wsX6_init wsX3_init := goodIn_r _ [29, 30, 2, 3, 31, 32, 33, 34, 35, 36, 91] (by decide +kernel) (by decide +kernel)
set_option maxRecDepth 20000 in
theorem gX6_init_X3_init : GoodIn wsX6_init (wsX3_init) := ggX6_init_X3_init
set_option maxRecDepth 20000 in
theorem ggX6_init_X0_init : GoodIn wsX6_init wsX0_init := goodIn_r _ [39, 40, 2, 3, 41, 31, 42, 43, 103, 104] (by decide +kernel) (by decide +kernel)
set_option maxRecDepth 20000 in
theorem gX6_init_X0_init : GoodIn wsX6_init (wsX0_init) := ggX6_init_X0_init
set_option maxRecDepth 20000 in
theorem ggX6_init_X4_init : GoodIn wsX6_init wsX4_init := goodIn_r _ [46, 47, 2, 3, 48, 49, 31, 50, 51, 52, 53, 105, 106, 107, 108, 109] (by decide +kernel) (by decide +kernel)
set_option maxRecDepth 20000 in
theorem gX6_init_X4_init : GoodIn wsX6_init (wsX4_init) := ggX6_init_X4_init
set_option maxRecDepth 20000 in
theorem ggX6_init_X1_init : GoodIn wsX6_init wsX1_init := goodIn_r _ [56, 57, 2, 3, 58, 59, 60, 61, 62, 31, 63, 64, 65, 66, 67, 68, 69, 70, 71, 72, 73, 74, 75, 76, 77, 78, 79, 80, 81, 82, 83, 84, 85, 86, 87, 88, 89, 90, 110, 111, 112, 113, 114, 115, 116, 117, 118, 119, 120, 121, 122, 123, 124, 125, 126, 127, 128] (by decide +kernel) (by decide +kernel)
set_option maxRecDepth 20000 in
theorem gX6_init_X1_init : GoodIn wsX6_init (wsX1_init) := ggX6_init_X1_init
theorem dX6_init_0 : decode cX6_init 0 = .ok (.aload_n 0, 1) := by decide +kernel
theorem dX6_init_1 : decode cX6_init 1 = .ok (.invokespecial 3, 3) := by decide +kernel
theorem dX6_init_4 : decode cX6_init 4 = .ok (.aload_n 0, 1) := by decide +kernel
theorem dX6_init_5 : decode cX6_init 5 = .ok (.new 9, 3) := by decide +kernel
theorem dX6_init_8 : decode cX6_init 8 = .ok (.dup, 1) := by decide +kernel
theorem dX6_init_9 : decode cX6_init 9 = .ok (.invokespecial 11, 3) := by decide +kernel
theorem dX6_init_12 : decode cX6_init 12 = .ok (.putfield 12, 3) := by decide +kernel
theorem dX6_init_15 : decode cX6_init 15 = .ok (.aload_n 0, 1) := by decide +kernel
theorem dX6_init_16 : decode cX6_init 16 = .ok (.new 16, 3) := by decide +kernel
theorem dX6_init_19 : decode cX6_init 19 = .ok (.dup, 1) := by decide +kernel
theorem dX6_init_20 : decode cX6_init 20 = .ok (.invokespecial 18, 3) := by decide +kernel
theorem dX6_init_23 : decode cX6_init 23 = .ok (.putfield 19, 3) := by decide +kernel
theorem dX6_init_26 : decode cX6_init 26 = .ok (.aload_n 0, 1) := by decide +kernel
theorem dX6_init_27 : decode cX6_init 27 = .ok (.new 23, 3) := by decide +kernel
theorem dX6_init_30 : decode cX6_init 30 = .ok (.dup, 1) := by decide +kernel
theorem dX6_init_31 : decode cX6_init 31 = .ok (.invokespecial 25, 3) := by decide +kernel
theorem dX6_init_34 : decode cX6_init 34 = .ok (.putfield 26, 3) := by decide +kernel
theorem dX6_init_37 : decode cX6_init 37 = .ok (.aload_n 0, 1) := by decide +kernel
theorem dX6_init_38 : decode cX6_init 38 = .ok (.new 30, 3) := by decide +kernel
theorem dX6_init_41 : decode cX6_init 41 = .ok (.dup, 1) := by decide +kernel
theorem dX6_init_42 : decode cX6_init 42 = .ok (.invokespecial 32, 3) := by decide +kernel
theorem dX6_init_45 : decode cX6_init 45 = .ok (.putfield 33, 3) := by decide +kernel
theorem dX6_init_48 : decode cX6_init 48 = .ok (.aload_n 0, 1) := by decide +kernel
theorem dX6_init_49 : decode cX6_init 49 = .ok (.new 30, 3) := by decide +kernel
theorem dX6_init_52 : decode cX6_init 52 = .ok (.dup, 1) := by decide +kernel
theorem dX6_init_53 : decode cX6_init 53 = .ok (.invokespecial 32, 3) := by decide +kernel
theorem dX6_init_56 : decode cX6_init 56 = .ok (.putfield 37, 3) := by decide +kernel
theorem dX6_init_59 : decode cX6_init 59 = .ok (.aload_n 0, 1) := by decide +kernel
theorem dX6_init_60 : decode cX6_init 60 = .ok (.new 30, 3) := by decide +kernel
theorem dX6_init_63 : decode cX6_init 63 = .ok (.dup, 1) := by decide +kernel
theorem dX6_init_64 : decode cX6_init 64 = .ok (.invokespecial 32, 3) := by decide +kernel
theorem dX6_init_67 : decode cX6_init 67 = .ok (.putfield 40, 3) := by decide +kernel
theorem dX6_init_70 : decode cX6_init 70 = .ok (.aload_n 0, 1) := by decide +kernel
theorem dX6_init_71 : decode cX6_init 71 = .ok (.iconst 0, 1) := by decide +kernel
theorem dX6_init_72 : decode cX6_init 72 = .ok (.putfield 43, 3) := by decide +kernel
theorem dX6_init_75 : decode cX6_init 75 = .ok (.aload_n 0, 1) := by decide +kernel
theorem dX6_init_76 : decode cX6_init 76 = .ok (.new 9, 3) := by decide +kernel
theorem dX6_init_79 : decode cX6_init 79 = .ok (.dup, 1) := by decide +kernel
theorem dX6_init_80 : decode cX6_init 80 = .ok (.invokespecial 11, 3) := by decide +kernel
theorem dX6_init_83 : decode cX6_init 83 = .ok (.putfield 47, 3) := by decide +kernel
theorem dX6_init_86 : decode cX6_init 86 = .ok (.aload_n 0, 1) := by decide +kernel
theorem dX6_init_87 : decode cX6_init 87 = .ok (.new 9, 3) := by decide +kernel
theorem dX6_init_90 : decode cX6_init 90 = .ok (.dup, 1) := by decide +kernel
theorem dX6_init_91 : decode cX6_init 91 = .ok (.invokespecial 11, 3) := by decide +kernel
theorem dX6_init_94 : decode cX6_init 94 = .ok (.putfield 50, 3) := by decide +kernel
theorem dX6_init_97 : decode cX6_init 97 = .ok (.aload_n 0, 1) := by decide +kernel
theorem dX6_init_98 : decode cX6_init 98 = .ok (.new 30, 3) := by decide +kernel
theorem dX6_init_101 : decode cX6_init 101 = .ok (.dup, 1) := by decide +kernel
theorem dX6_init_102 : decode cX6_init 102 = .ok (.invokespecial 32, 3) := by decide +kernel
theorem dX6_init_105 : decode cX6_init 105 = .ok (.putfield 53, 3) := by decide +kernel
theorem dX6_init_108 : decode cX6_init 108 = .ok (.aload_n 0, 1) := by decide +kernel
theorem dX6_init_109 : decode cX6_init 109 = .ok (.new 30, 3) := by decide +kernel
theorem dX6_init_112 : decode cX6_init 112 = .ok (.dup, 1) := by decide +kernel
theorem dX6_init_113 : decode cX6_init 113 = .ok (.invokespecial 32, 3) := by decide +kernel
theorem dX6_init_116 : decode cX6_init 116 = .ok (.putfield 56, 3) := by decide +kernel
theorem dX6_init_119 : decode cX6_init 119 = .ok (.return_, 1) := by decide +kernel
set_option maxRecDepth 20000 in
theorem ggX6_setParameter_X6_allows : GoodIn wsX6_setParameter wsX6_allows := goodIn_r _ [7, 8, 9, 10, 11, 6, 12] (by decide +kernel) (by decide +kernel)
set_option maxRecDepth 20000 in
theorem gX6_setParameter_X6_allows : GoodIn wsX6_setParameter (va_wsS RX6 59 yX6_allows wsX6_allows) := goodIn_app (goodIn_of _ (by decide +kernel)) ggX6_setParameter_X6_allows
set_option maxRecDepth 20000 in
theorem ggX6_setParameter_X3_get : GoodIn wsX6_setParameter wsX3_get := goodIn_r _ [17, 18, 11, 6, 12, 49] (by decide +kernel) (by decide +kernel)
set_option maxRecDepth 20000 in
theorem gX6_setParameter_X3_get : GoodIn wsX6_setParameter (wsV RX6 64 RX3 yX3_get wsX3_get) := goodIn_app (goodIn_of _ (by decide +kernel)) ggX6_setParameter_X3_get
set_option maxRecDepth 20000 in
theorem ggX6_setParameter_X0_keep : GoodIn wsX6_setParameter wsX0_keep := goodIn_r _ [23, 24, 25, 26, 27, 28, 29, 30, 31, 32, 22, 33, 50, 51, 49] (by decide +kernel) (by decide +kernel)
set_option maxRecDepth 20000 in
theorem gX6_setParameter_X0_keep : GoodIn wsX6_setParameter (wsV RX6 68 RX0 yX0_keep wsX0_keep) := goodIn_app (goodIn_of _ (by decide +kernel)) ggX6_setParameter_X0_keep
set_option maxRecDepth 20000 in
theorem ggX6_setParameter_X3_set : GoodIn wsX6_setParameter wsX3_set := goodIn_r _ [37, 18, 11, 6, 12, 49] (by decide +kernel) (by decide +kernel)
set_option maxRecDepth 20000 in
theorem gX6_setParameter_X3_set : GoodIn wsX6_setParameter (wsV RX6 72 RX3 yX3_set wsX3_set) := goodIn_app (goodIn_of _ (by decide +kernel)) ggX6_setParameter_X3_set
theorem dX6_setParameter_0 : decode cX6_setParameter 0 = .ok (.iload_n 1, 1) := by decide +kernel
theorem dX6_setParameter_1 : decode cX6_setParameter 1 = .ok (.iload_n 2, 1) := by decide +kernel
theorem dX6_setParameter_2 : decode cX6_setParameter 2 = .ok (.invokestatic 59, 3) := by decide +kernel
theorem dX6_setParameter_5 : decode cX6_setParameter 5 = .ok (.ifCond .ne 6, 3) := by decide +kernel
theorem dX6_setParameter_8 : decode cX6_setParameter 8 = .ok (.ldc 63, 2) := by decide +kernel
theorem dX6_setParameter_10 : decode cX6_setParameter 10 = .ok (.ireturn, 1) := by decide +kernel
theorem dX6_setParameter_11 : decode cX6_setParameter 11 = .ok (.aload_n 0, 1) := by decide +kernel
theorem dX6_setParameter_12 : decode cX6_setParameter 12 = .ok (.getfield 12, 3) := by decide +kernel
theorem dX6_setParameter_15 : decode cX6_setParameter 15 = .ok (.iload_n 1, 1) := by decide +kernel
theorem dX6_setParameter_16 : decode cX6_setParameter 16 = .ok (.invokevirtual 64, 3) := by decide +kernel
theorem dX6_setParameter_19 : decode cX6_setParameter 19 = .ok (.istore_n 3, 1) := by decide +kernel
theorem dX6_setParameter_20 : decode cX6_setParameter 20 = .ok (.aload_n 0, 1) := by decide +kernel
theorem dX6_setParameter_21 : decode cX6_setParameter 21 = .ok (.getfield 19, 3) := by decide +kernel
theorem dX6_setParameter_24 : decode cX6_setParameter 24 = .ok (.aload_n 0, 1) := by decide +kernel
theorem dX6_setParameter_25 : decode cX6_setParameter 25 = .ok (.getfield 12, 3) := by decide +kernel
theorem dX6_setParameter_28 : decode cX6_setParameter 28 = .ok (.invokevirtual 68, 3) := by decide +kernel
theorem dX6_setParameter_31 : decode cX6_setParameter 31 = .ok (.aload_n 0, 1) := by decide +kernel
theorem dX6_setParameter_32 : decode cX6_setParameter 32 = .ok (.getfield 12, 3) := by decide +kernel
theorem dX6_setParameter_35 : decode cX6_setParameter 35 = .ok (.iload_n 1, 1) := by decide +kernel
theorem dX6_setParameter_36 : decode cX6_setParameter 36 = .ok (.iload_n 2, 1) := by decide +kernel
theorem dX6_setParameter_37 : decode cX6_setParameter 37 = .ok (.invokevirtual 72, 3) := by decide +kernel
theorem dX6_setParameter_40 : decode cX6_setParameter 40 = .ok (.iload_n 3, 1) := by decide +kernel
theorem dX6_setParameter_41 : decode cX6_setParameter 41 = .ok (.ireturn, 1) := by decide +kernel
set_option maxRecDepth 20000 in
theorem ggX6_undo_X0_takeBack : GoodIn wsX6_undo wsX0_takeBack := goodIn_r _ [9, 10, 11, 12, 13, 14, 15, 27, 28, 29] (by decide +kernel) (by decide +kernel)
set_option maxRecDepth 20000 in
theorem gX6_undo_X0_takeBack : GoodIn wsX6_undo (wsV RX6 99 RX0 yX0_takeBack wsX0_takeBack) := goodIn_app (goodIn_of _ (by decide +kernel)) ggX6_undo_X0_takeBack
theorem dX6_undo_0 : decode cX6_undo 0 = .ok (.aload_n 0, 1) := by decide +kernel
theorem dX6_undo_1 : decode cX6_undo 1 = .ok (.getfield 19, 3) := by decide +kernel
theorem dX6_undo_4 : decode cX6_undo 4 = .ok (.getfield 95, 3) := by decide +kernel
theorem dX6_undo_7 : decode cX6_undo 7 = .ok (.ifCond .ne 6, 3) := by decide +kernel
theorem dX6_undo_10 : decode cX6_undo 10 = .ok (.ldc 98, 2) := by decide +kernel
theorem dX6_undo_12 : decode cX6_undo 12 = .ok (.ireturn, 1) := by decide +kernel
theorem dX6_undo_13 : decode cX6_undo 13 = .ok (.aload_n 0, 1) := by decide +kernel
theorem dX6_undo_14 : decode cX6_undo 14 = .ok (.getfield 19, 3) := by decide +kernel
theorem dX6_undo_17 : decode cX6_undo 17 = .ok (.aload_n 0, 1) := by decide +kernel
theorem dX6_undo_18 : decode cX6_undo 18 = .ok (.getfield 12, 3) := by decide +kernel
theorem dX6_undo_21 : decode cX6_undo 21 = .ok (.invokevirtual 99, 3) := by decide +kernel
theorem dX6_undo_24 : decode cX6_undo 24 = .ok (.aload_n 0, 1) := by decide +kernel
theorem dX6_undo_25 : decode cX6_undo 25 = .ok (.getfield 19, 3) := by decide +kernel
theorem dX6_undo_28 : decode cX6_undo 28 = .ok (.getfield 95, 3) := by decide +kernel
theorem dX6_undo_31 : decode cX6_undo 31 = .ok (.ireturn, 1) := by decide +kernel
set_option maxRecDepth 20000 in
theorem ggX6_setSetpoint_X6_isLevel : GoodIn wsX6_setSetpoint wsX6_isLevel := goodIn_r _ [6, 7, 8] (by decide +kernel) (by decide +kernel)
set_option maxRecDepth 20000 in
theorem gX6_setSetpoint_X6_isLevel : GoodIn wsX6_setSetpoint (va_wsS RX6 102 yX6_isLevel wsX6_isLevel) := goodIn_app (goodIn_of _ (by decide +kernel)) ggX6_setSetpoint_X6_isLevel
set_option maxRecDepth 20000 in
theorem ggX6_setSetpoint_X1_changeSetpoint : GoodIn wsX6_setSetpoint wsX1_changeSetpoint := goodIn_r _ [13, 14, 15, 16, 17, 18, 19, 20, 21, 22, 23, 24, 25, 37, 38, 39, 40, 41, 42, 43, 44, 45, 46, 47, 48, 49, 50] (by decide +kernel) (by decide +kernel)
set_option maxRecDepth 20000 in
theorem gX6_setSetpoint_X1_changeSetpoint : GoodIn wsX6_setSetpoint (wsV RX6 105 RX1 yX1_changeSetpoint wsX1_changeSetpoint) := goodIn_app (goodIn_of _ (by decide +kernel)) ggX6_setSetpoint_X1_changeSetpoint
theorem dX6_setSetpoint_0 : decode cX6_setSetpoint 0 = .ok (.iload_n 1, 1) := by decide +kernel
theorem dX6_setSetpoint_1 : decode cX6_setSetpoint 1 = .ok (.invokestatic 102, 3) := by decide +kernel
theorem dX6_setSetpoint_4 : decode cX6_setSetpoint 4 = .ok (.ifCond .eq 14, 3) := by decide +kernel
theorem dX6_setSetpoint_7 : decode cX6_setSetpoint 7 = .ok (.aload_n 0, 1) := by decide +kernel
theorem dX6_setSetpoint_8 : decode cX6_setSetpoint 8 = .ok (.getfield 33, 3) := by decide +kernel
theorem dX6_setSetpoint_11 : decode cX6_setSetpoint 11 = .ok (.iload_n 1, 1) := by decide +kernel
theorem dX6_setSetpoint_12 : decode cX6_setSetpoint 12 = .ok (.invokevirtual 105, 3) := by decide +kernel
theorem dX6_setSetpoint_15 : decode cX6_setSetpoint 15 = .ok (.goto 5, 3) := by decide +kernel
theorem dX6_setSetpoint_18 : decode cX6_setSetpoint 18 = .ok (.ldc 63, 2) := by decide +kernel
theorem dX6_setSetpoint_20 : decode cX6_setSetpoint 20 = .ok (.ireturn, 1) := by decide +kernel
set_option maxRecDepth 20000 in
theorem ggX6_setLoad_X6_isLevel : GoodIn wsX6_setLoad wsX6_isLevel := goodIn_r _ [7, 8, 9] (by decide +kernel) (by decide +kernel)
set_option maxRecDepth 20000 in
theorem gX6_setLoad_X6_isLevel : GoodIn wsX6_setLoad (va_wsS RX6 102 yX6_isLevel wsX6_isLevel) := goodIn_app (goodIn_of _ (by decide +kernel)) ggX6_setLoad_X6_isLevel
theorem dX6_setLoad_0 : decode cX6_setLoad 0 = .ok (.iload_n 1, 1) := by decide +kernel
theorem dX6_setLoad_1 : decode cX6_setLoad 1 = .ok (.invokestatic 102, 3) := by decide +kernel
theorem dX6_setLoad_4 : decode cX6_setLoad 4 = .ok (.ifCond .ne 6, 3) := by decide +kernel
theorem dX6_setLoad_7 : decode cX6_setLoad 7 = .ok (.ldc 63, 2) := by decide +kernel
theorem dX6_setLoad_9 : decode cX6_setLoad 9 = .ok (.ireturn, 1) := by decide +kernel
theorem dX6_setLoad_10 : decode cX6_setLoad 10 = .ok (.aload_n 0, 1) := by decide +kernel
theorem dX6_setLoad_11 : decode cX6_setLoad 11 = .ok (.getfield 33, 3) := by decide +kernel
theorem dX6_setLoad_14 : decode cX6_setLoad 14 = .ok (.getfield 108, 3) := by decide +kernel
theorem dX6_setLoad_17 : decode cX6_setLoad 17 = .ok (.istore_n 2, 1) := by decide +kernel
theorem dX6_setLoad_18 : decode cX6_setLoad 18 = .ok (.aload_n 0, 1) := by decide +kernel
theorem dX6_setLoad_19 : decode cX6_setLoad 19 = .ok (.getfield 33, 3) := by decide +kernel
theorem dX6_setLoad_22 : decode cX6_setLoad 22 = .ok (.iload_n 1, 1) := by decide +kernel
theorem dX6_setLoad_23 : decode cX6_setLoad 23 = .ok (.putfield 108, 3) := by decide +kernel
theorem dX6_setLoad_26 : decode cX6_setLoad 26 = .ok (.iload_n 2, 1) := by decide +kernel
theorem dX6_setLoad_27 : decode cX6_setLoad 27 = .ok (.ireturn, 1) := by decide +kernel
set_option maxRecDepth 20000 in
theorem ggX6_run_X6_advance : GoodIn wsX6_run wsX6_advance := goodIn_r _ [10, 11, 12, 13, 14, 15, 16, 17, 18, 19, 20, 21, 22, 23, 24, 25, 26, 27, 28, 29, 30, 31, 9, 32, 33, 34, 35, 36, 37, 38, 39, 40, 41, 42, 43, 44, 45, 46, 47, 48, 49, 50, 51, 52, 53, 54, 55, 56, 57, 58, 59, 60, 61, 62, 63, 64, 65, 66, 67, 68, 69, 70, 71, 72, 73, 74, 75, 76, 77, 78, 79, 80, 81, 82, 83, 84, 85, 86, 87, 88, 89, 90, 91, 92, 93, 94, 95, 96, 97, 98, 99, 100, 101, 102, 103, 104, 105, 106, 107, 108, 109, 110, 111, 112, 113, 114, 115, 116, 117, 118, 119, 120, 121, 122, 123, 124, 125, 126, 127, 128, 129, 130, 131, 132, 133, 134, 135, 136, 137, 138, 139, 140, 141, 142, 143, 144, 145, 146, 147, 148, 149, 150, 151, 152, 153, 154, 155, 156, 157, 158, 159, 160, 161] (by decide +kernel) (by decide +kernel)
set_option maxRecDepth 20000 in
theorem gX6_run_X6_advance : GoodIn wsX6_run (wsV RX6 138 RX6 yX6_advance wsX6_advance) := goodIn_app (goodIn_of _ (by decide +kernel)) ggX6_run_X6_advance
theorem dX6_run_0 : decode cX6_run 0 = .ok (.iload_n 1, 1) := by decide +kernel
theorem dX6_run_1 : decode cX6_run 1 = .ok (.iconst 1, 1) := by decide +kernel
theorem dX6_run_2 : decode cX6_run 2 = .ok (.if_icmp .lt 10, 3) := by decide +kernel
theorem dX6_run_5 : decode cX6_run 5 = .ok (.iload_n 1, 1) := by decide +kernel
theorem dX6_run_6 : decode cX6_run 6 = .ok (.sipush 500, 3) := by decide +kernel
theorem dX6_run_9 : decode cX6_run 9 = .ok (.if_icmp .le 6, 3) := by decide +kernel
theorem dX6_run_12 : decode cX6_run 12 = .ok (.ldc 63, 2) := by decide +kernel
theorem dX6_run_14 : decode cX6_run 14 = .ok (.ireturn, 1) := by decide +kernel
theorem dX6_run_15 : decode cX6_run 15 = .ok (.iload_n 1, 1) := by decide +kernel
theorem dX6_run_16 : decode cX6_run 16 = .ok (.ldc 134, 2) := by decide +kernel
theorem dX6_run_18 : decode cX6_run 18 = .ok (.aload_n 0, 1) := by decide +kernel
theorem dX6_run_19 : decode cX6_run 19 = .ok (.getfield 33, 3) := by decide +kernel
theorem dX6_run_22 : decode cX6_run 22 = .ok (.getfield 135, 3) := by decide +kernel
theorem dX6_run_25 : decode cX6_run 25 = .ok (.isub, 1) := by decide +kernel
theorem dX6_run_26 : decode cX6_run 26 = .ok (.if_icmp .le 6, 3) := by decide +kernel
theorem dX6_run_29 : decode cX6_run 29 = .ok (.ldc 120, 2) := by decide +kernel
theorem dX6_run_31 : decode cX6_run 31 = .ok (.ireturn, 1) := by decide +kernel
theorem dX6_run_32 : decode cX6_run 32 = .ok (.aload_n 0, 1) := by decide +kernel
theorem dX6_run_33 : decode cX6_run 33 = .ok (.aload_n 0, 1) := by decide +kernel
theorem dX6_run_34 : decode cX6_run 34 = .ok (.getfield 33, 3) := by decide +kernel
theorem dX6_run_37 : decode cX6_run 37 = .ok (.iload_n 1, 1) := by decide +kernel
theorem dX6_run_38 : decode cX6_run 38 = .ok (.invokevirtual 138, 3) := by decide +kernel
theorem dX6_run_41 : decode cX6_run 41 = .ok (.aload_n 0, 1) := by decide +kernel
theorem dX6_run_42 : decode cX6_run 42 = .ok (.getfield 33, 3) := by decide +kernel
theorem dX6_run_45 : decode cX6_run 45 = .ok (.getfield 135, 3) := by decide +kernel
theorem dX6_run_48 : decode cX6_run 48 = .ok (.ireturn, 1) := by decide +kernel
set_option maxRecDepth 20000 in
theorem ggX6_value_X6_isSignal : GoodIn wsX6_value wsX6_isSignal := goodIn_r _ [7] (by decide +kernel) (by decide +kernel)
set_option maxRecDepth 20000 in
theorem gX6_value_X6_isSignal : GoodIn wsX6_value (va_wsS RX6 142 yX6_isSignal wsX6_isSignal) := goodIn_app (goodIn_of _ (by decide +kernel)) ggX6_value_X6_isSignal
theorem dX6_value_0 : decode cX6_value 0 = .ok (.iload_n 1, 1) := by decide +kernel
theorem dX6_value_1 : decode cX6_value 1 = .ok (.invokestatic 142, 3) := by decide +kernel
theorem dX6_value_4 : decode cX6_value 4 = .ok (.ifCond .eq 15, 3) := by decide +kernel
theorem dX6_value_7 : decode cX6_value 7 = .ok (.aload_n 0, 1) := by decide +kernel
theorem dX6_value_8 : decode cX6_value 8 = .ok (.getfield 33, 3) := by decide +kernel
theorem dX6_value_11 : decode cX6_value 11 = .ok (.getfield 145, 3) := by decide +kernel
theorem dX6_value_14 : decode cX6_value 14 = .ok (.iload_n 1, 1) := by decide +kernel
theorem dX6_value_15 : decode cX6_value 15 = .ok (.iaload, 1) := by decide +kernel
theorem dX6_value_16 : decode cX6_value 16 = .ok (.goto 5, 3) := by decide +kernel
theorem dX6_value_19 : decode cX6_value 19 = .ok (.ldc 63, 2) := by decide +kernel
theorem dX6_value_21 : decode cX6_value 21 = .ok (.ireturn, 1) := by decide +kernel
set_option maxRecDepth 20000 in
theorem ggX6_recorded_X6_isSignal : GoodIn wsX6_recorded wsX6_isSignal := goodIn_r _ [8] (by decide +kernel) (by decide +kernel)
set_option maxRecDepth 20000 in
theorem gX6_recorded_X6_isSignal : GoodIn wsX6_recorded (va_wsS RX6 142 yX6_isSignal wsX6_isSignal) := goodIn_app (goodIn_of _ (by decide +kernel)) ggX6_recorded_X6_isSignal
set_option maxRecDepth 20000 in
theorem ggX6_recorded_X1_recordOf : GoodIn wsX6_recorded wsX1_recordOf := goodIn_r _ [13, 14, 15, 6, 7, 8, 16, 17, 18, 19, 31, 32, 33, 34, 35, 36, 37, 38, 39] (by decide +kernel) (by decide +kernel)
set_option maxRecDepth 20000 in
theorem gX6_recorded_X1_recordOf : GoodIn wsX6_recorded (wsV RX6 149 RX1 yX1_recordOf wsX1_recordOf) := goodIn_app (goodIn_of _ (by decide +kernel)) ggX6_recorded_X1_recordOf
theorem dX6_recorded_0 : decode cX6_recorded 0 = .ok (.iload_n 1, 1) := by decide +kernel
theorem dX6_recorded_1 : decode cX6_recorded 1 = .ok (.invokestatic 142, 3) := by decide +kernel
theorem dX6_recorded_4 : decode cX6_recorded 4 = .ok (.ifCond .eq 13, 3) := by decide +kernel
theorem dX6_recorded_7 : decode cX6_recorded 7 = .ok (.iload_n 2, 1) := by decide +kernel
theorem dX6_recorded_8 : decode cX6_recorded 8 = .ok (.ifCond .lt 9, 3) := by decide +kernel
theorem dX6_recorded_11 : decode cX6_recorded 11 = .ok (.iload_n 2, 1) := by decide +kernel
theorem dX6_recorded_12 : decode cX6_recorded 12 = .ok (.bipush 64, 2) := by decide +kernel
theorem dX6_recorded_14 : decode cX6_recorded 14 = .ok (.if_icmp .lt 6, 3) := by decide +kernel
theorem dX6_recorded_17 : decode cX6_recorded 17 = .ok (.ldc 63, 2) := by decide +kernel
theorem dX6_recorded_19 : decode cX6_recorded 19 = .ok (.ireturn, 1) := by decide +kernel
theorem dX6_recorded_20 : decode cX6_recorded 20 = .ok (.iload_n 2, 1) := by decide +kernel
theorem dX6_recorded_21 : decode cX6_recorded 21 = .ok (.aload_n 0, 1) := by decide +kernel
theorem dX6_recorded_22 : decode cX6_recorded 22 = .ok (.getfield 33, 3) := by decide +kernel
theorem dX6_recorded_25 : decode cX6_recorded 25 = .ok (.getfield 135, 3) := by decide +kernel
theorem dX6_recorded_28 : decode cX6_recorded 28 = .ok (.if_icmp .ge 25, 3) := by decide +kernel
theorem dX6_recorded_31 : decode cX6_recorded 31 = .ok (.aload_n 0, 1) := by decide +kernel
theorem dX6_recorded_32 : decode cX6_recorded 32 = .ok (.getfield 33, 3) := by decide +kernel
theorem dX6_recorded_35 : decode cX6_recorded 35 = .ok (.iload_n 1, 1) := by decide +kernel
theorem dX6_recorded_36 : decode cX6_recorded 36 = .ok (.aload_n 0, 1) := by decide +kernel
theorem dX6_recorded_37 : decode cX6_recorded 37 = .ok (.getfield 33, 3) := by decide +kernel
theorem dX6_recorded_40 : decode cX6_recorded 40 = .ok (.getfield 135, 3) := by decide +kernel
theorem dX6_recorded_43 : decode cX6_recorded 43 = .ok (.iconst 1, 1) := by decide +kernel
theorem dX6_recorded_44 : decode cX6_recorded 44 = .ok (.isub, 1) := by decide +kernel
theorem dX6_recorded_45 : decode cX6_recorded 45 = .ok (.iload_n 2, 1) := by decide +kernel
theorem dX6_recorded_46 : decode cX6_recorded 46 = .ok (.isub, 1) := by decide +kernel
theorem dX6_recorded_47 : decode cX6_recorded 47 = .ok (.invokevirtual 149, 3) := by decide +kernel
theorem dX6_recorded_50 : decode cX6_recorded 50 = .ok (.goto 5, 3) := by decide +kernel
theorem dX6_recorded_53 : decode cX6_recorded 53 = .ok (.ldc 94, 2) := by decide +kernel
theorem dX6_recorded_55 : decode cX6_recorded 55 = .ok (.ireturn, 1) := by decide +kernel
theorem dX6_measure_0 : decode cX6_measure 0 = .ok (.iload_n 1, 1) := by decide +kernel
theorem dX6_measure_1 : decode cX6_measure 1 = .ok (.tableswitch 77 0 3 #[31, 42, 53, 65], 31) := by decide +kernel
theorem dX6_measure_32 : decode cX6_measure 32 = .ok (.aload_n 0, 1) := by decide +kernel
theorem dX6_measure_33 : decode cX6_measure 33 = .ok (.getfield 33, 3) := by decide +kernel
theorem dX6_measure_36 : decode cX6_measure 36 = .ok (.getfield 180, 3) := by decide +kernel
theorem dX6_measure_39 : decode cX6_measure 39 = .ok (.getfield 184, 3) := by decide +kernel
theorem dX6_measure_42 : decode cX6_measure 42 = .ok (.lreturn, 1) := by decide +kernel
theorem dX6_measure_43 : decode cX6_measure 43 = .ok (.aload_n 0, 1) := by decide +kernel
theorem dX6_measure_44 : decode cX6_measure 44 = .ok (.getfield 33, 3) := by decide +kernel
theorem dX6_measure_47 : decode cX6_measure 47 = .ok (.getfield 180, 3) := by decide +kernel
theorem dX6_measure_50 : decode cX6_measure 50 = .ok (.getfield 190, 3) := by decide +kernel
theorem dX6_measure_53 : decode cX6_measure 53 = .ok (.lreturn, 1) := by decide +kernel
theorem dX6_measure_54 : decode cX6_measure 54 = .ok (.aload_n 0, 1) := by decide +kernel
theorem dX6_measure_55 : decode cX6_measure 55 = .ok (.getfield 33, 3) := by decide +kernel
theorem dX6_measure_58 : decode cX6_measure 58 = .ok (.getfield 180, 3) := by decide +kernel
theorem dX6_measure_61 : decode cX6_measure 61 = .ok (.getfield 193, 3) := by decide +kernel
theorem dX6_measure_64 : decode cX6_measure 64 = .ok (.i2l, 1) := by decide +kernel
theorem dX6_measure_65 : decode cX6_measure 65 = .ok (.lreturn, 1) := by decide +kernel
theorem dX6_measure_66 : decode cX6_measure 66 = .ok (.aload_n 0, 1) := by decide +kernel
theorem dX6_measure_67 : decode cX6_measure 67 = .ok (.getfield 33, 3) := by decide +kernel
theorem dX6_measure_70 : decode cX6_measure 70 = .ok (.getfield 180, 3) := by decide +kernel
theorem dX6_measure_73 : decode cX6_measure 73 = .ok (.getfield 196, 3) := by decide +kernel
theorem dX6_measure_76 : decode cX6_measure 76 = .ok (.i2l, 1) := by decide +kernel
theorem dX6_measure_77 : decode cX6_measure 77 = .ok (.lreturn, 1) := by decide +kernel
theorem dX6_measure_78 : decode cX6_measure 78 = .ok (.ldc2_w 199, 3) := by decide +kernel
theorem dX6_measure_81 : decode cX6_measure 81 = .ok (.lreturn, 1) := by decide +kernel
set_option maxRecDepth 20000 in
theorem ggX6_store_X6_storedAt : GoodIn wsX6_store wsX6_storedAt := goodIn_r _ [8, 9, 10, 50, 51, 52, 53, 54, 55, 56, 57, 58, 59, 60] (by decide +kernel) (by decide +kernel)
set_option maxRecDepth 20000 in
theorem gX6_store_X6_storedAt : GoodIn wsX6_store (wsV RX6 209 RX6 yX6_storedAt wsX6_storedAt) := goodIn_app (goodIn_of _ (by decide +kernel)) ggX6_store_X6_storedAt
set_option maxRecDepth 20000 in
theorem ggX6_store_X1_copy : GoodIn wsX6_store wsX1_copy := goodIn_r _ [15, 16, 17, 18, 19, 20, 21, 22, 23, 24, 25, 26, 27, 28, 29, 30, 31, 32, 33, 34, 35, 36, 37, 38, 39, 40, 41, 42, 43, 44, 45, 46, 47, 48, 49, 61, 62, 63, 64, 65, 66, 67, 68, 69, 70, 71, 72, 73, 74, 75, 76, 77, 78, 79] (by decide +kernel) (by decide +kernel)
set_option maxRecDepth 20000 in
theorem gX6_store_X1_copy : GoodIn wsX6_store (wsV RX6 213 RX1 yX1_copy wsX1_copy) := goodIn_app (goodIn_of _ (by decide +kernel)) ggX6_store_X1_copy
theorem dX6_store_0 : decode cX6_store 0 = .ok (.aload_n 0, 1) := by decide +kernel
theorem dX6_store_1 : decode cX6_store 1 = .ok (.getfield 43, 3) := by decide +kernel
theorem dX6_store_4 : decode cX6_store 4 = .ok (.iconst 2, 1) := by decide +kernel
theorem dX6_store_5 : decode cX6_store 5 = .ok (.if_icmp .lt 6, 3) := by decide +kernel
theorem dX6_store_8 : decode cX6_store 8 = .ok (.ldc 120, 2) := by decide +kernel
theorem dX6_store_10 : decode cX6_store 10 = .ok (.ireturn, 1) := by decide +kernel
theorem dX6_store_11 : decode cX6_store 11 = .ok (.aload_n 0, 1) := by decide +kernel
theorem dX6_store_12 : decode cX6_store 12 = .ok (.aload_n 0, 1) := by decide +kernel
theorem dX6_store_13 : decode cX6_store 13 = .ok (.getfield 43, 3) := by decide +kernel
theorem dX6_store_16 : decode cX6_store 16 = .ok (.invokevirtual 209, 3) := by decide +kernel
theorem dX6_store_19 : decode cX6_store 19 = .ok (.aload_n 0, 1) := by decide +kernel
theorem dX6_store_20 : decode cX6_store 20 = .ok (.getfield 33, 3) := by decide +kernel
theorem dX6_store_23 : decode cX6_store 23 = .ok (.invokevirtual 213, 3) := by decide +kernel
theorem dX6_store_26 : decode cX6_store 26 = .ok (.aload_n 0, 1) := by decide +kernel
theorem dX6_store_27 : decode cX6_store 27 = .ok (.dup, 1) := by decide +kernel
theorem dX6_store_28 : decode cX6_store 28 = .ok (.getfield 43, 3) := by decide +kernel
theorem dX6_store_31 : decode cX6_store 31 = .ok (.iconst 1, 1) := by decide +kernel
theorem dX6_store_32 : decode cX6_store 32 = .ok (.iadd, 1) := by decide +kernel
theorem dX6_store_33 : decode cX6_store 33 = .ok (.putfield 43, 3) := by decide +kernel
theorem dX6_store_36 : decode cX6_store 36 = .ok (.aload_n 0, 1) := by decide +kernel
theorem dX6_store_37 : decode cX6_store 37 = .ok (.getfield 43, 3) := by decide +kernel
theorem dX6_store_40 : decode cX6_store 40 = .ok (.ireturn, 1) := by decide +kernel
set_option maxRecDepth 20000 in
theorem ggX6_recall_X6_storedAt : GoodIn wsX6_recall wsX6_storedAt := goodIn_r _ [8, 9, 10, 50, 51, 52, 53, 54, 55, 56, 57, 58, 59, 60] (by decide +kernel) (by decide +kernel)
set_option maxRecDepth 20000 in
theorem gX6_recall_X6_storedAt : GoodIn wsX6_recall (wsV RX6 209 RX6 yX6_storedAt wsX6_storedAt) := goodIn_app (goodIn_of _ (by decide +kernel)) ggX6_recall_X6_storedAt
set_option maxRecDepth 20000 in
theorem ggX6_recall_X1_copy : GoodIn wsX6_recall wsX1_copy := goodIn_r _ [15, 16, 17, 18, 19, 20, 21, 22, 23, 24, 25, 26, 27, 28, 29, 30, 31, 32, 33, 34, 35, 36, 37, 38, 39, 40, 41, 42, 43, 44, 45, 46, 47, 48, 49, 61, 62, 63, 64, 65, 66, 67, 68, 69, 70, 71, 72, 73, 74, 75, 76, 77, 78, 79] (by decide +kernel) (by decide +kernel)
set_option maxRecDepth 20000 in
theorem gX6_recall_X1_copy : GoodIn wsX6_recall (wsV RX6 213 RX1 yX1_copy wsX1_copy) := goodIn_app (goodIn_of _ (by decide +kernel)) ggX6_recall_X1_copy
theorem dX6_recall_0 : decode cX6_recall 0 = .ok (.aload_n 0, 1) := by decide +kernel
theorem dX6_recall_1 : decode cX6_recall 1 = .ok (.getfield 43, 3) := by decide +kernel
theorem dX6_recall_4 : decode cX6_recall 4 = .ok (.ifCond .ne 6, 3) := by decide +kernel
theorem dX6_recall_7 : decode cX6_recall 7 = .ok (.ldc 98, 2) := by decide +kernel
theorem dX6_recall_9 : decode cX6_recall 9 = .ok (.ireturn, 1) := by decide +kernel
theorem dX6_recall_10 : decode cX6_recall 10 = .ok (.aload_n 0, 1) := by decide +kernel
theorem dX6_recall_11 : decode cX6_recall 11 = .ok (.dup, 1) := by decide +kernel
theorem dX6_recall_12 : decode cX6_recall 12 = .ok (.getfield 43, 3) := by decide +kernel
theorem dX6_recall_15 : decode cX6_recall 15 = .ok (.iconst 1, 1) := by decide +kernel
theorem dX6_recall_16 : decode cX6_recall 16 = .ok (.isub, 1) := by decide +kernel
theorem dX6_recall_17 : decode cX6_recall 17 = .ok (.putfield 43, 3) := by decide +kernel
theorem dX6_recall_20 : decode cX6_recall 20 = .ok (.aload_n 0, 1) := by decide +kernel
theorem dX6_recall_21 : decode cX6_recall 21 = .ok (.getfield 33, 3) := by decide +kernel
theorem dX6_recall_24 : decode cX6_recall 24 = .ok (.aload_n 0, 1) := by decide +kernel
theorem dX6_recall_25 : decode cX6_recall 25 = .ok (.aload_n 0, 1) := by decide +kernel
theorem dX6_recall_26 : decode cX6_recall 26 = .ok (.getfield 43, 3) := by decide +kernel
theorem dX6_recall_29 : decode cX6_recall 29 = .ok (.invokevirtual 209, 3) := by decide +kernel
theorem dX6_recall_32 : decode cX6_recall 32 = .ok (.invokevirtual 213, 3) := by decide +kernel
theorem dX6_recall_35 : decode cX6_recall 35 = .ok (.aload_n 0, 1) := by decide +kernel
theorem dX6_recall_36 : decode cX6_recall 36 = .ok (.getfield 43, 3) := by decide +kernel
theorem dX6_recall_39 : decode cX6_recall 39 = .ok (.ireturn, 1) := by decide +kernel
set_option maxRecDepth 20000 in
theorem ggX6_ahead_X6_isSignal : GoodIn wsX6_ahead wsX6_isSignal := goodIn_r _ [8] (by decide +kernel) (by decide +kernel)
set_option maxRecDepth 20000 in
theorem gX6_ahead_X6_isSignal : GoodIn wsX6_ahead (va_wsS RX6 142 yX6_isSignal wsX6_isSignal) := goodIn_app (goodIn_of _ (by decide +kernel)) ggX6_ahead_X6_isSignal
set_option maxRecDepth 20000 in
theorem ggX6_ahead_X1_copy : GoodIn wsX6_ahead wsX1_copy := goodIn_r _ [13, 14, 15, 16, 17, 18, 19, 20, 21, 22, 23, 24, 25, 26, 27, 28, 29, 30, 31, 32, 33, 34, 35, 36, 37, 38, 39, 40, 41, 42, 43, 44, 45, 46, 47, 159, 160, 161, 162, 163, 164, 165, 166, 167, 168, 169, 170, 171, 172, 173, 174, 175, 176, 177] (by decide +kernel) (by decide +kernel)
set_option maxRecDepth 20000 in
theorem gX6_ahead_X1_copy : GoodIn wsX6_ahead (wsV RX6 213 RX1 yX1_copy wsX1_copy) := goodIn_app (goodIn_of _ (by decide +kernel)) ggX6_ahead_X1_copy
set_option maxRecDepth 20000 in
theorem ggX6_ahead_X6_advance : GoodIn wsX6_ahead wsX6_advance := goodIn_r _ [51, 52, 53, 54, 55, 12, 56, 19, 57, 58, 59, 60, 25, 26, 14, 61, 62, 63, 64, 65, 66, 67, 7, 68, 69, 70, 71, 72, 73, 74, 16, 75, 76, 77, 78, 79, 80, 81, 82, 83, 84, 85, 24, 6, 8, 86, 87, 88, 89, 90, 91, 92, 93, 94, 95, 96, 97, 98, 99, 100, 101, 102, 103, 17, 18, 104, 105, 106, 107, 108, 109, 110, 111, 112, 113, 114, 115, 116, 117, 118, 119, 120, 121, 122, 123, 124, 125, 126, 30, 127, 32, 128, 33, 34, 36, 129, 130, 131, 35, 132, 133, 134, 40, 135, 47, 42, 136, 137, 138, 139, 44, 45, 46, 140, 141, 142, 143, 144, 145, 146, 147, 15, 148, 149, 150, 151, 152, 153, 154, 155, 156, 157, 158, 159, 160, 161, 162, 163, 164, 165, 166, 167, 178, 168, 169, 170, 171, 172, 173, 174, 175, 176, 177] (by decide +kernel) (by decide +kernel)
set_option maxRecDepth 20000 in
theorem gX6_ahead_X6_advance : GoodIn wsX6_ahead (wsV RX6 138 RX6 yX6_advance wsX6_advance) := goodIn_app (goodIn_of _ (by decide +kernel)) ggX6_ahead_X6_advance
theorem dX6_ahead_0 : decode cX6_ahead 0 = .ok (.iload_n 1, 1) := by decide +kernel
theorem dX6_ahead_1 : decode cX6_ahead 1 = .ok (.iconst 1, 1) := by decide +kernel
theorem dX6_ahead_2 : decode cX6_ahead 2 = .ok (.if_icmp .lt 17, 3) := by decide +kernel
theorem dX6_ahead_5 : decode cX6_ahead 5 = .ok (.iload_n 1, 1) := by decide +kernel
theorem dX6_ahead_6 : decode cX6_ahead 6 = .ok (.sipush 500, 3) := by decide +kernel
theorem dX6_ahead_9 : decode cX6_ahead 9 = .ok (.if_icmp .gt 10, 3) := by decide +kernel
theorem dX6_ahead_12 : decode cX6_ahead 12 = .ok (.iload_n 2, 1) := by decide +kernel
theorem dX6_ahead_13 : decode cX6_ahead 13 = .ok (.invokestatic 142, 3) := by decide +kernel
theorem dX6_ahead_16 : decode cX6_ahead 16 = .ok (.ifCond .ne 6, 3) := by decide +kernel
theorem dX6_ahead_19 : decode cX6_ahead 19 = .ok (.ldc 63, 2) := by decide +kernel
theorem dX6_ahead_21 : decode cX6_ahead 21 = .ok (.ireturn, 1) := by decide +kernel
theorem dX6_ahead_22 : decode cX6_ahead 22 = .ok (.aload_n 0, 1) := by decide +kernel
theorem dX6_ahead_23 : decode cX6_ahead 23 = .ok (.getfield 53, 3) := by decide +kernel
theorem dX6_ahead_26 : decode cX6_ahead 26 = .ok (.aload_n 0, 1) := by decide +kernel
theorem dX6_ahead_27 : decode cX6_ahead 27 = .ok (.getfield 33, 3) := by decide +kernel
theorem dX6_ahead_30 : decode cX6_ahead 30 = .ok (.invokevirtual 213, 3) := by decide +kernel
theorem dX6_ahead_33 : decode cX6_ahead 33 = .ok (.aload_n 0, 1) := by decide +kernel
theorem dX6_ahead_34 : decode cX6_ahead 34 = .ok (.aload_n 0, 1) := by decide +kernel
theorem dX6_ahead_35 : decode cX6_ahead 35 = .ok (.getfield 53, 3) := by decide +kernel
theorem dX6_ahead_38 : decode cX6_ahead 38 = .ok (.iload_n 1, 1) := by decide +kernel
theorem dX6_ahead_39 : decode cX6_ahead 39 = .ok (.invokevirtual 138, 3) := by decide +kernel
theorem dX6_ahead_42 : decode cX6_ahead 42 = .ok (.aload_n 0, 1) := by decide +kernel
theorem dX6_ahead_43 : decode cX6_ahead 43 = .ok (.getfield 53, 3) := by decide +kernel
theorem dX6_ahead_46 : decode cX6_ahead 46 = .ok (.getfield 145, 3) := by decide +kernel
theorem dX6_ahead_49 : decode cX6_ahead 49 = .ok (.iload_n 2, 1) := by decide +kernel
theorem dX6_ahead_50 : decode cX6_ahead 50 = .ok (.iaload, 1) := by decide +kernel
theorem dX6_ahead_51 : decode cX6_ahead 51 = .ok (.ireturn, 1) := by decide +kernel
set_option maxRecDepth 20000 in
theorem ggX6_bestGain_X6_errorsWith : GoodIn wsX6_bestGain wsX6_errorsWith := goodIn_r _ [6, 7, 8, 9, 10, 11, 12, 13, 14, 15, 16, 17, 18, 19, 20, 21, 22, 23, 24, 25, 26, 27, 28, 29, 30, 5, 31, 32, 33, 34, 35, 36, 37, 38, 39, 40, 41, 42, 43, 44, 45, 46, 47, 48, 49, 50, 51, 52, 53, 54, 55, 56, 57, 58, 59, 60, 61, 62, 63, 64, 65, 66, 67, 68, 69, 70, 71, 72, 73, 74, 75, 76, 77, 78, 79, 80, 81, 82, 83, 84, 85, 86, 87, 88, 89, 90, 91, 92, 93, 94, 95, 96, 97, 98, 99, 100, 101, 102, 103, 104, 105, 106, 107, 108, 109, 110, 111, 112, 113, 114, 115, 116, 117, 118, 119, 120, 121, 122, 123, 124, 125, 126, 127, 128, 129, 130, 131, 132, 133, 134, 135, 136, 137, 138, 139, 140, 141, 142, 143, 144, 145, 146, 147, 148, 149, 150, 151, 152, 153, 154, 155, 156, 157, 158, 159, 160, 161, 162, 163, 164, 165, 166, 167, 168, 169, 170, 171, 172, 173, 174, 175, 176, 177, 178, 179, 180, 181, 182, 183, 184, 185, 186, 187, 188] (by decide +kernel) (by decide +kernel)
set_option maxRecDepth 20000 in
theorem gX6_bestGain_X6_errorsWith : GoodIn wsX6_bestGain (wsV RX6 226 RX6 yX6_errorsWith wsX6_errorsWith) := goodIn_app (goodIn_of _ (by decide +kernel)) ggX6_bestGain_X6_errorsWith
theorem dX6_bestGain_0 : decode cX6_bestGain 0 = .ok (.iload_n 1, 1) := by decide +kernel
theorem dX6_bestGain_1 : decode cX6_bestGain 1 = .ok (.iconst 1, 1) := by decide +kernel
theorem dX6_bestGain_2 : decode cX6_bestGain 2 = .ok (.if_icmp .lt 9, 3) := by decide +kernel
theorem dX6_bestGain_5 : decode cX6_bestGain 5 = .ok (.iload_n 1, 1) := by decide +kernel
theorem dX6_bestGain_6 : decode cX6_bestGain 6 = .ok (.bipush 100, 2) := by decide +kernel
theorem dX6_bestGain_8 : decode cX6_bestGain 8 = .ok (.if_icmp .le 6, 3) := by decide +kernel
theorem dX6_bestGain_11 : decode cX6_bestGain 11 = .ok (.ldc 63, 2) := by decide +kernel
theorem dX6_bestGain_13 : decode cX6_bestGain 13 = .ok (.ireturn, 1) := by decide +kernel
theorem dX6_bestGain_14 : decode cX6_bestGain 14 = .ok (.iconst 0, 1) := by decide +kernel
theorem dX6_bestGain_15 : decode cX6_bestGain 15 = .ok (.istore_n 2, 1) := by decide +kernel
theorem dX6_bestGain_16 : decode cX6_bestGain 16 = .ok (.aload_n 0, 1) := by decide +kernel
theorem dX6_bestGain_17 : decode cX6_bestGain 17 = .ok (.iconst 0, 1) := by decide +kernel
theorem dX6_bestGain_18 : decode cX6_bestGain 18 = .ok (.iload_n 1, 1) := by decide +kernel
theorem dX6_bestGain_19 : decode cX6_bestGain 19 = .ok (.invokevirtual 226, 3) := by decide +kernel
theorem dX6_bestGain_22 : decode cX6_bestGain 22 = .ok (.lstore_n 3, 1) := by decide +kernel
theorem dX6_bestGain_23 : decode cX6_bestGain 23 = .ok (.sipush 250, 3) := by decide +kernel
theorem dX6_bestGain_26 : decode cX6_bestGain 26 = .ok (.istore 5, 2) := by decide +kernel
theorem dX6_bestGain_28 : decode cX6_bestGain 28 = .ok (.iload 5, 2) := by decide +kernel
theorem dX6_bestGain_30 : decode cX6_bestGain 30 = .ok (.sipush 5000, 3) := by decide +kernel
theorem dX6_bestGain_33 : decode cX6_bestGain 33 = .ok (.if_icmp .gt 34, 3) := by decide +kernel
theorem dX6_bestGain_36 : decode cX6_bestGain 36 = .ok (.aload_n 0, 1) := by decide +kernel
theorem dX6_bestGain_37 : decode cX6_bestGain 37 = .ok (.iload 5, 2) := by decide +kernel
theorem dX6_bestGain_39 : decode cX6_bestGain 39 = .ok (.iload_n 1, 1) := by decide +kernel
theorem dX6_bestGain_40 : decode cX6_bestGain 40 = .ok (.invokevirtual 226, 3) := by decide +kernel
theorem dX6_bestGain_43 : decode cX6_bestGain 43 = .ok (.lstore 6, 2) := by decide +kernel
theorem dX6_bestGain_45 : decode cX6_bestGain 45 = .ok (.lload 6, 2) := by decide +kernel
theorem dX6_bestGain_47 : decode cX6_bestGain 47 = .ok (.lload_n 3, 1) := by decide +kernel
theorem dX6_bestGain_48 : decode cX6_bestGain 48 = .ok (.lcmp, 1) := by decide +kernel
theorem dX6_bestGain_49 : decode cX6_bestGain 49 = .ok (.ifCond .ge 9, 3) := by decide +kernel
theorem dX6_bestGain_52 : decode cX6_bestGain 52 = .ok (.lload 6, 2) := by decide +kernel
theorem dX6_bestGain_54 : decode cX6_bestGain 54 = .ok (.lstore_n 3, 1) := by decide +kernel
theorem dX6_bestGain_55 : decode cX6_bestGain 55 = .ok (.iload 5, 2) := by decide +kernel
theorem dX6_bestGain_57 : decode cX6_bestGain 57 = .ok (.istore_n 2, 1) := by decide +kernel
theorem dX6_bestGain_58 : decode cX6_bestGain 58 = .ok (.iinc 5 250, 6) := by decide +kernel
theorem dX6_bestGain_64 : decode cX6_bestGain 64 = .ok (.goto (-36), 3) := by decide +kernel
theorem dX6_bestGain_67 : decode cX6_bestGain 67 = .ok (.iload_n 2, 1) := by decide +kernel
theorem dX6_bestGain_68 : decode cX6_bestGain 68 = .ok (.ireturn, 1) := by decide +kernel
set_option maxRecDepth 20000 in
theorem ggX6_idealDifference_X6_prepareIdeal : GoodIn wsX6_idealDifference wsX6_prepareIdeal := goodIn_r _ [15, 4, 2, 6, 3, 16, 17, 5, 18, 19, 20, 21, 22, 23, 24, 25, 26, 27, 28, 29, 30, 31, 32, 14, 33, 34, 35, 36, 37, 38, 39, 40, 41, 42, 43, 44, 45, 46, 47, 48, 49, 50, 51, 52, 53, 54, 55, 56, 57, 58, 59, 60, 61, 165, 166, 167, 168, 169, 170, 171, 172, 173, 174, 175, 176, 177, 178, 179, 180, 181, 182, 183, 184, 185, 186, 187, 188, 189, 190, 191, 192, 193, 194, 195] (by decide +kernel) (by decide +kernel)
set_option maxRecDepth 20000 in
theorem gX6_idealDifference_X6_prepareIdeal : GoodIn wsX6_idealDifference (wsV RX6 230 RX6 yX6_prepareIdeal wsX6_prepareIdeal) := goodIn_app (goodIn_of _ (by decide +kernel)) ggX6_idealDifference_X6_prepareIdeal
set_option maxRecDepth 20000 in
theorem ggX6_idealDifference_X3_get : GoodIn wsX6_idealDifference wsX3_get := goodIn_r _ [65, 23, 32, 14, 33, 185] (by decide +kernel) (by decide +kernel)
set_option maxRecDepth 20000 in
theorem gX6_idealDifference_X3_get : GoodIn wsX6_idealDifference (wsV RX6 64 RX3 yX3_get wsX3_get) := goodIn_app (goodIn_of _ (by decide +kernel)) ggX6_idealDifference_X3_get
set_option maxRecDepth 20000 in
theorem ggX6_idealDifference_X1_tick : GoodIn wsX6_idealDifference wsX1_tick := goodIn_r _ [69, 44, 70, 71, 9, 72, 45, 46, 39, 73, 63, 64, 21, 65, 23, 32, 14, 33, 74, 75, 76, 37, 77, 78, 79, 41, 80, 81, 82, 83, 84, 85, 86, 87, 88, 89, 90, 91, 92, 93, 94, 95, 96, 97, 98, 99, 100, 101, 102, 103, 104, 105, 106, 107, 108, 109, 110, 111, 42, 43, 112, 113, 114, 115, 116, 117, 118, 119, 120, 121, 122, 123, 124, 125, 126, 127, 128, 129, 130, 131, 132, 133, 134, 51, 135, 53, 136, 54, 55, 57, 137, 8, 10, 56, 138, 139, 140, 141, 142, 143, 144, 145, 146, 147, 148, 149, 150, 151, 152, 153, 154, 155, 156, 157, 158, 159, 40, 176, 177, 178, 179, 180, 181, 182, 183, 184, 185, 191, 192, 193, 194, 195, 186, 187, 188, 189, 190] (by decide +kernel) (by decide +kernel)
set_option maxRecDepth 20000 in
theorem gX6_idealDifference_X1_tick : GoodIn wsX6_idealDifference (wsV RX6 233 RX1 yX1_tick wsX1_tick) := goodIn_app (goodIn_of _ (by decide +kernel)) ggX6_idealDifference_X1_tick
set_option maxRecDepth 20000 in
theorem ggX6_idealDifference_X6_difference : GoodIn wsX6_idealDifference wsX6_difference := goodIn_r _ [163, 3, 17, 5, 164, 71, 9, 72, 165, 166, 167, 168, 169, 170, 171, 172, 173, 174, 175, 176, 177, 178, 179, 180, 181, 182, 183, 184] (by decide +kernel) (by decide +kernel)
set_option maxRecDepth 20000 in
theorem gX6_idealDifference_X6_difference : GoodIn wsX6_idealDifference (wsV RX6 237 RX6 yX6_difference wsX6_difference) := goodIn_app (goodIn_of _ (by decide +kernel)) ggX6_idealDifference_X6_difference
theorem dX6_idealDifference_0 : decode cX6_idealDifference 0 = .ok (.iload_n 1, 1) := by decide +kernel
theorem dX6_idealDifference_1 : decode cX6_idealDifference 1 = .ok (.iconst 1, 1) := by decide +kernel
theorem dX6_idealDifference_2 : decode cX6_idealDifference 2 = .ok (.if_icmp .lt 10, 3) := by decide +kernel
theorem dX6_idealDifference_5 : decode cX6_idealDifference 5 = .ok (.iload_n 1, 1) := by decide +kernel
theorem dX6_idealDifference_6 : decode cX6_idealDifference 6 = .ok (.sipush 200, 3) := by decide +kernel
theorem dX6_idealDifference_9 : decode cX6_idealDifference 9 = .ok (.if_icmp .le 6, 3) := by decide +kernel
theorem dX6_idealDifference_12 : decode cX6_idealDifference 12 = .ok (.ldc 63, 2) := by decide +kernel
theorem dX6_idealDifference_14 : decode cX6_idealDifference 14 = .ok (.ireturn, 1) := by decide +kernel
theorem dX6_idealDifference_15 : decode cX6_idealDifference 15 = .ok (.aload_n 0, 1) := by decide +kernel
theorem dX6_idealDifference_16 : decode cX6_idealDifference 16 = .ok (.invokevirtual 230, 3) := by decide +kernel
theorem dX6_idealDifference_19 : decode cX6_idealDifference 19 = .ok (.iconst 0, 1) := by decide +kernel
theorem dX6_idealDifference_20 : decode cX6_idealDifference 20 = .ok (.istore_n 2, 1) := by decide +kernel
theorem dX6_idealDifference_21 : decode cX6_idealDifference 21 = .ok (.iload_n 2, 1) := by decide +kernel
theorem dX6_idealDifference_22 : decode cX6_idealDifference 22 = .ok (.aload_n 0, 1) := by decide +kernel
theorem dX6_idealDifference_23 : decode cX6_idealDifference 23 = .ok (.getfield 12, 3) := by decide +kernel
theorem dX6_idealDifference_26 : decode cX6_idealDifference 26 = .ok (.iconst 4, 1) := by decide +kernel
theorem dX6_idealDifference_27 : decode cX6_idealDifference 27 = .ok (.invokevirtual 64, 3) := by decide +kernel
theorem dX6_idealDifference_30 : decode cX6_idealDifference 30 = .ok (.bipush 10, 2) := by decide +kernel
theorem dX6_idealDifference_32 : decode cX6_idealDifference 32 = .ok (.idiv, 1) := by decide +kernel
theorem dX6_idealDifference_33 : decode cX6_idealDifference 33 = .ok (.if_icmp .ge 21, 3) := by decide +kernel
theorem dX6_idealDifference_36 : decode cX6_idealDifference 36 = .ok (.aload_n 0, 1) := by decide +kernel
theorem dX6_idealDifference_37 : decode cX6_idealDifference 37 = .ok (.getfield 53, 3) := by decide +kernel
theorem dX6_idealDifference_40 : decode cX6_idealDifference 40 = .ok (.aload_n 0, 1) := by decide +kernel
theorem dX6_idealDifference_41 : decode cX6_idealDifference 41 = .ok (.getfield 47, 3) := by decide +kernel
theorem dX6_idealDifference_44 : decode cX6_idealDifference 44 = .ok (.iconst 0, 1) := by decide +kernel
theorem dX6_idealDifference_45 : decode cX6_idealDifference 45 = .ok (.invokevirtual 233, 3) := by decide +kernel
theorem dX6_idealDifference_48 : decode cX6_idealDifference 48 = .ok (.iinc 2 1, 3) := by decide +kernel
theorem dX6_idealDifference_51 : decode cX6_idealDifference 51 = .ok (.goto (-30), 3) := by decide +kernel
theorem dX6_idealDifference_54 : decode cX6_idealDifference 54 = .ok (.aload_n 0, 1) := by decide +kernel
theorem dX6_idealDifference_55 : decode cX6_idealDifference 55 = .ok (.invokevirtual 237, 3) := by decide +kernel
theorem dX6_idealDifference_58 : decode cX6_idealDifference 58 = .ok (.istore_n 2, 1) := by decide +kernel
theorem dX6_idealDifference_59 : decode cX6_idealDifference 59 = .ok (.iconst 0, 1) := by decide +kernel
theorem dX6_idealDifference_60 : decode cX6_idealDifference 60 = .ok (.istore_n 3, 1) := by decide +kernel
theorem dX6_idealDifference_61 : decode cX6_idealDifference 61 = .ok (.iload_n 3, 1) := by decide +kernel
theorem dX6_idealDifference_62 : decode cX6_idealDifference 62 = .ok (.iload_n 1, 1) := by decide +kernel
theorem dX6_idealDifference_63 : decode cX6_idealDifference 63 = .ok (.if_icmp .ge 42, 3) := by decide +kernel
theorem dX6_idealDifference_66 : decode cX6_idealDifference 66 = .ok (.aload_n 0, 1) := by decide +kernel
theorem dX6_idealDifference_67 : decode cX6_idealDifference 67 = .ok (.getfield 53, 3) := by decide +kernel
theorem dX6_idealDifference_70 : decode cX6_idealDifference 70 = .ok (.aload_n 0, 1) := by decide +kernel
theorem dX6_idealDifference_71 : decode cX6_idealDifference 71 = .ok (.getfield 47, 3) := by decide +kernel
theorem dX6_idealDifference_74 : decode cX6_idealDifference 74 = .ok (.iconst 0, 1) := by decide +kernel
theorem dX6_idealDifference_75 : decode cX6_idealDifference 75 = .ok (.invokevirtual 233, 3) := by decide +kernel
theorem dX6_idealDifference_78 : decode cX6_idealDifference 78 = .ok (.aload_n 0, 1) := by decide +kernel
theorem dX6_idealDifference_79 : decode cX6_idealDifference 79 = .ok (.getfield 56, 3) := by decide +kernel
theorem dX6_idealDifference_82 : decode cX6_idealDifference 82 = .ok (.aload_n 0, 1) := by decide +kernel
theorem dX6_idealDifference_83 : decode cX6_idealDifference 83 = .ok (.getfield 50, 3) := by decide +kernel
theorem dX6_idealDifference_86 : decode cX6_idealDifference 86 = .ok (.iconst 1, 1) := by decide +kernel
theorem dX6_idealDifference_87 : decode cX6_idealDifference 87 = .ok (.invokevirtual 233, 3) := by decide +kernel
theorem dX6_idealDifference_90 : decode cX6_idealDifference 90 = .ok (.iload_n 2, 1) := by decide +kernel
theorem dX6_idealDifference_91 : decode cX6_idealDifference 91 = .ok (.aload_n 0, 1) := by decide +kernel
theorem dX6_idealDifference_92 : decode cX6_idealDifference 92 = .ok (.invokevirtual 237, 3) := by decide +kernel
theorem dX6_idealDifference_95 : decode cX6_idealDifference 95 = .ok (.invokestatic 240, 3) := by decide +kernel
theorem dX6_idealDifference_98 : decode cX6_idealDifference 98 = .ok (.istore_n 2, 1) := by decide +kernel
theorem dX6_idealDifference_99 : decode cX6_idealDifference 99 = .ok (.iinc 3 1, 3) := by decide +kernel
theorem dX6_idealDifference_102 : decode cX6_idealDifference 102 = .ok (.goto (-41), 3) := by decide +kernel
theorem dX6_idealDifference_105 : decode cX6_idealDifference 105 = .ok (.iload_n 2, 1) := by decide +kernel
theorem dX6_idealDifference_106 : decode cX6_idealDifference 106 = .ok (.ireturn, 1) := by decide +kernel
theorem dX6_isParameter_0 : decode cX6_isParameter 0 = .ok (.iload_n 0, 1) := by decide +kernel
theorem dX6_isParameter_1 : decode cX6_isParameter 1 = .ok (.ifCond .lt 13, 3) := by decide +kernel
theorem dX6_isParameter_4 : decode cX6_isParameter 4 = .ok (.iload_n 0, 1) := by decide +kernel
theorem dX6_isParameter_5 : decode cX6_isParameter 5 = .ok (.bipush 15, 2) := by decide +kernel
theorem dX6_isParameter_7 : decode cX6_isParameter 7 = .ok (.if_icmp .ge 7, 3) := by decide +kernel
theorem dX6_isParameter_10 : decode cX6_isParameter 10 = .ok (.iconst 1, 1) := by decide +kernel
theorem dX6_isParameter_11 : decode cX6_isParameter 11 = .ok (.goto 4, 3) := by decide +kernel
theorem dX6_isParameter_14 : decode cX6_isParameter 14 = .ok (.iconst 0, 1) := by decide +kernel
theorem dX6_isParameter_15 : decode cX6_isParameter 15 = .ok (.ireturn, 1) := by decide +kernel
theorem dX6_isSignal_0 : decode cX6_isSignal 0 = .ok (.iload_n 0, 1) := by decide +kernel
theorem dX6_isSignal_1 : decode cX6_isSignal 1 = .ok (.ifCond .lt 13, 3) := by decide +kernel
theorem dX6_isSignal_4 : decode cX6_isSignal 4 = .ok (.iload_n 0, 1) := by decide +kernel
theorem dX6_isSignal_5 : decode cX6_isSignal 5 = .ok (.bipush 10, 2) := by decide +kernel
theorem dX6_isSignal_7 : decode cX6_isSignal 7 = .ok (.if_icmp .ge 7, 3) := by decide +kernel
theorem dX6_isSignal_10 : decode cX6_isSignal 10 = .ok (.iconst 1, 1) := by decide +kernel
theorem dX6_isSignal_11 : decode cX6_isSignal 11 = .ok (.goto 4, 3) := by decide +kernel
theorem dX6_isSignal_14 : decode cX6_isSignal 14 = .ok (.iconst 0, 1) := by decide +kernel
theorem dX6_isSignal_15 : decode cX6_isSignal 15 = .ok (.ireturn, 1) := by decide +kernel
theorem dX6_isLevel_0 : decode cX6_isLevel 0 = .ok (.iload_n 0, 1) := by decide +kernel
theorem dX6_isLevel_1 : decode cX6_isLevel 1 = .ok (.ldc 243, 2) := by decide +kernel
theorem dX6_isLevel_3 : decode cX6_isLevel 3 = .ok (.if_icmp .lt 13, 3) := by decide +kernel
theorem dX6_isLevel_6 : decode cX6_isLevel 6 = .ok (.iload_n 0, 1) := by decide +kernel
theorem dX6_isLevel_7 : decode cX6_isLevel 7 = .ok (.ldc 134, 2) := by decide +kernel
theorem dX6_isLevel_9 : decode cX6_isLevel 9 = .ok (.if_icmp .gt 7, 3) := by decide +kernel
theorem dX6_isLevel_12 : decode cX6_isLevel 12 = .ok (.iconst 1, 1) := by decide +kernel
theorem dX6_isLevel_13 : decode cX6_isLevel 13 = .ok (.goto 4, 3) := by decide +kernel
theorem dX6_isLevel_16 : decode cX6_isLevel 16 = .ok (.iconst 0, 1) := by decide +kernel
theorem dX6_isLevel_17 : decode cX6_isLevel 17 = .ok (.ireturn, 1) := by decide +kernel
set_option maxRecDepth 20000 in
theorem ggX6_allows_X6_isParameter : GoodIn wsX6_allows wsX6_isParameter := goodIn_r _ [6] (by decide +kernel) (by decide +kernel)
set_option maxRecDepth 20000 in
theorem gX6_allows_X6_isParameter : GoodIn wsX6_allows (va_wsS RX6 76 yX6_isParameter wsX6_isParameter) := goodIn_app (goodIn_of _ (by decide +kernel)) ggX6_allows_X6_isParameter
theorem dX6_allows_0 : decode cX6_allows 0 = .ok (.iload_n 0, 1) := by decide +kernel
theorem dX6_allows_1 : decode cX6_allows 1 = .ok (.invokestatic 76, 3) := by decide +kernel
theorem dX6_allows_4 : decode cX6_allows 4 = .ok (.ifCond .eq 25, 3) := by decide +kernel
theorem dX6_allows_7 : decode cX6_allows 7 = .ok (.iload_n 1, 1) := by decide +kernel
theorem dX6_allows_8 : decode cX6_allows 8 = .ok (.getstatic 244, 3) := by decide +kernel
theorem dX6_allows_11 : decode cX6_allows 11 = .ok (.iload_n 0, 1) := by decide +kernel
theorem dX6_allows_12 : decode cX6_allows 12 = .ok (.iaload, 1) := by decide +kernel
theorem dX6_allows_13 : decode cX6_allows 13 = .ok (.if_icmp .lt 16, 3) := by decide +kernel
theorem dX6_allows_16 : decode cX6_allows 16 = .ok (.iload_n 1, 1) := by decide +kernel
theorem dX6_allows_17 : decode cX6_allows 17 = .ok (.getstatic 247, 3) := by decide +kernel
theorem dX6_allows_20 : decode cX6_allows 20 = .ok (.iload_n 0, 1) := by decide +kernel
theorem dX6_allows_21 : decode cX6_allows 21 = .ok (.iaload, 1) := by decide +kernel
theorem dX6_allows_22 : decode cX6_allows 22 = .ok (.if_icmp .gt 7, 3) := by decide +kernel
theorem dX6_allows_25 : decode cX6_allows 25 = .ok (.iconst 1, 1) := by decide +kernel
theorem dX6_allows_26 : decode cX6_allows 26 = .ok (.goto 4, 3) := by decide +kernel
theorem dX6_allows_29 : decode cX6_allows 29 = .ok (.iconst 0, 1) := by decide +kernel
theorem dX6_allows_30 : decode cX6_allows 30 = .ok (.ireturn, 1) := by decide +kernel
set_option maxRecDepth 20000 in
theorem ggX6_thousandth_J9_floorDiv_f86c9 : GoodIn wsX6_thousandth wsJ9_floorDiv_f86c9 := goodIn_r _ [5] (by decide +kernel) (by decide +kernel)
set_option maxRecDepth 20000 in
theorem gX6_thousandth_J9_floorDiv_f86c9 : GoodIn wsX6_thousandth (va_wsS RX6 282 yJ9_floorDiv_f86c9 wsJ9_floorDiv_f86c9) := goodIn_app (goodIn_of _ (by decide +kernel)) ggX6_thousandth_J9_floorDiv_f86c9
theorem dX6_thousandth_0 : decode cX6_thousandth 0 = .ok (.lload_n 0, 1) := by decide +kernel
theorem dX6_thousandth_1 : decode cX6_thousandth 1 = .ok (.ldc2_w 280, 3) := by decide +kernel
theorem dX6_thousandth_4 : decode cX6_thousandth 4 = .ok (.invokestatic 282, 3) := by decide +kernel
theorem dX6_thousandth_7 : decode cX6_thousandth 7 = .ok (.lreturn, 1) := by decide +kernel
set_option maxRecDepth 20000 in
theorem ggX6_stepped_X6_thousandth : GoodIn wsX6_stepped wsX6_thousandth := goodIn_r _ [4, 5, 6, 7, 8, 9] (by decide +kernel) (by decide +kernel)
set_option maxRecDepth 20000 in
theorem gX6_stepped_X6_thousandth : GoodIn wsX6_stepped (va_wsS RX6 286 yX6_thousandth wsX6_thousandth) := goodIn_app (goodIn_of _ (by decide +kernel)) ggX6_stepped_X6_thousandth
theorem dX6_stepped_0 : decode cX6_stepped 0 = .ok (.lload_n 0, 1) := by decide +kernel
theorem dX6_stepped_1 : decode cX6_stepped 1 = .ok (.lload 4, 2) := by decide +kernel
theorem dX6_stepped_3 : decode cX6_stepped 3 = .ok (.lload_n 2, 1) := by decide +kernel
theorem dX6_stepped_4 : decode cX6_stepped 4 = .ok (.lload_n 0, 1) := by decide +kernel
theorem dX6_stepped_5 : decode cX6_stepped 5 = .ok (.lsub, 1) := by decide +kernel
theorem dX6_stepped_6 : decode cX6_stepped 6 = .ok (.lmul, 1) := by decide +kernel
theorem dX6_stepped_7 : decode cX6_stepped 7 = .ok (.invokestatic 286, 3) := by decide +kernel
theorem dX6_stepped_10 : decode cX6_stepped 10 = .ok (.ladd, 1) := by decide +kernel
theorem dX6_stepped_11 : decode cX6_stepped 11 = .ok (.l2i, 1) := by decide +kernel
theorem dX6_stepped_12 : decode cX6_stepped 12 = .ok (.ireturn, 1) := by decide +kernel
theorem dX6_limited_0 : decode cX6_limited 0 = .ok (.lload_n 0, 1) := by decide +kernel
theorem dX6_limited_1 : decode cX6_limited 1 = .ok (.lload_n 2, 1) := by decide +kernel
theorem dX6_limited_2 : decode cX6_limited 2 = .ok (.invokestatic 290, 3) := by decide +kernel
theorem dX6_limited_5 : decode cX6_limited 5 = .ok (.lload 4, 2) := by decide +kernel
theorem dX6_limited_7 : decode cX6_limited 7 = .ok (.invokestatic 292, 3) := by decide +kernel
theorem dX6_limited_10 : decode cX6_limited 10 = .ok (.lreturn, 1) := by decide +kernel
theorem dX6_storedAt_0 : decode cX6_storedAt 0 = .ok (.iload_n 1, 1) := by decide +kernel
theorem dX6_storedAt_1 : decode cX6_storedAt 1 = .ok (.ifCond .ne 10, 3) := by decide +kernel
theorem dX6_storedAt_4 : decode cX6_storedAt 4 = .ok (.aload_n 0, 1) := by decide +kernel
theorem dX6_storedAt_5 : decode cX6_storedAt 5 = .ok (.getfield 37, 3) := by decide +kernel
theorem dX6_storedAt_8 : decode cX6_storedAt 8 = .ok (.goto 7, 3) := by decide +kernel
theorem dX6_storedAt_11 : decode cX6_storedAt 11 = .ok (.aload_n 0, 1) := by decide +kernel
theorem dX6_storedAt_12 : decode cX6_storedAt 12 = .ok (.getfield 40, 3) := by decide +kernel
theorem dX6_storedAt_15 : decode cX6_storedAt 15 = .ok (.areturn, 1) := by decide +kernel
set_option maxRecDepth 20000 in
theorem ggX6_advance_X1_tick : GoodIn wsX6_advance wsX1_tick := goodIn_r _ [6, 7, 8, 9, 10, 11, 12, 13, 14, 15, 16, 17, 18, 19, 20, 21, 22, 23, 24, 25, 26, 5, 27, 28, 29, 30, 31, 32, 33, 34, 35, 36, 37, 38, 39, 40, 41, 42, 43, 44, 45, 46, 47, 48, 49, 50, 51, 52, 53, 54, 55, 56, 57, 58, 59, 60, 61, 62, 63, 64, 65, 66, 67, 68, 69, 70, 71, 72, 73, 74, 75, 76, 77, 78, 79, 80, 81, 82, 83, 84, 85, 86, 87, 88, 89, 90, 91, 92, 93, 94, 95, 96, 97, 98, 99, 100, 101, 102, 103, 104, 105, 106, 107, 108, 109, 110, 111, 112, 113, 114, 115, 116, 117, 118, 119, 120, 121, 133, 134, 135, 136, 137, 138, 139, 140, 141, 142, 143, 144, 145, 146, 147, 148, 149, 150, 151, 152] (by decide +kernel) (by decide +kernel)
set_option maxRecDepth 20000 in
theorem gX6_advance_X1_tick : GoodIn wsX6_advance (wsV RX6 233 RX1 yX1_tick wsX1_tick) := goodIn_app (goodIn_of _ (by decide +kernel)) ggX6_advance_X1_tick
theorem dX6_advance_0 : decode cX6_advance 0 = .ok (.iconst 0, 1) := by decide +kernel
theorem dX6_advance_1 : decode cX6_advance 1 = .ok (.istore_n 3, 1) := by decide +kernel
theorem dX6_advance_2 : decode cX6_advance 2 = .ok (.iload_n 3, 1) := by decide +kernel
theorem dX6_advance_3 : decode cX6_advance 3 = .ok (.iload_n 2, 1) := by decide +kernel
theorem dX6_advance_4 : decode cX6_advance 4 = .ok (.if_icmp .ge 18, 3) := by decide +kernel
theorem dX6_advance_7 : decode cX6_advance 7 = .ok (.aload_n 1, 1) := by decide +kernel
theorem dX6_advance_8 : decode cX6_advance 8 = .ok (.aload_n 0, 1) := by decide +kernel
theorem dX6_advance_9 : decode cX6_advance 9 = .ok (.getfield 12, 3) := by decide +kernel
theorem dX6_advance_12 : decode cX6_advance 12 = .ok (.iconst 0, 1) := by decide +kernel
theorem dX6_advance_13 : decode cX6_advance 13 = .ok (.invokevirtual 233, 3) := by decide +kernel
theorem dX6_advance_16 : decode cX6_advance 16 = .ok (.iinc 3 1, 3) := by decide +kernel
theorem dX6_advance_19 : decode cX6_advance 19 = .ok (.goto (-17), 3) := by decide +kernel
theorem dX6_advance_22 : decode cX6_advance 22 = .ok (.return_, 1) := by decide +kernel
set_option maxRecDepth 20000 in
theorem ggX6_errorsWith_X3_copy : GoodIn wsX6_errorsWith wsX3_copy := goodIn_r _ [14, 15, 16, 17, 18, 19, 173] (by decide +kernel) (by decide +kernel)
set_option maxRecDepth 20000 in
theorem gX6_errorsWith_X3_copy : GoodIn wsX6_errorsWith (wsV RX6 297 RX3 yX3_copy wsX3_copy) := goodIn_app (goodIn_of _ (by decide +kernel)) ggX6_errorsWith_X3_copy
set_option maxRecDepth 20000 in
theorem ggX6_errorsWith_X3_set : GoodIn wsX6_errorsWith wsX3_set := goodIn_r _ [23, 15, 24, 25, 26, 173] (by decide +kernel) (by decide +kernel)
set_option maxRecDepth 20000 in
theorem gX6_errorsWith_X3_set : GoodIn wsX6_errorsWith (wsV RX6 72 RX3 yX3_set wsX3_set) := goodIn_app (goodIn_of _ (by decide +kernel)) ggX6_errorsWith_X3_set
set_option maxRecDepth 20000 in
theorem ggX6_errorsWith_X1_copy : GoodIn wsX6_errorsWith wsX1_copy := goodIn_r _ [31, 32, 33, 34, 35, 36, 37, 38, 17, 18, 19, 39, 40, 41, 42, 43, 44, 45, 46, 47, 48, 49, 50, 51, 52, 53, 54, 55, 56, 57, 58, 59, 60, 61, 62, 164, 165, 166, 167, 168, 169, 170, 171, 172, 174, 175, 176, 177, 178, 179, 180, 181, 182, 183] (by decide +kernel) (by decide +kernel)
set_option maxRecDepth 20000 in
theorem gX6_errorsWith_X1_copy : GoodIn wsX6_errorsWith (wsV RX6 213 RX1 yX1_copy wsX1_copy) := goodIn_app (goodIn_of _ (by decide +kernel)) ggX6_errorsWith_X1_copy
set_option maxRecDepth 20000 in
theorem ggX6_errorsWith_X1_tick : GoodIn wsX6_errorsWith wsX1_tick := goodIn_r _ [66, 37, 67, 7, 8, 9, 40, 41, 32, 68, 69, 70, 13, 71, 15, 24, 25, 26, 72, 73, 74, 30, 75, 76, 77, 34, 78, 79, 80, 81, 82, 83, 84, 85, 86, 87, 88, 39, 89, 90, 91, 92, 93, 94, 95, 96, 97, 98, 99, 100, 101, 102, 103, 104, 105, 106, 107, 108, 35, 36, 109, 110, 111, 112, 113, 114, 115, 116, 117, 118, 119, 120, 121, 122, 123, 124, 125, 126, 127, 128, 129, 130, 131, 45, 132, 47, 133, 48, 49, 51, 134, 135, 136, 50, 137, 138, 139, 55, 140, 62, 57, 141, 142, 143, 144, 59, 60, 61, 145, 146, 147, 148, 149, 150, 151, 152, 33, 164, 165, 166, 167, 168, 169, 170, 171, 172, 173, 174, 175, 176, 177, 178, 179, 180, 181, 182, 183] (by decide +kernel) (by decide +kernel)
set_option maxRecDepth 20000 in
theorem gX6_errorsWith_X1_tick : GoodIn wsX6_errorsWith (wsV RX6 233 RX1 yX1_tick wsX1_tick) := goodIn_app (goodIn_of _ (by decide +kernel)) ggX6_errorsWith_X1_tick
theorem dX6_errorsWith_0 : decode cX6_errorsWith 0 = .ok (.aload_n 0, 1) := by decide +kernel
theorem dX6_errorsWith_1 : decode cX6_errorsWith 1 = .ok (.getfield 47, 3) := by decide +kernel
theorem dX6_errorsWith_4 : decode cX6_errorsWith 4 = .ok (.aload_n 0, 1) := by decide +kernel
theorem dX6_errorsWith_5 : decode cX6_errorsWith 5 = .ok (.getfield 12, 3) := by decide +kernel
theorem dX6_errorsWith_8 : decode cX6_errorsWith 8 = .ok (.invokevirtual 297, 3) := by decide +kernel
theorem dX6_errorsWith_11 : decode cX6_errorsWith 11 = .ok (.aload_n 0, 1) := by decide +kernel
theorem dX6_errorsWith_12 : decode cX6_errorsWith 12 = .ok (.getfield 47, 3) := by decide +kernel
theorem dX6_errorsWith_15 : decode cX6_errorsWith 15 = .ok (.iconst 0, 1) := by decide +kernel
theorem dX6_errorsWith_16 : decode cX6_errorsWith 16 = .ok (.iload_n 1, 1) := by decide +kernel
theorem dX6_errorsWith_17 : decode cX6_errorsWith 17 = .ok (.invokevirtual 72, 3) := by decide +kernel
theorem dX6_errorsWith_20 : decode cX6_errorsWith 20 = .ok (.aload_n 0, 1) := by decide +kernel
theorem dX6_errorsWith_21 : decode cX6_errorsWith 21 = .ok (.getfield 53, 3) := by decide +kernel
theorem dX6_errorsWith_24 : decode cX6_errorsWith 24 = .ok (.aload_n 0, 1) := by decide +kernel
theorem dX6_errorsWith_25 : decode cX6_errorsWith 25 = .ok (.getfield 33, 3) := by decide +kernel
theorem dX6_errorsWith_28 : decode cX6_errorsWith 28 = .ok (.invokevirtual 213, 3) := by decide +kernel
theorem dX6_errorsWith_31 : decode cX6_errorsWith 31 = .ok (.lconst 0, 1) := by decide +kernel
theorem dX6_errorsWith_32 : decode cX6_errorsWith 32 = .ok (.lstore_n 3, 1) := by decide +kernel
theorem dX6_errorsWith_33 : decode cX6_errorsWith 33 = .ok (.iconst 0, 1) := by decide +kernel
theorem dX6_errorsWith_34 : decode cX6_errorsWith 34 = .ok (.istore 5, 2) := by decide +kernel
theorem dX6_errorsWith_36 : decode cX6_errorsWith 36 = .ok (.iload 5, 2) := by decide +kernel
theorem dX6_errorsWith_38 : decode cX6_errorsWith 38 = .ok (.iload_n 2, 1) := by decide +kernel
theorem dX6_errorsWith_39 : decode cX6_errorsWith 39 = .ok (.if_icmp .ge 47, 3) := by decide +kernel
theorem dX6_errorsWith_42 : decode cX6_errorsWith 42 = .ok (.aload_n 0, 1) := by decide +kernel
theorem dX6_errorsWith_43 : decode cX6_errorsWith 43 = .ok (.getfield 53, 3) := by decide +kernel
theorem dX6_errorsWith_46 : decode cX6_errorsWith 46 = .ok (.aload_n 0, 1) := by decide +kernel
theorem dX6_errorsWith_47 : decode cX6_errorsWith 47 = .ok (.getfield 47, 3) := by decide +kernel
theorem dX6_errorsWith_50 : decode cX6_errorsWith 50 = .ok (.iconst 0, 1) := by decide +kernel
theorem dX6_errorsWith_51 : decode cX6_errorsWith 51 = .ok (.invokevirtual 233, 3) := by decide +kernel
theorem dX6_errorsWith_54 : decode cX6_errorsWith 54 = .ok (.lload_n 3, 1) := by decide +kernel
theorem dX6_errorsWith_55 : decode cX6_errorsWith 55 = .ok (.aload_n 0, 1) := by decide +kernel
theorem dX6_errorsWith_56 : decode cX6_errorsWith 56 = .ok (.getfield 53, 3) := by decide +kernel
theorem dX6_errorsWith_59 : decode cX6_errorsWith 59 = .ok (.getfield 145, 3) := by decide +kernel
theorem dX6_errorsWith_62 : decode cX6_errorsWith 62 = .ok (.iconst 0, 1) := by decide +kernel
theorem dX6_errorsWith_63 : decode cX6_errorsWith 63 = .ok (.iaload, 1) := by decide +kernel
theorem dX6_errorsWith_64 : decode cX6_errorsWith 64 = .ok (.aload_n 0, 1) := by decide +kernel
theorem dX6_errorsWith_65 : decode cX6_errorsWith 65 = .ok (.getfield 53, 3) := by decide +kernel
theorem dX6_errorsWith_68 : decode cX6_errorsWith 68 = .ok (.getfield 145, 3) := by decide +kernel
theorem dX6_errorsWith_71 : decode cX6_errorsWith 71 = .ok (.iconst 1, 1) := by decide +kernel
theorem dX6_errorsWith_72 : decode cX6_errorsWith 72 = .ok (.iaload, 1) := by decide +kernel
theorem dX6_errorsWith_73 : decode cX6_errorsWith 73 = .ok (.isub, 1) := by decide +kernel
theorem dX6_errorsWith_74 : decode cX6_errorsWith 74 = .ok (.invokestatic 206, 3) := by decide +kernel
theorem dX6_errorsWith_77 : decode cX6_errorsWith 77 = .ok (.i2l, 1) := by decide +kernel
theorem dX6_errorsWith_78 : decode cX6_errorsWith 78 = .ok (.ladd, 1) := by decide +kernel
theorem dX6_errorsWith_79 : decode cX6_errorsWith 79 = .ok (.lstore_n 3, 1) := by decide +kernel
theorem dX6_errorsWith_80 : decode cX6_errorsWith 80 = .ok (.iinc 5 1, 3) := by decide +kernel
theorem dX6_errorsWith_83 : decode cX6_errorsWith 83 = .ok (.goto (-47), 3) := by decide +kernel
theorem dX6_errorsWith_86 : decode cX6_errorsWith 86 = .ok (.lload_n 3, 1) := by decide +kernel
theorem dX6_errorsWith_87 : decode cX6_errorsWith 87 = .ok (.lreturn, 1) := by decide +kernel
set_option maxRecDepth 20000 in
theorem ggX6_prepareIdeal_X3_copy : GoodIn wsX6_prepareIdeal wsX3_copy := goodIn_r _ [12, 13, 14, 15, 16, 17, 73] (by decide +kernel) (by decide +kernel)
set_option maxRecDepth 20000 in
theorem gX6_prepareIdeal_X3_copy : GoodIn wsX6_prepareIdeal (wsV RX6 297 RX3 yX3_copy wsX3_copy) := goodIn_app (goodIn_of _ (by decide +kernel)) ggX6_prepareIdeal_X3_copy
set_option maxRecDepth 20000 in
theorem ggX6_prepareIdeal_X3_set : GoodIn wsX6_prepareIdeal wsX3_set := goodIn_r _ [21, 13, 22, 23, 24, 73] (by decide +kernel) (by decide +kernel)
set_option maxRecDepth 20000 in
theorem gX6_prepareIdeal_X3_set : GoodIn wsX6_prepareIdeal (wsV RX6 72 RX3 yX3_set wsX3_set) := goodIn_app (goodIn_of _ (by decide +kernel)) ggX6_prepareIdeal_X3_set
set_option maxRecDepth 20000 in
theorem ggX6_prepareIdeal_X1_begin : GoodIn wsX6_prepareIdeal wsX1_begin := goodIn_r _ [29, 30, 31, 32, 33, 34, 35, 36, 37, 38, 39, 40, 41, 42, 43, 44, 45, 46, 47, 48, 64, 65, 66, 67, 68, 69, 70, 71, 72, 74, 75, 76, 77, 78, 79, 80, 81, 82, 83] (by decide +kernel) (by decide +kernel)
set_option maxRecDepth 20000 in
theorem gX6_prepareIdeal_X1_begin : GoodIn wsX6_prepareIdeal (wsV RX6 153 RX1 yX1_begin wsX1_begin) := goodIn_app (goodIn_of _ (by decide +kernel)) ggX6_prepareIdeal_X1_begin
set_option maxRecDepth 20000 in
theorem ggX6_prepareIdeal_X1_changeSetpoint : GoodIn wsX6_prepareIdeal wsX1_changeSetpoint := goodIn_r _ [52, 35, 36, 39, 40, 41, 42, 43, 44, 45, 46, 47, 48, 64, 65, 66, 67, 68, 69, 70, 71, 72, 79, 80, 81, 82, 83] (by decide +kernel) (by decide +kernel)
set_option maxRecDepth 20000 in
theorem gX6_prepareIdeal_X1_changeSetpoint : GoodIn wsX6_prepareIdeal (wsV RX6 105 RX1 yX1_changeSetpoint wsX1_changeSetpoint) := goodIn_app (goodIn_of _ (by decide +kernel)) ggX6_prepareIdeal_X1_changeSetpoint
theorem dX6_prepareIdeal_0 : decode cX6_prepareIdeal 0 = .ok (.aload_n 0, 1) := by decide +kernel
theorem dX6_prepareIdeal_1 : decode cX6_prepareIdeal 1 = .ok (.getfield 47, 3) := by decide +kernel
theorem dX6_prepareIdeal_4 : decode cX6_prepareIdeal 4 = .ok (.aload_n 0, 1) := by decide +kernel
theorem dX6_prepareIdeal_5 : decode cX6_prepareIdeal 5 = .ok (.getfield 12, 3) := by decide +kernel
theorem dX6_prepareIdeal_8 : decode cX6_prepareIdeal 8 = .ok (.invokevirtual 297, 3) := by decide +kernel
theorem dX6_prepareIdeal_11 : decode cX6_prepareIdeal 11 = .ok (.aload_n 0, 1) := by decide +kernel
theorem dX6_prepareIdeal_12 : decode cX6_prepareIdeal 12 = .ok (.getfield 47, 3) := by decide +kernel
theorem dX6_prepareIdeal_15 : decode cX6_prepareIdeal 15 = .ok (.bipush 14, 2) := by decide +kernel
theorem dX6_prepareIdeal_17 : decode cX6_prepareIdeal 17 = .ok (.iconst 0, 1) := by decide +kernel
theorem dX6_prepareIdeal_18 : decode cX6_prepareIdeal 18 = .ok (.invokevirtual 72, 3) := by decide +kernel
theorem dX6_prepareIdeal_21 : decode cX6_prepareIdeal 21 = .ok (.aload_n 0, 1) := by decide +kernel
theorem dX6_prepareIdeal_22 : decode cX6_prepareIdeal 22 = .ok (.getfield 50, 3) := by decide +kernel
theorem dX6_prepareIdeal_25 : decode cX6_prepareIdeal 25 = .ok (.aload_n 0, 1) := by decide +kernel
theorem dX6_prepareIdeal_26 : decode cX6_prepareIdeal 26 = .ok (.getfield 47, 3) := by decide +kernel
theorem dX6_prepareIdeal_29 : decode cX6_prepareIdeal 29 = .ok (.invokevirtual 297, 3) := by decide +kernel
theorem dX6_prepareIdeal_32 : decode cX6_prepareIdeal 32 = .ok (.aload_n 0, 1) := by decide +kernel
theorem dX6_prepareIdeal_33 : decode cX6_prepareIdeal 33 = .ok (.getfield 50, 3) := by decide +kernel
theorem dX6_prepareIdeal_36 : decode cX6_prepareIdeal 36 = .ok (.iconst 4, 1) := by decide +kernel
theorem dX6_prepareIdeal_37 : decode cX6_prepareIdeal 37 = .ok (.iconst 0, 1) := by decide +kernel
theorem dX6_prepareIdeal_38 : decode cX6_prepareIdeal 38 = .ok (.invokevirtual 72, 3) := by decide +kernel
theorem dX6_prepareIdeal_41 : decode cX6_prepareIdeal 41 = .ok (.aload_n 0, 1) := by decide +kernel
theorem dX6_prepareIdeal_42 : decode cX6_prepareIdeal 42 = .ok (.getfield 53, 3) := by decide +kernel
theorem dX6_prepareIdeal_45 : decode cX6_prepareIdeal 45 = .ok (.invokevirtual 153, 3) := by decide +kernel
theorem dX6_prepareIdeal_48 : decode cX6_prepareIdeal 48 = .ok (.aload_n 0, 1) := by decide +kernel
theorem dX6_prepareIdeal_49 : decode cX6_prepareIdeal 49 = .ok (.getfield 53, 3) := by decide +kernel
theorem dX6_prepareIdeal_52 : decode cX6_prepareIdeal 52 = .ok (.aload_n 0, 1) := by decide +kernel
theorem dX6_prepareIdeal_53 : decode cX6_prepareIdeal 53 = .ok (.getfield 33, 3) := by decide +kernel
theorem dX6_prepareIdeal_56 : decode cX6_prepareIdeal 56 = .ok (.getfield 145, 3) := by decide +kernel
theorem dX6_prepareIdeal_59 : decode cX6_prepareIdeal 59 = .ok (.iconst 0, 1) := by decide +kernel
theorem dX6_prepareIdeal_60 : decode cX6_prepareIdeal 60 = .ok (.iaload, 1) := by decide +kernel
theorem dX6_prepareIdeal_61 : decode cX6_prepareIdeal 61 = .ok (.invokevirtual 105, 3) := by decide +kernel
theorem dX6_prepareIdeal_64 : decode cX6_prepareIdeal 64 = .ok (.pop, 1) := by decide +kernel
theorem dX6_prepareIdeal_65 : decode cX6_prepareIdeal 65 = .ok (.aload_n 0, 1) := by decide +kernel
theorem dX6_prepareIdeal_66 : decode cX6_prepareIdeal 66 = .ok (.getfield 56, 3) := by decide +kernel
theorem dX6_prepareIdeal_69 : decode cX6_prepareIdeal 69 = .ok (.invokevirtual 153, 3) := by decide +kernel
theorem dX6_prepareIdeal_72 : decode cX6_prepareIdeal 72 = .ok (.aload_n 0, 1) := by decide +kernel
theorem dX6_prepareIdeal_73 : decode cX6_prepareIdeal 73 = .ok (.getfield 56, 3) := by decide +kernel
theorem dX6_prepareIdeal_76 : decode cX6_prepareIdeal 76 = .ok (.aload_n 0, 1) := by decide +kernel
theorem dX6_prepareIdeal_77 : decode cX6_prepareIdeal 77 = .ok (.getfield 33, 3) := by decide +kernel
theorem dX6_prepareIdeal_80 : decode cX6_prepareIdeal 80 = .ok (.getfield 145, 3) := by decide +kernel
theorem dX6_prepareIdeal_83 : decode cX6_prepareIdeal 83 = .ok (.iconst 0, 1) := by decide +kernel
theorem dX6_prepareIdeal_84 : decode cX6_prepareIdeal 84 = .ok (.iaload, 1) := by decide +kernel
theorem dX6_prepareIdeal_85 : decode cX6_prepareIdeal 85 = .ok (.invokevirtual 105, 3) := by decide +kernel
theorem dX6_prepareIdeal_88 : decode cX6_prepareIdeal 88 = .ok (.pop, 1) := by decide +kernel
theorem dX6_prepareIdeal_89 : decode cX6_prepareIdeal 89 = .ok (.return_, 1) := by decide +kernel
theorem dX6_difference_0 : decode cX6_difference 0 = .ok (.aload_n 0, 1) := by decide +kernel
theorem dX6_difference_1 : decode cX6_difference 1 = .ok (.getfield 53, 3) := by decide +kernel
theorem dX6_difference_4 : decode cX6_difference 4 = .ok (.getfield 145, 3) := by decide +kernel
theorem dX6_difference_7 : decode cX6_difference 7 = .ok (.bipush 8, 2) := by decide +kernel
theorem dX6_difference_9 : decode cX6_difference 9 = .ok (.iaload, 1) := by decide +kernel
theorem dX6_difference_10 : decode cX6_difference 10 = .ok (.aload_n 0, 1) := by decide +kernel
theorem dX6_difference_11 : decode cX6_difference 11 = .ok (.getfield 56, 3) := by decide +kernel
theorem dX6_difference_14 : decode cX6_difference 14 = .ok (.getfield 145, 3) := by decide +kernel
theorem dX6_difference_17 : decode cX6_difference 17 = .ok (.bipush 8, 2) := by decide +kernel
theorem dX6_difference_19 : decode cX6_difference 19 = .ok (.iaload, 1) := by decide +kernel
theorem dX6_difference_20 : decode cX6_difference 20 = .ok (.isub, 1) := by decide +kernel
theorem dX6_difference_21 : decode cX6_difference 21 = .ok (.invokestatic 206, 3) := by decide +kernel
theorem dX6_difference_24 : decode cX6_difference 24 = .ok (.ireturn, 1) := by decide +kernel

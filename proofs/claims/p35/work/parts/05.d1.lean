set_option maxRecDepth 20000 in
theorem ggX1_init_X2_init : GoodIn wsX1_init wsX2_init := goodIn_r _ [22, 23, 2, 3, 24, 25, 26, 27, 28, 47, 48, 49, 50, 51] (by decide +kernel) (by decide +kernel)
set_option maxRecDepth 20000 in
theorem gX1_init_X2_init : GoodIn wsX1_init (wsX2_init) := ggX1_init_X2_init
set_option maxRecDepth 20000 in
theorem ggX1_init_X5_init : GoodIn wsX1_init wsX5_init := goodIn_r _ [31, 32, 2, 3, 9, 33, 34, 35, 36, 37, 52, 53, 54, 55, 56] (by decide +kernel) (by decide +kernel)
set_option maxRecDepth 20000 in
theorem gX1_init_X5_init : GoodIn wsX1_init (wsX5_init) := ggX1_init_X5_init
theorem dX1_init_0 : decode cX1_init 0 = .ok (.aload_n 0, 1) := by decide +kernel
theorem dX1_init_1 : decode cX1_init 1 = .ok (.invokespecial 3, 3) := by decide +kernel
theorem dX1_init_4 : decode cX1_init 4 = .ok (.aload_n 0, 1) := by decide +kernel
theorem dX1_init_5 : decode cX1_init 5 = .ok (.iconst 0, 1) := by decide +kernel
theorem dX1_init_6 : decode cX1_init 6 = .ok (.putfield 9, 3) := by decide +kernel
theorem dX1_init_9 : decode cX1_init 9 = .ok (.aload_n 0, 1) := by decide +kernel
theorem dX1_init_10 : decode cX1_init 10 = .ok (.iconst 0, 1) := by decide +kernel
theorem dX1_init_11 : decode cX1_init 11 = .ok (.putfield 15, 3) := by decide +kernel
theorem dX1_init_14 : decode cX1_init 14 = .ok (.aload_n 0, 1) := by decide +kernel
theorem dX1_init_15 : decode cX1_init 15 = .ok (.iconst 0, 1) := by decide +kernel
theorem dX1_init_16 : decode cX1_init 16 = .ok (.putfield 18, 3) := by decide +kernel
theorem dX1_init_19 : decode cX1_init 19 = .ok (.aload_n 0, 1) := by decide +kernel
theorem dX1_init_20 : decode cX1_init 20 = .ok (.iconst 0, 1) := by decide +kernel
theorem dX1_init_21 : decode cX1_init 21 = .ok (.putfield 21, 3) := by decide +kernel
theorem dX1_init_24 : decode cX1_init 24 = .ok (.aload_n 0, 1) := by decide +kernel
theorem dX1_init_25 : decode cX1_init 25 = .ok (.iconst 0, 1) := by decide +kernel
theorem dX1_init_26 : decode cX1_init 26 = .ok (.putfield 24, 3) := by decide +kernel
theorem dX1_init_29 : decode cX1_init 29 = .ok (.aload_n 0, 1) := by decide +kernel
theorem dX1_init_30 : decode cX1_init 30 = .ok (.bipush 10, 2) := by decide +kernel
theorem dX1_init_32 : decode cX1_init 32 = .ok (.newarray .int, 2) := by decide +kernel
theorem dX1_init_34 : decode cX1_init 34 = .ok (.putfield 27, 3) := by decide +kernel
theorem dX1_init_37 : decode cX1_init 37 = .ok (.aload_n 0, 1) := by decide +kernel
theorem dX1_init_38 : decode cX1_init 38 = .ok (.sipush 640, 3) := by decide +kernel
theorem dX1_init_41 : decode cX1_init 41 = .ok (.newarray .int, 2) := by decide +kernel
theorem dX1_init_43 : decode cX1_init 43 = .ok (.putfield 31, 3) := by decide +kernel
theorem dX1_init_46 : decode cX1_init 46 = .ok (.aload_n 0, 1) := by decide +kernel
theorem dX1_init_47 : decode cX1_init 47 = .ok (.new 34, 3) := by decide +kernel
theorem dX1_init_50 : decode cX1_init 50 = .ok (.dup, 1) := by decide +kernel
theorem dX1_init_51 : decode cX1_init 51 = .ok (.invokespecial 36, 3) := by decide +kernel
theorem dX1_init_54 : decode cX1_init 54 = .ok (.putfield 37, 3) := by decide +kernel
theorem dX1_init_57 : decode cX1_init 57 = .ok (.aload_n 0, 1) := by decide +kernel
theorem dX1_init_58 : decode cX1_init 58 = .ok (.new 41, 3) := by decide +kernel
theorem dX1_init_61 : decode cX1_init 61 = .ok (.dup, 1) := by decide +kernel
theorem dX1_init_62 : decode cX1_init 62 = .ok (.invokespecial 43, 3) := by decide +kernel
theorem dX1_init_65 : decode cX1_init 65 = .ok (.putfield 44, 3) := by decide +kernel
theorem dX1_init_68 : decode cX1_init 68 = .ok (.return_, 1) := by decide +kernel
set_option maxRecDepth 20000 in
theorem ggX1_begin_X2_begin : GoodIn wsX1_begin wsX2_begin := goodIn_r _ [14, 15, 16, 17, 18, 19, 34, 35, 36, 37, 38] (by decide +kernel) (by decide +kernel)
set_option maxRecDepth 20000 in
theorem gX1_begin_X2_begin : GoodIn wsX1_begin (wsV RX1 48 RX2 yX2_begin wsX2_begin) := goodIn_app (goodIn_of _ (by decide +kernel)) ggX1_begin_X2_begin
theorem dX1_begin_0 : decode cX1_begin 0 = .ok (.aload_n 0, 1) := by decide +kernel
theorem dX1_begin_1 : decode cX1_begin 1 = .ok (.iconst 0, 1) := by decide +kernel
theorem dX1_begin_2 : decode cX1_begin 2 = .ok (.putfield 9, 3) := by decide +kernel
theorem dX1_begin_5 : decode cX1_begin 5 = .ok (.aload_n 0, 1) := by decide +kernel
theorem dX1_begin_6 : decode cX1_begin 6 = .ok (.iconst 0, 1) := by decide +kernel
theorem dX1_begin_7 : decode cX1_begin 7 = .ok (.putfield 15, 3) := by decide +kernel
theorem dX1_begin_10 : decode cX1_begin 10 = .ok (.aload_n 0, 1) := by decide +kernel
theorem dX1_begin_11 : decode cX1_begin 11 = .ok (.iconst 0, 1) := by decide +kernel
theorem dX1_begin_12 : decode cX1_begin 12 = .ok (.putfield 18, 3) := by decide +kernel
theorem dX1_begin_15 : decode cX1_begin 15 = .ok (.aload_n 0, 1) := by decide +kernel
theorem dX1_begin_16 : decode cX1_begin 16 = .ok (.iconst 0, 1) := by decide +kernel
theorem dX1_begin_17 : decode cX1_begin 17 = .ok (.putfield 21, 3) := by decide +kernel
theorem dX1_begin_20 : decode cX1_begin 20 = .ok (.aload_n 0, 1) := by decide +kernel
theorem dX1_begin_21 : decode cX1_begin 21 = .ok (.iconst 0, 1) := by decide +kernel
theorem dX1_begin_22 : decode cX1_begin 22 = .ok (.putfield 24, 3) := by decide +kernel
theorem dX1_begin_25 : decode cX1_begin 25 = .ok (.iconst 0, 1) := by decide +kernel
theorem dX1_begin_26 : decode cX1_begin 26 = .ok (.istore_n 1, 1) := by decide +kernel
theorem dX1_begin_27 : decode cX1_begin 27 = .ok (.iload_n 1, 1) := by decide +kernel
theorem dX1_begin_28 : decode cX1_begin 28 = .ok (.bipush 10, 2) := by decide +kernel
theorem dX1_begin_30 : decode cX1_begin 30 = .ok (.if_icmp .ge 16, 3) := by decide +kernel
theorem dX1_begin_33 : decode cX1_begin 33 = .ok (.aload_n 0, 1) := by decide +kernel
theorem dX1_begin_34 : decode cX1_begin 34 = .ok (.getfield 27, 3) := by decide +kernel
theorem dX1_begin_37 : decode cX1_begin 37 = .ok (.iload_n 1, 1) := by decide +kernel
theorem dX1_begin_38 : decode cX1_begin 38 = .ok (.iconst 0, 1) := by decide +kernel
theorem dX1_begin_39 : decode cX1_begin 39 = .ok (.iastore, 1) := by decide +kernel
theorem dX1_begin_40 : decode cX1_begin 40 = .ok (.iinc 1 1, 3) := by decide +kernel
theorem dX1_begin_43 : decode cX1_begin 43 = .ok (.goto (-16), 3) := by decide +kernel
theorem dX1_begin_46 : decode cX1_begin 46 = .ok (.aload_n 0, 1) := by decide +kernel
theorem dX1_begin_47 : decode cX1_begin 47 = .ok (.getfield 37, 3) := by decide +kernel
theorem dX1_begin_50 : decode cX1_begin 50 = .ok (.iconst 1, 1) := by decide +kernel
theorem dX1_begin_51 : decode cX1_begin 51 = .ok (.invokevirtual 48, 3) := by decide +kernel
theorem dX1_begin_54 : decode cX1_begin 54 = .ok (.aload_n 0, 1) := by decide +kernel
theorem dX1_begin_55 : decode cX1_begin 55 = .ok (.getfield 44, 3) := by decide +kernel
theorem dX1_begin_58 : decode cX1_begin 58 = .ok (.iconst 0, 1) := by decide +kernel
theorem dX1_begin_59 : decode cX1_begin 59 = .ok (.putfield 52, 3) := by decide +kernel
theorem dX1_begin_62 : decode cX1_begin 62 = .ok (.return_, 1) := by decide +kernel
set_option maxRecDepth 20000 in
theorem ggX1_copy_X2_copy : GoodIn wsX1_copy wsX2_copy := goodIn_r _ [18, 19, 20, 21, 22, 23, 44, 45, 46, 47, 48] (by decide +kernel) (by decide +kernel)
set_option maxRecDepth 20000 in
theorem gX1_copy_X2_copy : GoodIn wsX1_copy (wsV RX1 61 RX2 yX2_copy wsX2_copy) := goodIn_app (goodIn_of _ (by decide +kernel)) ggX1_copy_X2_copy
set_option maxRecDepth 20000 in
theorem ggX1_copy_X5_copy : GoodIn wsX1_copy wsX5_copy := goodIn_r _ [28, 29, 30, 8, 9, 10, 31, 32, 33, 34, 49, 50, 51, 52, 53] (by decide +kernel) (by decide +kernel)
set_option maxRecDepth 20000 in
theorem gX1_copy_X5_copy : GoodIn wsX1_copy (wsV RX1 65 RX5 yX5_copy wsX5_copy) := goodIn_app (goodIn_of _ (by decide +kernel)) ggX1_copy_X5_copy
theorem dX1_copy_0 : decode cX1_copy 0 = .ok (.aload_n 0, 1) := by decide +kernel
theorem dX1_copy_1 : decode cX1_copy 1 = .ok (.aload_n 1, 1) := by decide +kernel
theorem dX1_copy_2 : decode cX1_copy 2 = .ok (.getfield 9, 3) := by decide +kernel
theorem dX1_copy_5 : decode cX1_copy 5 = .ok (.putfield 9, 3) := by decide +kernel
theorem dX1_copy_8 : decode cX1_copy 8 = .ok (.aload_n 0, 1) := by decide +kernel
theorem dX1_copy_9 : decode cX1_copy 9 = .ok (.aload_n 1, 1) := by decide +kernel
theorem dX1_copy_10 : decode cX1_copy 10 = .ok (.getfield 15, 3) := by decide +kernel
theorem dX1_copy_13 : decode cX1_copy 13 = .ok (.putfield 15, 3) := by decide +kernel
theorem dX1_copy_16 : decode cX1_copy 16 = .ok (.aload_n 0, 1) := by decide +kernel
theorem dX1_copy_17 : decode cX1_copy 17 = .ok (.aload_n 1, 1) := by decide +kernel
theorem dX1_copy_18 : decode cX1_copy 18 = .ok (.getfield 18, 3) := by decide +kernel
theorem dX1_copy_21 : decode cX1_copy 21 = .ok (.putfield 18, 3) := by decide +kernel
theorem dX1_copy_24 : decode cX1_copy 24 = .ok (.aload_n 0, 1) := by decide +kernel
theorem dX1_copy_25 : decode cX1_copy 25 = .ok (.aload_n 1, 1) := by decide +kernel
theorem dX1_copy_26 : decode cX1_copy 26 = .ok (.getfield 21, 3) := by decide +kernel
theorem dX1_copy_29 : decode cX1_copy 29 = .ok (.putfield 21, 3) := by decide +kernel
theorem dX1_copy_32 : decode cX1_copy 32 = .ok (.aload_n 0, 1) := by decide +kernel
theorem dX1_copy_33 : decode cX1_copy 33 = .ok (.aload_n 1, 1) := by decide +kernel
theorem dX1_copy_34 : decode cX1_copy 34 = .ok (.getfield 24, 3) := by decide +kernel
theorem dX1_copy_37 : decode cX1_copy 37 = .ok (.putfield 24, 3) := by decide +kernel
theorem dX1_copy_40 : decode cX1_copy 40 = .ok (.aload_n 1, 1) := by decide +kernel
theorem dX1_copy_41 : decode cX1_copy 41 = .ok (.getfield 27, 3) := by decide +kernel
theorem dX1_copy_44 : decode cX1_copy 44 = .ok (.iconst 0, 1) := by decide +kernel
theorem dX1_copy_45 : decode cX1_copy 45 = .ok (.aload_n 0, 1) := by decide +kernel
theorem dX1_copy_46 : decode cX1_copy 46 = .ok (.getfield 27, 3) := by decide +kernel
theorem dX1_copy_49 : decode cX1_copy 49 = .ok (.iconst 0, 1) := by decide +kernel
theorem dX1_copy_50 : decode cX1_copy 50 = .ok (.bipush 10, 2) := by decide +kernel
theorem dX1_copy_52 : decode cX1_copy 52 = .ok (.invokestatic 55, 3) := by decide +kernel
theorem dX1_copy_55 : decode cX1_copy 55 = .ok (.aload_n 1, 1) := by decide +kernel
theorem dX1_copy_56 : decode cX1_copy 56 = .ok (.getfield 31, 3) := by decide +kernel
theorem dX1_copy_59 : decode cX1_copy 59 = .ok (.iconst 0, 1) := by decide +kernel
theorem dX1_copy_60 : decode cX1_copy 60 = .ok (.aload_n 0, 1) := by decide +kernel
theorem dX1_copy_61 : decode cX1_copy 61 = .ok (.getfield 31, 3) := by decide +kernel
theorem dX1_copy_64 : decode cX1_copy 64 = .ok (.iconst 0, 1) := by decide +kernel
theorem dX1_copy_65 : decode cX1_copy 65 = .ok (.sipush 640, 3) := by decide +kernel
theorem dX1_copy_68 : decode cX1_copy 68 = .ok (.invokestatic 55, 3) := by decide +kernel
theorem dX1_copy_71 : decode cX1_copy 71 = .ok (.aload_n 0, 1) := by decide +kernel
theorem dX1_copy_72 : decode cX1_copy 72 = .ok (.getfield 37, 3) := by decide +kernel
theorem dX1_copy_75 : decode cX1_copy 75 = .ok (.aload_n 1, 1) := by decide +kernel
theorem dX1_copy_76 : decode cX1_copy 76 = .ok (.getfield 37, 3) := by decide +kernel
theorem dX1_copy_79 : decode cX1_copy 79 = .ok (.invokevirtual 61, 3) := by decide +kernel
theorem dX1_copy_82 : decode cX1_copy 82 = .ok (.aload_n 0, 1) := by decide +kernel
theorem dX1_copy_83 : decode cX1_copy 83 = .ok (.getfield 44, 3) := by decide +kernel
theorem dX1_copy_86 : decode cX1_copy 86 = .ok (.aload_n 1, 1) := by decide +kernel
theorem dX1_copy_87 : decode cX1_copy 87 = .ok (.getfield 44, 3) := by decide +kernel
theorem dX1_copy_90 : decode cX1_copy 90 = .ok (.invokevirtual 65, 3) := by decide +kernel
theorem dX1_copy_93 : decode cX1_copy 93 = .ok (.return_, 1) := by decide +kernel
set_option maxRecDepth 20000 in
theorem ggX1_changeSetpoint_X2_begin : GoodIn wsX1_changeSetpoint wsX2_begin := goodIn_r _ [7, 8, 9, 10, 11, 12, 22, 23, 24, 25, 26] (by decide +kernel) (by decide +kernel)
set_option maxRecDepth 20000 in
theorem gX1_changeSetpoint_X2_begin : GoodIn wsX1_changeSetpoint (wsV RX1 48 RX2 yX2_begin wsX2_begin) := goodIn_app (goodIn_of _ (by decide +kernel)) ggX1_changeSetpoint_X2_begin
theorem dX1_changeSetpoint_0 : decode cX1_changeSetpoint 0 = .ok (.aload_n 0, 1) := by decide +kernel
theorem dX1_changeSetpoint_1 : decode cX1_changeSetpoint 1 = .ok (.getfield 27, 3) := by decide +kernel
theorem dX1_changeSetpoint_4 : decode cX1_changeSetpoint 4 = .ok (.iconst 0, 1) := by decide +kernel
theorem dX1_changeSetpoint_5 : decode cX1_changeSetpoint 5 = .ok (.iaload, 1) := by decide +kernel
theorem dX1_changeSetpoint_6 : decode cX1_changeSetpoint 6 = .ok (.istore_n 2, 1) := by decide +kernel
theorem dX1_changeSetpoint_7 : decode cX1_changeSetpoint 7 = .ok (.aload_n 0, 1) := by decide +kernel
theorem dX1_changeSetpoint_8 : decode cX1_changeSetpoint 8 = .ok (.getfield 27, 3) := by decide +kernel
theorem dX1_changeSetpoint_11 : decode cX1_changeSetpoint 11 = .ok (.iconst 0, 1) := by decide +kernel
theorem dX1_changeSetpoint_12 : decode cX1_changeSetpoint 12 = .ok (.iload_n 1, 1) := by decide +kernel
theorem dX1_changeSetpoint_13 : decode cX1_changeSetpoint 13 = .ok (.iastore, 1) := by decide +kernel
theorem dX1_changeSetpoint_14 : decode cX1_changeSetpoint 14 = .ok (.aload_n 0, 1) := by decide +kernel
theorem dX1_changeSetpoint_15 : decode cX1_changeSetpoint 15 = .ok (.getfield 37, 3) := by decide +kernel
theorem dX1_changeSetpoint_18 : decode cX1_changeSetpoint 18 = .ok (.iload_n 1, 1) := by decide +kernel
theorem dX1_changeSetpoint_19 : decode cX1_changeSetpoint 19 = .ok (.iload_n 2, 1) := by decide +kernel
theorem dX1_changeSetpoint_20 : decode cX1_changeSetpoint 20 = .ok (.if_icmp .lt 7, 3) := by decide +kernel
theorem dX1_changeSetpoint_23 : decode cX1_changeSetpoint 23 = .ok (.iconst 1, 1) := by decide +kernel
theorem dX1_changeSetpoint_24 : decode cX1_changeSetpoint 24 = .ok (.goto 4, 3) := by decide +kernel
theorem dX1_changeSetpoint_27 : decode cX1_changeSetpoint 27 = .ok (.iconst 0, 1) := by decide +kernel
theorem dX1_changeSetpoint_28 : decode cX1_changeSetpoint 28 = .ok (.invokevirtual 48, 3) := by decide +kernel
theorem dX1_changeSetpoint_31 : decode cX1_changeSetpoint 31 = .ok (.iload_n 2, 1) := by decide +kernel
theorem dX1_changeSetpoint_32 : decode cX1_changeSetpoint 32 = .ok (.ireturn, 1) := by decide +kernel
set_option maxRecDepth 20000 in
theorem ggX1_recordOf_X6_isSignal : GoodIn wsX1_recordOf wsX6_isSignal := goodIn_r _ [5] (by decide +kernel) (by decide +kernel)
set_option maxRecDepth 20000 in
theorem gX1_recordOf_X6_isSignal_n68 : GoodIn wsX1_recordOf (wsX6_isSignal) := ggX1_recordOf_X6_isSignal
set_option maxRecDepth 20000 in
theorem ggX1_recordOf_J9_floorMod_7cf53 : GoodIn wsX1_recordOf wsJ9_floorMod_7cf53 := goodIn_r _ [9] (by decide +kernel) (by decide +kernel)
set_option maxRecDepth 20000 in
theorem gX1_recordOf_J9_floorMod_7cf53 : GoodIn wsX1_recordOf (va_wsS RX1 72 yJ9_floorMod_7cf53 wsJ9_floorMod_7cf53) := goodIn_app (goodIn_of _ (by decide +kernel)) ggX1_recordOf_J9_floorMod_7cf53
theorem dX1_recordOf_0 : decode cX1_recordOf 0 = .ok (.iload_n 1, 1) := by decide +kernel
theorem dX1_recordOf_1 : decode cX1_recordOf 1 = .ok (.invokestatic 68, 3) := by decide +kernel
theorem dX1_recordOf_4 : decode cX1_recordOf 4 = .ok (.ifCond .eq 26, 3) := by decide +kernel
theorem dX1_recordOf_7 : decode cX1_recordOf 7 = .ok (.iload_n 2, 1) := by decide +kernel
theorem dX1_recordOf_8 : decode cX1_recordOf 8 = .ok (.ifCond .lt 22, 3) := by decide +kernel
theorem dX1_recordOf_11 : decode cX1_recordOf 11 = .ok (.iload_n 2, 1) := by decide +kernel
theorem dX1_recordOf_12 : decode cX1_recordOf 12 = .ok (.aload_n 0, 1) := by decide +kernel
theorem dX1_recordOf_13 : decode cX1_recordOf 13 = .ok (.getfield 9, 3) := by decide +kernel
theorem dX1_recordOf_16 : decode cX1_recordOf 16 = .ok (.if_icmp .ge 14, 3) := by decide +kernel
theorem dX1_recordOf_19 : decode cX1_recordOf 19 = .ok (.iload_n 2, 1) := by decide +kernel
theorem dX1_recordOf_20 : decode cX1_recordOf 20 = .ok (.aload_n 0, 1) := by decide +kernel
theorem dX1_recordOf_21 : decode cX1_recordOf 21 = .ok (.getfield 9, 3) := by decide +kernel
theorem dX1_recordOf_24 : decode cX1_recordOf 24 = .ok (.bipush 64, 2) := by decide +kernel
theorem dX1_recordOf_26 : decode cX1_recordOf 26 = .ok (.isub, 1) := by decide +kernel
theorem dX1_recordOf_27 : decode cX1_recordOf 27 = .ok (.if_icmp .ge 5, 3) := by decide +kernel
theorem dX1_recordOf_30 : decode cX1_recordOf 30 = .ok (.iconst 0, 1) := by decide +kernel
theorem dX1_recordOf_31 : decode cX1_recordOf 31 = .ok (.ireturn, 1) := by decide +kernel
theorem dX1_recordOf_32 : decode cX1_recordOf 32 = .ok (.aload_n 0, 1) := by decide +kernel
theorem dX1_recordOf_33 : decode cX1_recordOf 33 = .ok (.getfield 31, 3) := by decide +kernel
theorem dX1_recordOf_36 : decode cX1_recordOf 36 = .ok (.iload_n 1, 1) := by decide +kernel
theorem dX1_recordOf_37 : decode cX1_recordOf 37 = .ok (.bipush 64, 2) := by decide +kernel
theorem dX1_recordOf_39 : decode cX1_recordOf 39 = .ok (.imul, 1) := by decide +kernel
theorem dX1_recordOf_40 : decode cX1_recordOf 40 = .ok (.iload_n 2, 1) := by decide +kernel
theorem dX1_recordOf_41 : decode cX1_recordOf 41 = .ok (.bipush 64, 2) := by decide +kernel
theorem dX1_recordOf_43 : decode cX1_recordOf 43 = .ok (.invokestatic 72, 3) := by decide +kernel
theorem dX1_recordOf_46 : decode cX1_recordOf 46 = .ok (.iadd, 1) := by decide +kernel
theorem dX1_recordOf_47 : decode cX1_recordOf 47 = .ok (.iaload, 1) := by decide +kernel
theorem dX1_recordOf_48 : decode cX1_recordOf 48 = .ok (.ireturn, 1) := by decide +kernel
set_option maxRecDepth 20000 in
theorem ggX1_tick_X3_get : GoodIn wsX1_tick wsX3_get := goodIn_r _ [13, 14, 15, 16, 17, 126] (by decide +kernel) (by decide +kernel)
set_option maxRecDepth 20000 in
theorem gX1_tick_X3_get : GoodIn wsX1_tick (wsV RX1 84 RX3 yX3_get wsX3_get) := goodIn_app (goodIn_of _ (by decide +kernel)) ggX1_tick_X3_get
set_option maxRecDepth 20000 in
theorem ggX1_tick_X1_noise : GoodIn wsX1_tick wsX1_noise := goodIn_r _ [22, 23, 8, 24, 25, 26, 27, 117, 118, 119, 120, 121, 122, 123, 124, 125] (by decide +kernel) (by decide +kernel)
set_option maxRecDepth 20000 in
theorem gX1_tick_X1_noise : GoodIn wsX1_tick (wsV RX1 90 RX1 yX1_noise wsX1_noise) := goodIn_app (goodIn_of _ (by decide +kernel)) ggX1_tick_X1_noise
set_option maxRecDepth 20000 in
theorem ggX1_tick_X1_delayed : GoodIn wsX1_tick wsX1_delayed := goodIn_r _ [31, 8, 32, 33, 34, 35, 21, 36, 37, 38, 16, 39, 40, 41, 42, 43, 44, 45, 46, 117, 118, 119, 120, 121, 122, 123, 124, 125] (by decide +kernel) (by decide +kernel)
set_option maxRecDepth 20000 in
theorem gX1_tick_X1_delayed : GoodIn wsX1_tick (wsV RX1 93 RX1 yX1_delayed wsX1_delayed) := goodIn_app (goodIn_of _ (by decide +kernel)) ggX1_tick_X1_delayed
set_option maxRecDepth 20000 in
theorem ggX1_tick_X6_stepped : GoodIn wsX1_tick wsX6_stepped := goodIn_r _ [48, 49, 50, 16, 51, 52, 53, 45, 42, 46] (by decide +kernel) (by decide +kernel)
set_option maxRecDepth 20000 in
theorem gX1_tick_X6_stepped_n97 : GoodIn wsX1_tick (wsX6_stepped) := ggX1_tick_X6_stepped
set_option maxRecDepth 20000 in
theorem ggX1_tick_X1_judge : GoodIn wsX1_tick wsX1_judge := goodIn_r _ [57, 58, 59, 1, 117, 118, 119, 120, 121, 122, 123, 124, 125] (by decide +kernel) (by decide +kernel)
set_option maxRecDepth 20000 in
theorem gX1_tick_X1_judge : GoodIn wsX1_tick (wsV RX1 104 RX1 yX1_judge wsX1_judge) := goodIn_app (goodIn_of _ (by decide +kernel)) ggX1_tick_X1_judge
set_option maxRecDepth 20000 in
theorem ggX1_tick_X1_control : GoodIn wsX1_tick wsX1_control := goodIn_r _ [63, 1, 9, 10, 11, 12, 13, 14, 15, 16, 17, 50, 51, 52, 53, 45, 42, 46, 64, 65, 66, 21, 67, 68, 69, 70, 71, 4, 72, 73, 74, 75, 117, 118, 119, 120, 121, 122, 123, 124, 125, 126] (by decide +kernel) (by decide +kernel)
set_option maxRecDepth 20000 in
theorem gX1_tick_X1_control : GoodIn wsX1_tick (wsV RX1 108 RX1 yX1_control wsX1_control) := goodIn_app (goodIn_of _ (by decide +kernel)) ggX1_tick_X1_control
set_option maxRecDepth 20000 in
theorem ggX1_tick_X1_keepRecords : GoodIn wsX1_tick wsX1_keepRecords := goodIn_r _ [79, 37, 8, 1, 40, 41, 42, 43, 117, 118, 119, 120, 121, 122, 123, 124, 125] (by decide +kernel) (by decide +kernel)
set_option maxRecDepth 20000 in
theorem gX1_tick_X1_keepRecords : GoodIn wsX1_tick (wsV RX1 112 RX1 yX1_keepRecords wsX1_keepRecords) := goodIn_app (goodIn_of _ (by decide +kernel)) ggX1_tick_X1_keepRecords
set_option maxRecDepth 20000 in
theorem ggX1_tick_X2_see : GoodIn wsX1_tick wsX2_see := goodIn_r _ [84, 85, 86, 3, 4, 5, 87, 88, 89, 90, 91, 92, 93, 127, 128, 129, 130, 131] (by decide +kernel) (by decide +kernel)
set_option maxRecDepth 20000 in
theorem gX1_tick_X2_see : GoodIn wsX1_tick (wsV RX1 115 RX2 yX2_see wsX2_see) := goodIn_app (goodIn_of _ (by decide +kernel)) ggX1_tick_X2_see
set_option maxRecDepth 20000 in
theorem ggX1_tick_X5_see : GoodIn wsX1_tick wsX5_see := goodIn_r _ [98, 99, 100, 101, 102, 103, 97, 104, 105, 106, 107, 108, 109, 110, 111, 132, 133, 134, 135, 136] (by decide +kernel) (by decide +kernel)
set_option maxRecDepth 20000 in
theorem gX1_tick_X5_see : GoodIn wsX1_tick (wsV RX1 119 RX5 yX5_see wsX5_see) := goodIn_app (goodIn_of _ (by decide +kernel)) ggX1_tick_X5_see
set_option maxRecDepth 20000 in
theorem ggX1_tick_X1_moveOn : GoodIn wsX1_tick wsX1_moveOn := goodIn_r _ [115, 1, 116, 8, 9, 10, 11, 12, 13, 14, 15, 16, 17, 28, 29, 30, 21, 31, 32, 33, 34, 35, 36, 37, 38, 39, 40, 41, 42, 43, 44, 45, 46, 50, 51, 52, 53, 47, 48, 49, 117, 118, 119, 120, 121, 122, 123, 124, 125, 126] (by decide +kernel) (by decide +kernel)
set_option maxRecDepth 20000 in
theorem gX1_tick_X1_moveOn : GoodIn wsX1_tick (wsV RX1 122 RX1 yX1_moveOn wsX1_moveOn) := goodIn_app (goodIn_of _ (by decide +kernel)) ggX1_tick_X1_moveOn
theorem dX1_tick_0 : decode cX1_tick 0 = .ok (.aload_n 0, 1) := by decide +kernel
theorem dX1_tick_1 : decode cX1_tick 1 = .ok (.getfield 27, 3) := by decide +kernel
theorem dX1_tick_4 : decode cX1_tick 4 = .ok (.iconst 2, 1) := by decide +kernel
theorem dX1_tick_5 : decode cX1_tick 5 = .ok (.iaload, 1) := by decide +kernel
theorem dX1_tick_6 : decode cX1_tick 6 = .ok (.istore_n 3, 1) := by decide +kernel
theorem dX1_tick_7 : decode cX1_tick 7 = .ok (.aload_n 0, 1) := by decide +kernel
theorem dX1_tick_8 : decode cX1_tick 8 = .ok (.getfield 27, 3) := by decide +kernel
theorem dX1_tick_11 : decode cX1_tick 11 = .ok (.iconst 1, 1) := by decide +kernel
theorem dX1_tick_12 : decode cX1_tick 12 = .ok (.aload_n 0, 1) := by decide +kernel
theorem dX1_tick_13 : decode cX1_tick 13 = .ok (.getfield 27, 3) := by decide +kernel
theorem dX1_tick_16 : decode cX1_tick 16 = .ok (.bipush 8, 2) := by decide +kernel
theorem dX1_tick_18 : decode cX1_tick 18 = .ok (.iaload, 1) := by decide +kernel
theorem dX1_tick_19 : decode cX1_tick 19 = .ok (.aload_n 0, 1) := by decide +kernel
theorem dX1_tick_20 : decode cX1_tick 20 = .ok (.aload_n 1, 1) := by decide +kernel
theorem dX1_tick_21 : decode cX1_tick 21 = .ok (.bipush 14, 2) := by decide +kernel
theorem dX1_tick_23 : decode cX1_tick 23 = .ok (.invokevirtual 84, 3) := by decide +kernel
theorem dX1_tick_26 : decode cX1_tick 26 = .ok (.invokevirtual 90, 3) := by decide +kernel
theorem dX1_tick_29 : decode cX1_tick 29 = .ok (.iadd, 1) := by decide +kernel
theorem dX1_tick_30 : decode cX1_tick 30 = .ok (.iastore, 1) := by decide +kernel
theorem dX1_tick_31 : decode cX1_tick 31 = .ok (.aload_n 0, 1) := by decide +kernel
theorem dX1_tick_32 : decode cX1_tick 32 = .ok (.getfield 27, 3) := by decide +kernel
theorem dX1_tick_35 : decode cX1_tick 35 = .ok (.iconst 4, 1) := by decide +kernel
theorem dX1_tick_36 : decode cX1_tick 36 = .ok (.aload_n 0, 1) := by decide +kernel
theorem dX1_tick_37 : decode cX1_tick 37 = .ok (.iconst 3, 1) := by decide +kernel
theorem dX1_tick_38 : decode cX1_tick 38 = .ok (.aload_n 0, 1) := by decide +kernel
theorem dX1_tick_39 : decode cX1_tick 39 = .ok (.getfield 27, 3) := by decide +kernel
theorem dX1_tick_42 : decode cX1_tick 42 = .ok (.iconst 3, 1) := by decide +kernel
theorem dX1_tick_43 : decode cX1_tick 43 = .ok (.iaload, 1) := by decide +kernel
theorem dX1_tick_44 : decode cX1_tick 44 = .ok (.aload_n 1, 1) := by decide +kernel
theorem dX1_tick_45 : decode cX1_tick 45 = .ok (.bipush 7, 2) := by decide +kernel
theorem dX1_tick_47 : decode cX1_tick 47 = .ok (.invokevirtual 84, 3) := by decide +kernel
theorem dX1_tick_50 : decode cX1_tick 50 = .ok (.invokevirtual 93, 3) := by decide +kernel
theorem dX1_tick_53 : decode cX1_tick 53 = .ok (.iastore, 1) := by decide +kernel
theorem dX1_tick_54 : decode cX1_tick 54 = .ok (.aload_n 0, 1) := by decide +kernel
theorem dX1_tick_55 : decode cX1_tick 55 = .ok (.getfield 27, 3) := by decide +kernel
theorem dX1_tick_58 : decode cX1_tick 58 = .ok (.iconst 1, 1) := by decide +kernel
theorem dX1_tick_59 : decode cX1_tick 59 = .ok (.iaload, 1) := by decide +kernel
theorem dX1_tick_60 : decode cX1_tick 60 = .ok (.aload_n 0, 1) := by decide +kernel
theorem dX1_tick_61 : decode cX1_tick 61 = .ok (.getfield 27, 3) := by decide +kernel
theorem dX1_tick_64 : decode cX1_tick 64 = .ok (.iconst 4, 1) := by decide +kernel
theorem dX1_tick_65 : decode cX1_tick 65 = .ok (.iaload, 1) := by decide +kernel
theorem dX1_tick_66 : decode cX1_tick 66 = .ok (.isub, 1) := by decide +kernel
theorem dX1_tick_67 : decode cX1_tick 67 = .ok (.istore 4, 2) := by decide +kernel
theorem dX1_tick_69 : decode cX1_tick 69 = .ok (.aload_n 0, 1) := by decide +kernel
theorem dX1_tick_70 : decode cX1_tick 70 = .ok (.getfield 27, 3) := by decide +kernel
theorem dX1_tick_73 : decode cX1_tick 73 = .ok (.iconst 5, 1) := by decide +kernel
theorem dX1_tick_74 : decode cX1_tick 74 = .ok (.aload_n 0, 1) := by decide +kernel
theorem dX1_tick_75 : decode cX1_tick 75 = .ok (.getfield 27, 3) := by decide +kernel
theorem dX1_tick_78 : decode cX1_tick 78 = .ok (.iconst 5, 1) := by decide +kernel
theorem dX1_tick_79 : decode cX1_tick 79 = .ok (.iaload, 1) := by decide +kernel
theorem dX1_tick_80 : decode cX1_tick 80 = .ok (.i2l, 1) := by decide +kernel
theorem dX1_tick_81 : decode cX1_tick 81 = .ok (.iload 4, 2) := by decide +kernel
theorem dX1_tick_83 : decode cX1_tick 83 = .ok (.i2l, 1) := by decide +kernel
theorem dX1_tick_84 : decode cX1_tick 84 = .ok (.sipush 1000, 3) := by decide +kernel
theorem dX1_tick_87 : decode cX1_tick 87 = .ok (.aload_n 1, 1) := by decide +kernel
theorem dX1_tick_88 : decode cX1_tick 88 = .ok (.bipush 8, 2) := by decide +kernel
theorem dX1_tick_90 : decode cX1_tick 90 = .ok (.invokevirtual 84, 3) := by decide +kernel
theorem dX1_tick_93 : decode cX1_tick 93 = .ok (.isub, 1) := by decide +kernel
theorem dX1_tick_94 : decode cX1_tick 94 = .ok (.i2l, 1) := by decide +kernel
theorem dX1_tick_95 : decode cX1_tick 95 = .ok (.invokestatic 97, 3) := by decide +kernel
theorem dX1_tick_98 : decode cX1_tick 98 = .ok (.iastore, 1) := by decide +kernel
theorem dX1_tick_99 : decode cX1_tick 99 = .ok (.aload_n 0, 1) := by decide +kernel
theorem dX1_tick_100 : decode cX1_tick 100 = .ok (.iload 4, 2) := by decide +kernel
theorem dX1_tick_102 : decode cX1_tick 102 = .ok (.invokestatic 101, 3) := by decide +kernel
theorem dX1_tick_105 : decode cX1_tick 105 = .ok (.aload_n 1, 1) := by decide +kernel
theorem dX1_tick_106 : decode cX1_tick 106 = .ok (.bipush 12, 2) := by decide +kernel
theorem dX1_tick_108 : decode cX1_tick 108 = .ok (.invokevirtual 84, 3) := by decide +kernel
theorem dX1_tick_111 : decode cX1_tick 111 = .ok (.if_icmp .le 7, 3) := by decide +kernel
theorem dX1_tick_114 : decode cX1_tick 114 = .ok (.iconst 1, 1) := by decide +kernel
theorem dX1_tick_115 : decode cX1_tick 115 = .ok (.goto 4, 3) := by decide +kernel
theorem dX1_tick_118 : decode cX1_tick 118 = .ok (.iconst 0, 1) := by decide +kernel
theorem dX1_tick_119 : decode cX1_tick 119 = .ok (.aload_n 1, 1) := by decide +kernel
theorem dX1_tick_120 : decode cX1_tick 120 = .ok (.bipush 13, 2) := by decide +kernel
theorem dX1_tick_122 : decode cX1_tick 122 = .ok (.invokevirtual 84, 3) := by decide +kernel
theorem dX1_tick_125 : decode cX1_tick 125 = .ok (.invokevirtual 104, 3) := by decide +kernel
theorem dX1_tick_128 : decode cX1_tick 128 = .ok (.aload_n 0, 1) := by decide +kernel
theorem dX1_tick_129 : decode cX1_tick 129 = .ok (.aload_n 1, 1) := by decide +kernel
theorem dX1_tick_130 : decode cX1_tick 130 = .ok (.iload_n 2, 1) := by decide +kernel
theorem dX1_tick_131 : decode cX1_tick 131 = .ok (.invokevirtual 108, 3) := by decide +kernel
theorem dX1_tick_134 : decode cX1_tick 134 = .ok (.aload_n 0, 1) := by decide +kernel
theorem dX1_tick_135 : decode cX1_tick 135 = .ok (.invokevirtual 112, 3) := by decide +kernel
theorem dX1_tick_138 : decode cX1_tick 138 = .ok (.aload_n 0, 1) := by decide +kernel
theorem dX1_tick_139 : decode cX1_tick 139 = .ok (.getfield 37, 3) := by decide +kernel
theorem dX1_tick_142 : decode cX1_tick 142 = .ok (.aload_n 0, 1) := by decide +kernel
theorem dX1_tick_143 : decode cX1_tick 143 = .ok (.getfield 27, 3) := by decide +kernel
theorem dX1_tick_146 : decode cX1_tick 146 = .ok (.iconst 0, 1) := by decide +kernel
theorem dX1_tick_147 : decode cX1_tick 147 = .ok (.iaload, 1) := by decide +kernel
theorem dX1_tick_148 : decode cX1_tick 148 = .ok (.aload_n 0, 1) := by decide +kernel
theorem dX1_tick_149 : decode cX1_tick 149 = .ok (.getfield 27, 3) := by decide +kernel
theorem dX1_tick_152 : decode cX1_tick 152 = .ok (.iconst 1, 1) := by decide +kernel
theorem dX1_tick_153 : decode cX1_tick 153 = .ok (.iaload, 1) := by decide +kernel
theorem dX1_tick_154 : decode cX1_tick 154 = .ok (.aload_n 0, 1) := by decide +kernel
theorem dX1_tick_155 : decode cX1_tick 155 = .ok (.getfield 27, 3) := by decide +kernel
theorem dX1_tick_158 : decode cX1_tick 158 = .ok (.iconst 2, 1) := by decide +kernel
theorem dX1_tick_159 : decode cX1_tick 159 = .ok (.iaload, 1) := by decide +kernel
theorem dX1_tick_160 : decode cX1_tick 160 = .ok (.iload_n 3, 1) := by decide +kernel
theorem dX1_tick_161 : decode cX1_tick 161 = .ok (.isub, 1) := by decide +kernel
theorem dX1_tick_162 : decode cX1_tick 162 = .ok (.invokevirtual 115, 3) := by decide +kernel
theorem dX1_tick_165 : decode cX1_tick 165 = .ok (.aload_n 0, 1) := by decide +kernel
theorem dX1_tick_166 : decode cX1_tick 166 = .ok (.getfield 44, 3) := by decide +kernel
theorem dX1_tick_169 : decode cX1_tick 169 = .ok (.aload_n 0, 1) := by decide +kernel
theorem dX1_tick_170 : decode cX1_tick 170 = .ok (.getfield 27, 3) := by decide +kernel
theorem dX1_tick_173 : decode cX1_tick 173 = .ok (.aload_n 0, 1) := by decide +kernel
theorem dX1_tick_174 : decode cX1_tick 174 = .ok (.getfield 9, 3) := by decide +kernel
theorem dX1_tick_177 : decode cX1_tick 177 = .ok (.invokevirtual 119, 3) := by decide +kernel
theorem dX1_tick_180 : decode cX1_tick 180 = .ok (.aload_n 0, 1) := by decide +kernel
theorem dX1_tick_181 : decode cX1_tick 181 = .ok (.aload_n 1, 1) := by decide +kernel
theorem dX1_tick_182 : decode cX1_tick 182 = .ok (.invokevirtual 122, 3) := by decide +kernel
theorem dX1_tick_185 : decode cX1_tick 185 = .ok (.return_, 1) := by decide +kernel
theorem dX1_noise_0 : decode cX1_noise 0 = .ok (.ldc2_w 126, 3) := by decide +kernel
theorem dX1_noise_3 : decode cX1_noise 3 = .ok (.aload_n 0, 1) := by decide +kernel
theorem dX1_noise_4 : decode cX1_noise 4 = .ok (.getfield 9, 3) := by decide +kernel
theorem dX1_noise_7 : decode cX1_noise 7 = .ok (.i2l, 1) := by decide +kernel
theorem dX1_noise_8 : decode cX1_noise 8 = .ok (.lmul, 1) := by decide +kernel
theorem dX1_noise_9 : decode cX1_noise 9 = .ok (.ldc2_w 128, 3) := by decide +kernel
theorem dX1_noise_12 : decode cX1_noise 12 = .ok (.aload_n 0, 1) := by decide +kernel
theorem dX1_noise_13 : decode cX1_noise 13 = .ok (.getfield 18, 3) := by decide +kernel
theorem dX1_noise_16 : decode cX1_noise 16 = .ok (.i2l, 1) := by decide +kernel
theorem dX1_noise_17 : decode cX1_noise 17 = .ok (.lmul, 1) := by decide +kernel
theorem dX1_noise_18 : decode cX1_noise 18 = .ok (.ladd, 1) := by decide +kernel
theorem dX1_noise_19 : decode cX1_noise 19 = .ok (.lconst 1, 1) := by decide +kernel
theorem dX1_noise_20 : decode cX1_noise 20 = .ok (.ladd, 1) := by decide +kernel
theorem dX1_noise_21 : decode cX1_noise 21 = .ok (.lstore_n 2, 1) := by decide +kernel
theorem dX1_noise_22 : decode cX1_noise 22 = .ok (.ldc2_w 130, 3) := by decide +kernel
theorem dX1_noise_25 : decode cX1_noise 25 = .ok (.iload_n 1, 1) := by decide +kernel
theorem dX1_noise_26 : decode cX1_noise 26 = .ok (.i2l, 1) := by decide +kernel
theorem dX1_noise_27 : decode cX1_noise 27 = .ok (.lmul, 1) := by decide +kernel
theorem dX1_noise_28 : decode cX1_noise 28 = .ok (.lconst 1, 1) := by decide +kernel
theorem dX1_noise_29 : decode cX1_noise 29 = .ok (.ladd, 1) := by decide +kernel
theorem dX1_noise_30 : decode cX1_noise 30 = .ok (.lstore 4, 2) := by decide +kernel
theorem dX1_noise_32 : decode cX1_noise 32 = .ok (.lload 4, 2) := by decide +kernel
theorem dX1_noise_34 : decode cX1_noise 34 = .ok (.lconst 1, 1) := by decide +kernel
theorem dX1_noise_35 : decode cX1_noise 35 = .ok (.lcmp, 1) := by decide +kernel
theorem dX1_noise_36 : decode cX1_noise 36 = .ok (.ifCond .ge 7, 3) := by decide +kernel
theorem dX1_noise_39 : decode cX1_noise 39 = .ok (.iconst 0, 1) := by decide +kernel
theorem dX1_noise_40 : decode cX1_noise 40 = .ok (.goto 17, 3) := by decide +kernel
theorem dX1_noise_43 : decode cX1_noise 43 = .ok (.lload_n 2, 1) := by decide +kernel
theorem dX1_noise_44 : decode cX1_noise 44 = .ok (.lload_n 2, 1) := by decide +kernel
theorem dX1_noise_45 : decode cX1_noise 45 = .ok (.lmul, 1) := by decide +kernel
theorem dX1_noise_46 : decode cX1_noise 46 = .ok (.ldc2_w 132, 3) := by decide +kernel
theorem dX1_noise_49 : decode cX1_noise 49 = .ok (.lrem, 1) := by decide +kernel
theorem dX1_noise_50 : decode cX1_noise 50 = .ok (.lload 4, 2) := by decide +kernel
theorem dX1_noise_52 : decode cX1_noise 52 = .ok (.lrem, 1) := by decide +kernel
theorem dX1_noise_53 : decode cX1_noise 53 = .ok (.iload_n 1, 1) := by decide +kernel
theorem dX1_noise_54 : decode cX1_noise 54 = .ok (.i2l, 1) := by decide +kernel
theorem dX1_noise_55 : decode cX1_noise 55 = .ok (.lsub, 1) := by decide +kernel
theorem dX1_noise_56 : decode cX1_noise 56 = .ok (.l2i, 1) := by decide +kernel
theorem dX1_noise_57 : decode cX1_noise 57 = .ok (.ireturn, 1) := by decide +kernel
set_option maxRecDepth 20000 in
theorem ggX1_delayed_X1_recordOf : GoodIn wsX1_delayed wsX1_recordOf := goodIn_r _ [7, 1, 8, 9, 10, 11, 12, 13, 14, 15, 19, 20, 21, 22, 23, 24, 25, 26, 27] (by decide +kernel) (by decide +kernel)
set_option maxRecDepth 20000 in
theorem gX1_delayed_X1_recordOf : GoodIn wsX1_delayed (wsV RX1 81 RX1 yX1_recordOf wsX1_recordOf) := goodIn_app (goodIn_of _ (by decide +kernel)) ggX1_delayed_X1_recordOf
set_option maxRecDepth 20000 in
theorem ggX1_delayed_J9_floorDiv_f86c9 : GoodIn wsX1_delayed wsJ9_floorDiv_f86c9 := goodIn_r _ [18] (by decide +kernel) (by decide +kernel)
set_option maxRecDepth 20000 in
theorem gX1_delayed_J9_floorDiv_f86c9 : GoodIn wsX1_delayed (va_wsS RX1 136 yJ9_floorDiv_f86c9 wsJ9_floorDiv_f86c9) := goodIn_app (goodIn_of _ (by decide +kernel)) ggX1_delayed_J9_floorDiv_f86c9
theorem dX1_delayed_0 : decode cX1_delayed 0 = .ok (.iload_n 3, 1) := by decide +kernel
theorem dX1_delayed_1 : decode cX1_delayed 1 = .ok (.bipush 10, 2) := by decide +kernel
theorem dX1_delayed_3 : decode cX1_delayed 3 = .ok (.idiv, 1) := by decide +kernel
theorem dX1_delayed_4 : decode cX1_delayed 4 = .ok (.istore 4, 2) := by decide +kernel
theorem dX1_delayed_6 : decode cX1_delayed 6 = .ok (.iload_n 3, 1) := by decide +kernel
theorem dX1_delayed_7 : decode cX1_delayed 7 = .ok (.bipush 10, 2) := by decide +kernel
theorem dX1_delayed_9 : decode cX1_delayed 9 = .ok (.irem, 1) := by decide +kernel
theorem dX1_delayed_10 : decode cX1_delayed 10 = .ok (.istore 5, 2) := by decide +kernel
theorem dX1_delayed_12 : decode cX1_delayed 12 = .ok (.iload 4, 2) := by decide +kernel
theorem dX1_delayed_14 : decode cX1_delayed 14 = .ok (.ifCond .ne 8, 3) := by decide +kernel
theorem dX1_delayed_17 : decode cX1_delayed 17 = .ok (.iload_n 2, 1) := by decide +kernel
theorem dX1_delayed_18 : decode cX1_delayed 18 = .ok (.i2l, 1) := by decide +kernel
theorem dX1_delayed_19 : decode cX1_delayed 19 = .ok (.goto 16, 3) := by decide +kernel
theorem dX1_delayed_22 : decode cX1_delayed 22 = .ok (.aload_n 0, 1) := by decide +kernel
theorem dX1_delayed_23 : decode cX1_delayed 23 = .ok (.iload_n 1, 1) := by decide +kernel
theorem dX1_delayed_24 : decode cX1_delayed 24 = .ok (.aload_n 0, 1) := by decide +kernel
theorem dX1_delayed_25 : decode cX1_delayed 25 = .ok (.getfield 9, 3) := by decide +kernel
theorem dX1_delayed_28 : decode cX1_delayed 28 = .ok (.iload 4, 2) := by decide +kernel
theorem dX1_delayed_30 : decode cX1_delayed 30 = .ok (.isub, 1) := by decide +kernel
theorem dX1_delayed_31 : decode cX1_delayed 31 = .ok (.invokevirtual 81, 3) := by decide +kernel
theorem dX1_delayed_34 : decode cX1_delayed 34 = .ok (.i2l, 1) := by decide +kernel
theorem dX1_delayed_35 : decode cX1_delayed 35 = .ok (.lstore 6, 2) := by decide +kernel
theorem dX1_delayed_37 : decode cX1_delayed 37 = .ok (.aload_n 0, 1) := by decide +kernel
theorem dX1_delayed_38 : decode cX1_delayed 38 = .ok (.iload_n 1, 1) := by decide +kernel
theorem dX1_delayed_39 : decode cX1_delayed 39 = .ok (.aload_n 0, 1) := by decide +kernel
theorem dX1_delayed_40 : decode cX1_delayed 40 = .ok (.getfield 9, 3) := by decide +kernel
theorem dX1_delayed_43 : decode cX1_delayed 43 = .ok (.iload 4, 2) := by decide +kernel
theorem dX1_delayed_45 : decode cX1_delayed 45 = .ok (.isub, 1) := by decide +kernel
theorem dX1_delayed_46 : decode cX1_delayed 46 = .ok (.iconst 1, 1) := by decide +kernel
theorem dX1_delayed_47 : decode cX1_delayed 47 = .ok (.isub, 1) := by decide +kernel
theorem dX1_delayed_48 : decode cX1_delayed 48 = .ok (.invokevirtual 81, 3) := by decide +kernel
theorem dX1_delayed_51 : decode cX1_delayed 51 = .ok (.i2l, 1) := by decide +kernel
theorem dX1_delayed_52 : decode cX1_delayed 52 = .ok (.lstore 8, 2) := by decide +kernel
theorem dX1_delayed_54 : decode cX1_delayed 54 = .ok (.lload 6, 2) := by decide +kernel
theorem dX1_delayed_56 : decode cX1_delayed 56 = .ok (.bipush 10, 2) := by decide +kernel
theorem dX1_delayed_58 : decode cX1_delayed 58 = .ok (.iload 5, 2) := by decide +kernel
theorem dX1_delayed_60 : decode cX1_delayed 60 = .ok (.isub, 1) := by decide +kernel
theorem dX1_delayed_61 : decode cX1_delayed 61 = .ok (.i2l, 1) := by decide +kernel
theorem dX1_delayed_62 : decode cX1_delayed 62 = .ok (.lmul, 1) := by decide +kernel
theorem dX1_delayed_63 : decode cX1_delayed 63 = .ok (.lload 8, 2) := by decide +kernel
theorem dX1_delayed_65 : decode cX1_delayed 65 = .ok (.iload 5, 2) := by decide +kernel
theorem dX1_delayed_67 : decode cX1_delayed 67 = .ok (.i2l, 1) := by decide +kernel
theorem dX1_delayed_68 : decode cX1_delayed 68 = .ok (.lmul, 1) := by decide +kernel
theorem dX1_delayed_69 : decode cX1_delayed 69 = .ok (.ladd, 1) := by decide +kernel
theorem dX1_delayed_70 : decode cX1_delayed 70 = .ok (.ldc2_w 134, 3) := by decide +kernel
theorem dX1_delayed_73 : decode cX1_delayed 73 = .ok (.invokestatic 136, 3) := by decide +kernel
theorem dX1_delayed_76 : decode cX1_delayed 76 = .ok (.l2i, 1) := by decide +kernel
theorem dX1_delayed_77 : decode cX1_delayed 77 = .ok (.ireturn, 1) := by decide +kernel
theorem dX1_judge_0 : decode cX1_judge 0 = .ok (.aload_n 0, 1) := by decide +kernel
theorem dX1_judge_1 : decode cX1_judge 1 = .ok (.iload_n 1, 1) := by decide +kernel
theorem dX1_judge_2 : decode cX1_judge 2 = .ok (.ifCond .eq 12, 3) := by decide +kernel
theorem dX1_judge_5 : decode cX1_judge 5 = .ok (.aload_n 0, 1) := by decide +kernel
theorem dX1_judge_6 : decode cX1_judge 6 = .ok (.getfield 21, 3) := by decide +kernel
theorem dX1_judge_9 : decode cX1_judge 9 = .ok (.iconst 1, 1) := by decide +kernel
theorem dX1_judge_10 : decode cX1_judge 10 = .ok (.iadd, 1) := by decide +kernel
theorem dX1_judge_11 : decode cX1_judge 11 = .ok (.goto 4, 3) := by decide +kernel
theorem dX1_judge_14 : decode cX1_judge 14 = .ok (.iconst 0, 1) := by decide +kernel
theorem dX1_judge_15 : decode cX1_judge 15 = .ok (.putfield 21, 3) := by decide +kernel
theorem dX1_judge_18 : decode cX1_judge 18 = .ok (.aload_n 0, 1) := by decide +kernel
theorem dX1_judge_19 : decode cX1_judge 19 = .ok (.iload_n 1, 1) := by decide +kernel
theorem dX1_judge_20 : decode cX1_judge 20 = .ok (.ifCond .eq 7, 3) := by decide +kernel
theorem dX1_judge_23 : decode cX1_judge 23 = .ok (.iconst 0, 1) := by decide +kernel
theorem dX1_judge_24 : decode cX1_judge 24 = .ok (.goto 9, 3) := by decide +kernel
theorem dX1_judge_27 : decode cX1_judge 27 = .ok (.aload_n 0, 1) := by decide +kernel
theorem dX1_judge_28 : decode cX1_judge 28 = .ok (.getfield 24, 3) := by decide +kernel
theorem dX1_judge_31 : decode cX1_judge 31 = .ok (.iconst 1, 1) := by decide +kernel
theorem dX1_judge_32 : decode cX1_judge 32 = .ok (.iadd, 1) := by decide +kernel
theorem dX1_judge_33 : decode cX1_judge 33 = .ok (.putfield 24, 3) := by decide +kernel
theorem dX1_judge_36 : decode cX1_judge 36 = .ok (.aload_n 0, 1) := by decide +kernel
theorem dX1_judge_37 : decode cX1_judge 37 = .ok (.getfield 27, 3) := by decide +kernel
theorem dX1_judge_40 : decode cX1_judge 40 = .ok (.bipush 9, 2) := by decide +kernel
theorem dX1_judge_42 : decode cX1_judge 42 = .ok (.iaload, 1) := by decide +kernel
theorem dX1_judge_43 : decode cX1_judge 43 = .ok (.ifCond .ne 15, 3) := by decide +kernel
theorem dX1_judge_46 : decode cX1_judge 46 = .ok (.aload_n 0, 1) := by decide +kernel
theorem dX1_judge_47 : decode cX1_judge 47 = .ok (.getfield 21, 3) := by decide +kernel
theorem dX1_judge_50 : decode cX1_judge 50 = .ok (.iload_n 2, 1) := by decide +kernel
theorem dX1_judge_51 : decode cX1_judge 51 = .ok (.if_icmp .lt 7, 3) := by decide +kernel
theorem dX1_judge_54 : decode cX1_judge 54 = .ok (.iconst 1, 1) := by decide +kernel
theorem dX1_judge_55 : decode cX1_judge 55 = .ok (.goto 4, 3) := by decide +kernel
theorem dX1_judge_58 : decode cX1_judge 58 = .ok (.iconst 0, 1) := by decide +kernel
theorem dX1_judge_59 : decode cX1_judge 59 = .ok (.istore_n 3, 1) := by decide +kernel
theorem dX1_judge_60 : decode cX1_judge 60 = .ok (.aload_n 0, 1) := by decide +kernel
theorem dX1_judge_61 : decode cX1_judge 61 = .ok (.getfield 27, 3) := by decide +kernel
theorem dX1_judge_64 : decode cX1_judge 64 = .ok (.bipush 9, 2) := by decide +kernel
theorem dX1_judge_66 : decode cX1_judge 66 = .ok (.iaload, 1) := by decide +kernel
theorem dX1_judge_67 : decode cX1_judge 67 = .ok (.iconst 1, 1) := by decide +kernel
theorem dX1_judge_68 : decode cX1_judge 68 = .ok (.if_icmp .ne 17, 3) := by decide +kernel
theorem dX1_judge_71 : decode cX1_judge 71 = .ok (.aload_n 0, 1) := by decide +kernel
theorem dX1_judge_72 : decode cX1_judge 72 = .ok (.getfield 24, 3) := by decide +kernel
theorem dX1_judge_75 : decode cX1_judge 75 = .ok (.iconst 2, 1) := by decide +kernel
theorem dX1_judge_76 : decode cX1_judge 76 = .ok (.iload_n 2, 1) := by decide +kernel
theorem dX1_judge_77 : decode cX1_judge 77 = .ok (.imul, 1) := by decide +kernel
theorem dX1_judge_78 : decode cX1_judge 78 = .ok (.if_icmp .lt 7, 3) := by decide +kernel
theorem dX1_judge_81 : decode cX1_judge 81 = .ok (.iconst 1, 1) := by decide +kernel
theorem dX1_judge_82 : decode cX1_judge 82 = .ok (.goto 4, 3) := by decide +kernel
theorem dX1_judge_85 : decode cX1_judge 85 = .ok (.iconst 0, 1) := by decide +kernel
theorem dX1_judge_86 : decode cX1_judge 86 = .ok (.istore 4, 2) := by decide +kernel
theorem dX1_judge_88 : decode cX1_judge 88 = .ok (.iload_n 3, 1) := by decide +kernel
theorem dX1_judge_89 : decode cX1_judge 89 = .ok (.ifCond .ne 8, 3) := by decide +kernel
theorem dX1_judge_92 : decode cX1_judge 92 = .ok (.iload 4, 2) := by decide +kernel
theorem dX1_judge_94 : decode cX1_judge 94 = .ok (.ifCond .eq 29, 3) := by decide +kernel
theorem dX1_judge_97 : decode cX1_judge 97 = .ok (.aload_n 0, 1) := by decide +kernel
theorem dX1_judge_98 : decode cX1_judge 98 = .ok (.getfield 27, 3) := by decide +kernel
theorem dX1_judge_101 : decode cX1_judge 101 = .ok (.bipush 9, 2) := by decide +kernel
theorem dX1_judge_103 : decode cX1_judge 103 = .ok (.iload_n 3, 1) := by decide +kernel
theorem dX1_judge_104 : decode cX1_judge 104 = .ok (.ifCond .eq 7, 3) := by decide +kernel
theorem dX1_judge_107 : decode cX1_judge 107 = .ok (.iconst 1, 1) := by decide +kernel
theorem dX1_judge_108 : decode cX1_judge 108 = .ok (.goto 4, 3) := by decide +kernel
theorem dX1_judge_111 : decode cX1_judge 111 = .ok (.iconst 0, 1) := by decide +kernel
theorem dX1_judge_112 : decode cX1_judge 112 = .ok (.iastore, 1) := by decide +kernel
theorem dX1_judge_113 : decode cX1_judge 113 = .ok (.aload_n 0, 1) := by decide +kernel
theorem dX1_judge_114 : decode cX1_judge 114 = .ok (.iconst 0, 1) := by decide +kernel
theorem dX1_judge_115 : decode cX1_judge 115 = .ok (.putfield 21, 3) := by decide +kernel
theorem dX1_judge_118 : decode cX1_judge 118 = .ok (.aload_n 0, 1) := by decide +kernel
theorem dX1_judge_119 : decode cX1_judge 119 = .ok (.iconst 0, 1) := by decide +kernel
theorem dX1_judge_120 : decode cX1_judge 120 = .ok (.putfield 24, 3) := by decide +kernel
theorem dX1_judge_123 : decode cX1_judge 123 = .ok (.return_, 1) := by decide +kernel
set_option maxRecDepth 20000 in
theorem ggX1_control_X3_get : GoodIn wsX1_control wsX3_get := goodIn_r _ [6, 7, 8, 9, 10, 41] (by decide +kernel) (by decide +kernel)
set_option maxRecDepth 20000 in
theorem gX1_control_X3_get : GoodIn wsX1_control (wsV RX1 84 RX3 yX3_get wsX3_get) := goodIn_app (goodIn_of _ (by decide +kernel)) ggX1_control_X3_get
set_option maxRecDepth 20000 in
theorem ggX1_control_X6_thousandth : GoodIn wsX1_control wsX6_thousandth := goodIn_r _ [12, 13, 14, 15, 16, 17] (by decide +kernel) (by decide +kernel)
set_option maxRecDepth 20000 in
theorem gX1_control_X6_thousandth_n140 : GoodIn wsX1_control (wsX6_thousandth) := ggX1_control_X6_thousandth
set_option maxRecDepth 20000 in
theorem ggX1_control_X1_outputFor : GoodIn wsX1_control wsX1_outputFor := goodIn_r _ [22, 1, 2, 3, 4, 5, 6, 7, 8, 9, 10, 23, 24, 25, 26, 27, 28, 29, 30, 31, 32, 33, 34, 35, 36, 37, 38, 39, 40, 41] (by decide +kernel) (by decide +kernel)
set_option maxRecDepth 20000 in
theorem gX1_control_X1_outputFor : GoodIn wsX1_control (wsV RX1 144 RX1 yX1_outputFor wsX1_outputFor) := goodIn_app (goodIn_of _ (by decide +kernel)) ggX1_control_X1_outputFor
theorem dX1_control_0 : decode cX1_control 0 = .ok (.aload_n 0, 1) := by decide +kernel
theorem dX1_control_1 : decode cX1_control 1 = .ok (.getfield 27, 3) := by decide +kernel
theorem dX1_control_4 : decode cX1_control 4 = .ok (.bipush 9, 2) := by decide +kernel
theorem dX1_control_6 : decode cX1_control 6 = .ok (.iaload, 1) := by decide +kernel
theorem dX1_control_7 : decode cX1_control 7 = .ok (.iconst 1, 1) := by decide +kernel
theorem dX1_control_8 : decode cX1_control 8 = .ok (.if_icmp .ne 11, 3) := by decide +kernel
theorem dX1_control_11 : decode cX1_control 11 = .ok (.iload_n 2, 1) := by decide +kernel
theorem dX1_control_12 : decode cX1_control 12 = .ok (.ifCond .ne 7, 3) := by decide +kernel
theorem dX1_control_15 : decode cX1_control 15 = .ok (.iconst 1, 1) := by decide +kernel
theorem dX1_control_16 : decode cX1_control 16 = .ok (.goto 4, 3) := by decide +kernel
theorem dX1_control_19 : decode cX1_control 19 = .ok (.iconst 0, 1) := by decide +kernel
theorem dX1_control_20 : decode cX1_control 20 = .ok (.istore_n 3, 1) := by decide +kernel
theorem dX1_control_21 : decode cX1_control 21 = .ok (.iload_n 3, 1) := by decide +kernel
theorem dX1_control_22 : decode cX1_control 22 = .ok (.ifCond .ne 7, 3) := by decide +kernel
theorem dX1_control_25 : decode cX1_control 25 = .ok (.iload_n 2, 1) := by decide +kernel
theorem dX1_control_26 : decode cX1_control 26 = .ok (.ifCond .eq 12, 3) := by decide +kernel
theorem dX1_control_29 : decode cX1_control 29 = .ok (.aload_n 0, 1) := by decide +kernel
theorem dX1_control_30 : decode cX1_control 30 = .ok (.getfield 27, 3) := by decide +kernel
theorem dX1_control_33 : decode cX1_control 33 = .ok (.iconst 1, 1) := by decide +kernel
theorem dX1_control_34 : decode cX1_control 34 = .ok (.iaload, 1) := by decide +kernel
theorem dX1_control_35 : decode cX1_control 35 = .ok (.goto 16, 3) := by decide +kernel
theorem dX1_control_38 : decode cX1_control 38 = .ok (.aload_n 0, 1) := by decide +kernel
theorem dX1_control_39 : decode cX1_control 39 = .ok (.getfield 27, 3) := by decide +kernel
theorem dX1_control_42 : decode cX1_control 42 = .ok (.iconst 3, 1) := by decide +kernel
theorem dX1_control_43 : decode cX1_control 43 = .ok (.iaload, 1) := by decide +kernel
theorem dX1_control_44 : decode cX1_control 44 = .ok (.aload_n 0, 1) := by decide +kernel
theorem dX1_control_45 : decode cX1_control 45 = .ok (.getfield 27, 3) := by decide +kernel
theorem dX1_control_48 : decode cX1_control 48 = .ok (.iconst 5, 1) := by decide +kernel
theorem dX1_control_49 : decode cX1_control 49 = .ok (.iaload, 1) := by decide +kernel
theorem dX1_control_50 : decode cX1_control 50 = .ok (.iadd, 1) := by decide +kernel
theorem dX1_control_51 : decode cX1_control 51 = .ok (.istore 4, 2) := by decide +kernel
theorem dX1_control_53 : decode cX1_control 53 = .ok (.iload_n 3, 1) := by decide +kernel
theorem dX1_control_54 : decode cX1_control 54 = .ok (.ifCond .eq 14, 3) := by decide +kernel
theorem dX1_control_57 : decode cX1_control 57 = .ok (.aload_n 1, 1) := by decide +kernel
theorem dX1_control_58 : decode cX1_control 58 = .ok (.iconst 0, 1) := by decide +kernel
theorem dX1_control_59 : decode cX1_control 59 = .ok (.invokevirtual 84, 3) := by decide +kernel
theorem dX1_control_62 : decode cX1_control 62 = .ok (.iconst 2, 1) := by decide +kernel
theorem dX1_control_63 : decode cX1_control 63 = .ok (.idiv, 1) := by decide +kernel
theorem dX1_control_64 : decode cX1_control 64 = .ok (.i2l, 1) := by decide +kernel
theorem dX1_control_65 : decode cX1_control 65 = .ok (.goto 9, 3) := by decide +kernel
theorem dX1_control_68 : decode cX1_control 68 = .ok (.aload_n 1, 1) := by decide +kernel
theorem dX1_control_69 : decode cX1_control 69 = .ok (.iconst 0, 1) := by decide +kernel
theorem dX1_control_70 : decode cX1_control 70 = .ok (.invokevirtual 84, 3) := by decide +kernel
theorem dX1_control_73 : decode cX1_control 73 = .ok (.i2l, 1) := by decide +kernel
theorem dX1_control_74 : decode cX1_control 74 = .ok (.lstore 5, 2) := by decide +kernel
theorem dX1_control_76 : decode cX1_control 76 = .ok (.iload_n 3, 1) := by decide +kernel
theorem dX1_control_77 : decode cX1_control 77 = .ok (.ifCond .eq 14, 3) := by decide +kernel
theorem dX1_control_80 : decode cX1_control 80 = .ok (.aload_n 1, 1) := by decide +kernel
theorem dX1_control_81 : decode cX1_control 81 = .ok (.iconst 1, 1) := by decide +kernel
theorem dX1_control_82 : decode cX1_control 82 = .ok (.invokevirtual 84, 3) := by decide +kernel
theorem dX1_control_85 : decode cX1_control 85 = .ok (.iconst 4, 1) := by decide +kernel
theorem dX1_control_86 : decode cX1_control 86 = .ok (.idiv, 1) := by decide +kernel
theorem dX1_control_87 : decode cX1_control 87 = .ok (.i2l, 1) := by decide +kernel
theorem dX1_control_88 : decode cX1_control 88 = .ok (.goto 9, 3) := by decide +kernel
theorem dX1_control_91 : decode cX1_control 91 = .ok (.aload_n 1, 1) := by decide +kernel
theorem dX1_control_92 : decode cX1_control 92 = .ok (.iconst 1, 1) := by decide +kernel
theorem dX1_control_93 : decode cX1_control 93 = .ok (.invokevirtual 84, 3) := by decide +kernel
theorem dX1_control_96 : decode cX1_control 96 = .ok (.i2l, 1) := by decide +kernel
theorem dX1_control_97 : decode cX1_control 97 = .ok (.lstore 7, 2) := by decide +kernel
theorem dX1_control_99 : decode cX1_control 99 = .ok (.aload_n 0, 1) := by decide +kernel
theorem dX1_control_100 : decode cX1_control 100 = .ok (.getfield 27, 3) := by decide +kernel
theorem dX1_control_103 : decode cX1_control 103 = .ok (.bipush 6, 2) := by decide +kernel
theorem dX1_control_105 : decode cX1_control 105 = .ok (.aload_n 0, 1) := by decide +kernel
theorem dX1_control_106 : decode cX1_control 106 = .ok (.getfield 27, 3) := by decide +kernel
theorem dX1_control_109 : decode cX1_control 109 = .ok (.iconst 0, 1) := by decide +kernel
theorem dX1_control_110 : decode cX1_control 110 = .ok (.iaload, 1) := by decide +kernel
theorem dX1_control_111 : decode cX1_control 111 = .ok (.iload 4, 2) := by decide +kernel
theorem dX1_control_113 : decode cX1_control 113 = .ok (.isub, 1) := by decide +kernel
theorem dX1_control_114 : decode cX1_control 114 = .ok (.iastore, 1) := by decide +kernel
theorem dX1_control_115 : decode cX1_control 115 = .ok (.lload 5, 2) := by decide +kernel
theorem dX1_control_117 : decode cX1_control 117 = .ok (.aload_n 0, 1) := by decide +kernel
theorem dX1_control_118 : decode cX1_control 118 = .ok (.getfield 27, 3) := by decide +kernel
theorem dX1_control_121 : decode cX1_control 121 = .ok (.bipush 6, 2) := by decide +kernel
theorem dX1_control_123 : decode cX1_control 123 = .ok (.iaload, 1) := by decide +kernel
theorem dX1_control_124 : decode cX1_control 124 = .ok (.i2l, 1) := by decide +kernel
theorem dX1_control_125 : decode cX1_control 125 = .ok (.lmul, 1) := by decide +kernel
theorem dX1_control_126 : decode cX1_control 126 = .ok (.invokestatic 140, 3) := by decide +kernel
theorem dX1_control_129 : decode cX1_control 129 = .ok (.lstore 9, 2) := by decide +kernel
theorem dX1_control_131 : decode cX1_control 131 = .ok (.aload_n 0, 1) := by decide +kernel
theorem dX1_control_132 : decode cX1_control 132 = .ok (.getfield 27, 3) := by decide +kernel
theorem dX1_control_135 : decode cX1_control 135 = .ok (.bipush 7, 2) := by decide +kernel
theorem dX1_control_137 : decode cX1_control 137 = .ok (.iaload, 1) := by decide +kernel
theorem dX1_control_138 : decode cX1_control 138 = .ok (.i2l, 1) := by decide +kernel
theorem dX1_control_139 : decode cX1_control 139 = .ok (.lload 7, 2) := by decide +kernel
theorem dX1_control_141 : decode cX1_control 141 = .ok (.aload_n 0, 1) := by decide +kernel
theorem dX1_control_142 : decode cX1_control 142 = .ok (.getfield 27, 3) := by decide +kernel
theorem dX1_control_145 : decode cX1_control 145 = .ok (.bipush 6, 2) := by decide +kernel
theorem dX1_control_147 : decode cX1_control 147 = .ok (.iaload, 1) := by decide +kernel
theorem dX1_control_148 : decode cX1_control 148 = .ok (.i2l, 1) := by decide +kernel
theorem dX1_control_149 : decode cX1_control 149 = .ok (.lmul, 1) := by decide +kernel
theorem dX1_control_150 : decode cX1_control 150 = .ok (.invokestatic 140, 3) := by decide +kernel
theorem dX1_control_153 : decode cX1_control 153 = .ok (.ladd, 1) := by decide +kernel
theorem dX1_control_154 : decode cX1_control 154 = .ok (.lstore 11, 2) := by decide +kernel
theorem dX1_control_156 : decode cX1_control 156 = .ok (.lload 9, 2) := by decide +kernel
theorem dX1_control_158 : decode cX1_control 158 = .ok (.lload 11, 2) := by decide +kernel
theorem dX1_control_160 : decode cX1_control 160 = .ok (.ladd, 1) := by decide +kernel
theorem dX1_control_161 : decode cX1_control 161 = .ok (.lstore 13, 2) := by decide +kernel
theorem dX1_control_163 : decode cX1_control 163 = .ok (.aload_n 0, 1) := by decide +kernel
theorem dX1_control_164 : decode cX1_control 164 = .ok (.lload 13, 2) := by decide +kernel
theorem dX1_control_166 : decode cX1_control 166 = .ok (.aload_n 1, 1) := by decide +kernel
theorem dX1_control_167 : decode cX1_control 167 = .ok (.invokevirtual 144, 3) := by decide +kernel
theorem dX1_control_170 : decode cX1_control 170 = .ok (.lstore 15, 2) := by decide +kernel
theorem dX1_control_172 : decode cX1_control 172 = .ok (.aload_n 0, 1) := by decide +kernel
theorem dX1_control_173 : decode cX1_control 173 = .ok (.getfield 27, 3) := by decide +kernel
theorem dX1_control_176 : decode cX1_control 176 = .ok (.iconst 2, 1) := by decide +kernel
theorem dX1_control_177 : decode cX1_control 177 = .ok (.lload 15, 2) := by decide +kernel
theorem dX1_control_179 : decode cX1_control 179 = .ok (.l2i, 1) := by decide +kernel
theorem dX1_control_180 : decode cX1_control 180 = .ok (.iastore, 1) := by decide +kernel
theorem dX1_control_181 : decode cX1_control 181 = .ok (.lload 15, 2) := by decide +kernel
theorem dX1_control_183 : decode cX1_control 183 = .ok (.lload 13, 2) := by decide +kernel
theorem dX1_control_185 : decode cX1_control 185 = .ok (.lcmp, 1) := by decide +kernel
theorem dX1_control_186 : decode cX1_control 186 = .ok (.ifCond .ge 13, 3) := by decide +kernel
theorem dX1_control_189 : decode cX1_control 189 = .ok (.aload_n 0, 1) := by decide +kernel
theorem dX1_control_190 : decode cX1_control 190 = .ok (.getfield 27, 3) := by decide +kernel
theorem dX1_control_193 : decode cX1_control 193 = .ok (.bipush 6, 2) := by decide +kernel
theorem dX1_control_195 : decode cX1_control 195 = .ok (.iaload, 1) := by decide +kernel
theorem dX1_control_196 : decode cX1_control 196 = .ok (.ifCond .gt 21, 3) := by decide +kernel
theorem dX1_control_199 : decode cX1_control 199 = .ok (.lload 15, 2) := by decide +kernel
theorem dX1_control_201 : decode cX1_control 201 = .ok (.lload 13, 2) := by decide +kernel
theorem dX1_control_203 : decode cX1_control 203 = .ok (.lcmp, 1) := by decide +kernel
theorem dX1_control_204 : decode cX1_control 204 = .ok (.ifCond .le 17, 3) := by decide +kernel
theorem dX1_control_207 : decode cX1_control 207 = .ok (.aload_n 0, 1) := by decide +kernel
theorem dX1_control_208 : decode cX1_control 208 = .ok (.getfield 27, 3) := by decide +kernel
theorem dX1_control_211 : decode cX1_control 211 = .ok (.bipush 6, 2) := by decide +kernel
theorem dX1_control_213 : decode cX1_control 213 = .ok (.iaload, 1) := by decide +kernel
theorem dX1_control_214 : decode cX1_control 214 = .ok (.ifCond .ge 7, 3) := by decide +kernel
theorem dX1_control_217 : decode cX1_control 217 = .ok (.iconst 1, 1) := by decide +kernel
theorem dX1_control_218 : decode cX1_control 218 = .ok (.goto 4, 3) := by decide +kernel
theorem dX1_control_221 : decode cX1_control 221 = .ok (.iconst 0, 1) := by decide +kernel
theorem dX1_control_222 : decode cX1_control 222 = .ok (.istore 17, 2) := by decide +kernel
theorem dX1_control_224 : decode cX1_control 224 = .ok (.iload 17, 2) := by decide +kernel
theorem dX1_control_226 : decode cX1_control 226 = .ok (.ifCond .ne 13, 3) := by decide +kernel
theorem dX1_control_229 : decode cX1_control 229 = .ok (.aload_n 0, 1) := by decide +kernel
theorem dX1_control_230 : decode cX1_control 230 = .ok (.getfield 27, 3) := by decide +kernel
theorem dX1_control_233 : decode cX1_control 233 = .ok (.bipush 7, 2) := by decide +kernel
theorem dX1_control_235 : decode cX1_control 235 = .ok (.lload 11, 2) := by decide +kernel
theorem dX1_control_237 : decode cX1_control 237 = .ok (.l2i, 1) := by decide +kernel
theorem dX1_control_238 : decode cX1_control 238 = .ok (.iastore, 1) := by decide +kernel
theorem dX1_control_239 : decode cX1_control 239 = .ok (.return_, 1) := by decide +kernel
set_option maxRecDepth 20000 in
theorem ggX1_outputFor_X3_get : GoodIn wsX1_outputFor wsX3_get := goodIn_r _ [6, 7, 8, 9, 10, 29] (by decide +kernel) (by decide +kernel)
set_option maxRecDepth 20000 in
theorem gX1_outputFor_X3_get : GoodIn wsX1_outputFor (wsV RX1 84 RX3 yX3_get wsX3_get) := goodIn_app (goodIn_of _ (by decide +kernel)) ggX1_outputFor_X3_get
set_option maxRecDepth 20000 in
theorem ggX1_outputFor_X6_limited : GoodIn wsX1_outputFor wsX6_limited := goodIn_r _ [12, 13, 14, 15, 16, 17, 18, 19] (by decide +kernel) (by decide +kernel)
set_option maxRecDepth 20000 in
theorem gX1_outputFor_X6_limited_n148 : GoodIn wsX1_outputFor (wsX6_limited) := ggX1_outputFor_X6_limited
theorem dX1_outputFor_0 : decode cX1_outputFor 0 = .ok (.lload_n 1, 1) := by decide +kernel
theorem dX1_outputFor_1 : decode cX1_outputFor 1 = .ok (.aload_n 3, 1) := by decide +kernel
theorem dX1_outputFor_2 : decode cX1_outputFor 2 = .ok (.bipush 9, 2) := by decide +kernel
theorem dX1_outputFor_4 : decode cX1_outputFor 4 = .ok (.invokevirtual 84, 3) := by decide +kernel
theorem dX1_outputFor_7 : decode cX1_outputFor 7 = .ok (.i2l, 1) := by decide +kernel
theorem dX1_outputFor_8 : decode cX1_outputFor 8 = .ok (.aload_n 3, 1) := by decide +kernel
theorem dX1_outputFor_9 : decode cX1_outputFor 9 = .ok (.bipush 10, 2) := by decide +kernel
theorem dX1_outputFor_11 : decode cX1_outputFor 11 = .ok (.invokevirtual 84, 3) := by decide +kernel
theorem dX1_outputFor_14 : decode cX1_outputFor 14 = .ok (.i2l, 1) := by decide +kernel
theorem dX1_outputFor_15 : decode cX1_outputFor 15 = .ok (.invokestatic 148, 3) := by decide +kernel
theorem dX1_outputFor_18 : decode cX1_outputFor 18 = .ok (.lstore 4, 2) := by decide +kernel
theorem dX1_outputFor_20 : decode cX1_outputFor 20 = .ok (.aload_n 3, 1) := by decide +kernel
theorem dX1_outputFor_21 : decode cX1_outputFor 21 = .ok (.bipush 11, 2) := by decide +kernel
theorem dX1_outputFor_23 : decode cX1_outputFor 23 = .ok (.invokevirtual 84, 3) := by decide +kernel
theorem dX1_outputFor_26 : decode cX1_outputFor 26 = .ok (.i2l, 1) := by decide +kernel
theorem dX1_outputFor_27 : decode cX1_outputFor 27 = .ok (.lstore 6, 2) := by decide +kernel
theorem dX1_outputFor_29 : decode cX1_outputFor 29 = .ok (.lload 4, 2) := by decide +kernel
theorem dX1_outputFor_31 : decode cX1_outputFor 31 = .ok (.aload_n 0, 1) := by decide +kernel
theorem dX1_outputFor_32 : decode cX1_outputFor 32 = .ok (.getfield 27, 3) := by decide +kernel
theorem dX1_outputFor_35 : decode cX1_outputFor 35 = .ok (.iconst 2, 1) := by decide +kernel
theorem dX1_outputFor_36 : decode cX1_outputFor 36 = .ok (.iaload, 1) := by decide +kernel
theorem dX1_outputFor_37 : decode cX1_outputFor 37 = .ok (.i2l, 1) := by decide +kernel
theorem dX1_outputFor_38 : decode cX1_outputFor 38 = .ok (.lload 6, 2) := by decide +kernel
theorem dX1_outputFor_40 : decode cX1_outputFor 40 = .ok (.lsub, 1) := by decide +kernel
theorem dX1_outputFor_41 : decode cX1_outputFor 41 = .ok (.aload_n 0, 1) := by decide +kernel
theorem dX1_outputFor_42 : decode cX1_outputFor 42 = .ok (.getfield 27, 3) := by decide +kernel
theorem dX1_outputFor_45 : decode cX1_outputFor 45 = .ok (.iconst 2, 1) := by decide +kernel
theorem dX1_outputFor_46 : decode cX1_outputFor 46 = .ok (.iaload, 1) := by decide +kernel
theorem dX1_outputFor_47 : decode cX1_outputFor 47 = .ok (.i2l, 1) := by decide +kernel
theorem dX1_outputFor_48 : decode cX1_outputFor 48 = .ok (.lload 6, 2) := by decide +kernel
theorem dX1_outputFor_50 : decode cX1_outputFor 50 = .ok (.ladd, 1) := by decide +kernel
theorem dX1_outputFor_51 : decode cX1_outputFor 51 = .ok (.invokestatic 148, 3) := by decide +kernel
theorem dX1_outputFor_54 : decode cX1_outputFor 54 = .ok (.lreturn, 1) := by decide +kernel
set_option maxRecDepth 20000 in
theorem ggX1_keepRecords_J9_floorMod_7cf53 : GoodIn wsX1_keepRecords wsJ9_floorMod_7cf53 := goodIn_r _ [7] (by decide +kernel) (by decide +kernel)
set_option maxRecDepth 20000 in
theorem gX1_keepRecords_J9_floorMod_7cf53 : GoodIn wsX1_keepRecords (va_wsS RX1 72 yJ9_floorMod_7cf53 wsJ9_floorMod_7cf53) := goodIn_app (goodIn_of _ (by decide +kernel)) ggX1_keepRecords_J9_floorMod_7cf53
theorem dX1_keepRecords_0 : decode cX1_keepRecords 0 = .ok (.iconst 0, 1) := by decide +kernel
theorem dX1_keepRecords_1 : decode cX1_keepRecords 1 = .ok (.istore_n 1, 1) := by decide +kernel
theorem dX1_keepRecords_2 : decode cX1_keepRecords 2 = .ok (.iload_n 1, 1) := by decide +kernel
theorem dX1_keepRecords_3 : decode cX1_keepRecords 3 = .ok (.bipush 10, 2) := by decide +kernel
theorem dX1_keepRecords_5 : decode cX1_keepRecords 5 = .ok (.if_icmp .ge 34, 3) := by decide +kernel
theorem dX1_keepRecords_8 : decode cX1_keepRecords 8 = .ok (.aload_n 0, 1) := by decide +kernel
theorem dX1_keepRecords_9 : decode cX1_keepRecords 9 = .ok (.getfield 31, 3) := by decide +kernel
theorem dX1_keepRecords_12 : decode cX1_keepRecords 12 = .ok (.iload_n 1, 1) := by decide +kernel
theorem dX1_keepRecords_13 : decode cX1_keepRecords 13 = .ok (.bipush 64, 2) := by decide +kernel
theorem dX1_keepRecords_15 : decode cX1_keepRecords 15 = .ok (.imul, 1) := by decide +kernel
theorem dX1_keepRecords_16 : decode cX1_keepRecords 16 = .ok (.aload_n 0, 1) := by decide +kernel
theorem dX1_keepRecords_17 : decode cX1_keepRecords 17 = .ok (.getfield 9, 3) := by decide +kernel
theorem dX1_keepRecords_20 : decode cX1_keepRecords 20 = .ok (.bipush 64, 2) := by decide +kernel
theorem dX1_keepRecords_22 : decode cX1_keepRecords 22 = .ok (.invokestatic 72, 3) := by decide +kernel
theorem dX1_keepRecords_25 : decode cX1_keepRecords 25 = .ok (.iadd, 1) := by decide +kernel
theorem dX1_keepRecords_26 : decode cX1_keepRecords 26 = .ok (.aload_n 0, 1) := by decide +kernel
theorem dX1_keepRecords_27 : decode cX1_keepRecords 27 = .ok (.getfield 27, 3) := by decide +kernel
theorem dX1_keepRecords_30 : decode cX1_keepRecords 30 = .ok (.iload_n 1, 1) := by decide +kernel
theorem dX1_keepRecords_31 : decode cX1_keepRecords 31 = .ok (.iaload, 1) := by decide +kernel
theorem dX1_keepRecords_32 : decode cX1_keepRecords 32 = .ok (.iastore, 1) := by decide +kernel
theorem dX1_keepRecords_33 : decode cX1_keepRecords 33 = .ok (.iinc 1 1, 3) := by decide +kernel
theorem dX1_keepRecords_36 : decode cX1_keepRecords 36 = .ok (.goto (-34), 3) := by decide +kernel
theorem dX1_keepRecords_39 : decode cX1_keepRecords 39 = .ok (.return_, 1) := by decide +kernel
set_option maxRecDepth 20000 in
theorem ggX1_moveOn_X3_get : GoodIn wsX1_moveOn wsX3_get := goodIn_r _ [8, 9, 10, 11, 12, 49] (by decide +kernel) (by decide +kernel)
set_option maxRecDepth 20000 in
theorem gX1_moveOn_X3_get : GoodIn wsX1_moveOn (wsV RX1 84 RX3 yX3_get wsX3_get) := goodIn_app (goodIn_of _ (by decide +kernel)) ggX1_moveOn_X3_get
set_option maxRecDepth 20000 in
theorem ggX1_moveOn_X1_delayed : GoodIn wsX1_moveOn wsX1_delayed := goodIn_r _ [17, 3, 18, 19, 20, 21, 16, 22, 23, 24, 11, 25, 26, 27, 28, 29, 30, 31, 32, 40, 41, 42, 43, 44, 45, 46, 47, 48] (by decide +kernel) (by decide +kernel)
set_option maxRecDepth 20000 in
theorem gX1_moveOn_X1_delayed : GoodIn wsX1_moveOn (wsV RX1 93 RX1 yX1_delayed wsX1_delayed) := goodIn_app (goodIn_of _ (by decide +kernel)) ggX1_moveOn_X1_delayed
set_option maxRecDepth 20000 in
theorem ggX1_moveOn_X6_thousandth : GoodIn wsX1_moveOn wsX6_thousandth := goodIn_r _ [34, 35, 36, 31, 28, 32] (by decide +kernel) (by decide +kernel)
set_option maxRecDepth 20000 in
theorem gX1_moveOn_X6_thousandth_n140 : GoodIn wsX1_moveOn (wsX6_thousandth) := ggX1_moveOn_X6_thousandth
set_option maxRecDepth 20000 in
theorem ggX1_moveOn_X6_stepped : GoodIn wsX1_moveOn wsX6_stepped := goodIn_r _ [38, 39, 33, 11, 34, 35, 36, 31, 28, 32] (by decide +kernel) (by decide +kernel)
set_option maxRecDepth 20000 in
theorem gX1_moveOn_X6_stepped_n97 : GoodIn wsX1_moveOn (wsX6_stepped) := ggX1_moveOn_X6_stepped
theorem dX1_moveOn_0 : decode cX1_moveOn 0 = .ok (.aload_n 0, 1) := by decide +kernel
theorem dX1_moveOn_1 : decode cX1_moveOn 1 = .ok (.iconst 2, 1) := by decide +kernel
theorem dX1_moveOn_2 : decode cX1_moveOn 2 = .ok (.aload_n 0, 1) := by decide +kernel
theorem dX1_moveOn_3 : decode cX1_moveOn 3 = .ok (.getfield 27, 3) := by decide +kernel
theorem dX1_moveOn_6 : decode cX1_moveOn 6 = .ok (.iconst 2, 1) := by decide +kernel
theorem dX1_moveOn_7 : decode cX1_moveOn 7 = .ok (.iaload, 1) := by decide +kernel
theorem dX1_moveOn_8 : decode cX1_moveOn 8 = .ok (.aload_n 1, 1) := by decide +kernel
theorem dX1_moveOn_9 : decode cX1_moveOn 9 = .ok (.iconst 4, 1) := by decide +kernel
theorem dX1_moveOn_10 : decode cX1_moveOn 10 = .ok (.invokevirtual 84, 3) := by decide +kernel
theorem dX1_moveOn_13 : decode cX1_moveOn 13 = .ok (.invokevirtual 93, 3) := by decide +kernel
theorem dX1_moveOn_16 : decode cX1_moveOn 16 = .ok (.aload_n 0, 1) := by decide +kernel
theorem dX1_moveOn_17 : decode cX1_moveOn 17 = .ok (.getfield 15, 3) := by decide +kernel
theorem dX1_moveOn_20 : decode cX1_moveOn 20 = .ok (.iadd, 1) := by decide +kernel
theorem dX1_moveOn_21 : decode cX1_moveOn 21 = .ok (.i2l, 1) := by decide +kernel
theorem dX1_moveOn_22 : decode cX1_moveOn 22 = .ok (.lstore_n 2, 1) := by decide +kernel
theorem dX1_moveOn_23 : decode cX1_moveOn 23 = .ok (.aload_n 1, 1) := by decide +kernel
theorem dX1_moveOn_24 : decode cX1_moveOn 24 = .ok (.iconst 2, 1) := by decide +kernel
theorem dX1_moveOn_25 : decode cX1_moveOn 25 = .ok (.invokevirtual 84, 3) := by decide +kernel
theorem dX1_moveOn_28 : decode cX1_moveOn 28 = .ok (.i2l, 1) := by decide +kernel
theorem dX1_moveOn_29 : decode cX1_moveOn 29 = .ok (.lload_n 2, 1) := by decide +kernel
theorem dX1_moveOn_30 : decode cX1_moveOn 30 = .ok (.lmul, 1) := by decide +kernel
theorem dX1_moveOn_31 : decode cX1_moveOn 31 = .ok (.invokestatic 140, 3) := by decide +kernel
theorem dX1_moveOn_34 : decode cX1_moveOn 34 = .ok (.lstore 4, 2) := by decide +kernel
theorem dX1_moveOn_36 : decode cX1_moveOn 36 = .ok (.aload_n 1, 1) := by decide +kernel
theorem dX1_moveOn_37 : decode cX1_moveOn 37 = .ok (.iconst 5, 1) := by decide +kernel
theorem dX1_moveOn_38 : decode cX1_moveOn 38 = .ok (.invokevirtual 84, 3) := by decide +kernel
theorem dX1_moveOn_41 : decode cX1_moveOn 41 = .ok (.i2l, 1) := by decide +kernel
theorem dX1_moveOn_42 : decode cX1_moveOn 42 = .ok (.aload_n 0, 1) := by decide +kernel
theorem dX1_moveOn_43 : decode cX1_moveOn 43 = .ok (.getfield 27, 3) := by decide +kernel
theorem dX1_moveOn_46 : decode cX1_moveOn 46 = .ok (.iconst 2, 1) := by decide +kernel
theorem dX1_moveOn_47 : decode cX1_moveOn 47 = .ok (.iaload, 1) := by decide +kernel
theorem dX1_moveOn_48 : decode cX1_moveOn 48 = .ok (.i2l, 1) := by decide +kernel
theorem dX1_moveOn_49 : decode cX1_moveOn 49 = .ok (.lmul, 1) := by decide +kernel
theorem dX1_moveOn_50 : decode cX1_moveOn 50 = .ok (.invokestatic 140, 3) := by decide +kernel
theorem dX1_moveOn_53 : decode cX1_moveOn 53 = .ok (.lstore 6, 2) := by decide +kernel
theorem dX1_moveOn_55 : decode cX1_moveOn 55 = .ok (.aload_n 0, 1) := by decide +kernel
theorem dX1_moveOn_56 : decode cX1_moveOn 56 = .ok (.getfield 27, 3) := by decide +kernel
theorem dX1_moveOn_59 : decode cX1_moveOn 59 = .ok (.bipush 8, 2) := by decide +kernel
theorem dX1_moveOn_61 : decode cX1_moveOn 61 = .ok (.aload_n 0, 1) := by decide +kernel
theorem dX1_moveOn_62 : decode cX1_moveOn 62 = .ok (.getfield 27, 3) := by decide +kernel
theorem dX1_moveOn_65 : decode cX1_moveOn 65 = .ok (.bipush 8, 2) := by decide +kernel
theorem dX1_moveOn_67 : decode cX1_moveOn 67 = .ok (.iaload, 1) := by decide +kernel
theorem dX1_moveOn_68 : decode cX1_moveOn 68 = .ok (.i2l, 1) := by decide +kernel
theorem dX1_moveOn_69 : decode cX1_moveOn 69 = .ok (.lload 4, 2) := by decide +kernel
theorem dX1_moveOn_71 : decode cX1_moveOn 71 = .ok (.sipush 1000, 3) := by decide +kernel
theorem dX1_moveOn_74 : decode cX1_moveOn 74 = .ok (.aload_n 1, 1) := by decide +kernel
theorem dX1_moveOn_75 : decode cX1_moveOn 75 = .ok (.iconst 3, 1) := by decide +kernel
theorem dX1_moveOn_76 : decode cX1_moveOn 76 = .ok (.invokevirtual 84, 3) := by decide +kernel
theorem dX1_moveOn_79 : decode cX1_moveOn 79 = .ok (.isub, 1) := by decide +kernel
theorem dX1_moveOn_80 : decode cX1_moveOn 80 = .ok (.i2l, 1) := by decide +kernel
theorem dX1_moveOn_81 : decode cX1_moveOn 81 = .ok (.invokestatic 97, 3) := by decide +kernel
theorem dX1_moveOn_84 : decode cX1_moveOn 84 = .ok (.iastore, 1) := by decide +kernel
theorem dX1_moveOn_85 : decode cX1_moveOn 85 = .ok (.aload_n 0, 1) := by decide +kernel
theorem dX1_moveOn_86 : decode cX1_moveOn 86 = .ok (.getfield 27, 3) := by decide +kernel
theorem dX1_moveOn_89 : decode cX1_moveOn 89 = .ok (.iconst 3, 1) := by decide +kernel
theorem dX1_moveOn_90 : decode cX1_moveOn 90 = .ok (.aload_n 0, 1) := by decide +kernel
theorem dX1_moveOn_91 : decode cX1_moveOn 91 = .ok (.getfield 27, 3) := by decide +kernel
theorem dX1_moveOn_94 : decode cX1_moveOn 94 = .ok (.iconst 3, 1) := by decide +kernel
theorem dX1_moveOn_95 : decode cX1_moveOn 95 = .ok (.iaload, 1) := by decide +kernel
theorem dX1_moveOn_96 : decode cX1_moveOn 96 = .ok (.i2l, 1) := by decide +kernel
theorem dX1_moveOn_97 : decode cX1_moveOn 97 = .ok (.lload 6, 2) := by decide +kernel
theorem dX1_moveOn_99 : decode cX1_moveOn 99 = .ok (.sipush 1000, 3) := by decide +kernel
theorem dX1_moveOn_102 : decode cX1_moveOn 102 = .ok (.aload_n 1, 1) := by decide +kernel
theorem dX1_moveOn_103 : decode cX1_moveOn 103 = .ok (.bipush 6, 2) := by decide +kernel
theorem dX1_moveOn_105 : decode cX1_moveOn 105 = .ok (.invokevirtual 84, 3) := by decide +kernel
theorem dX1_moveOn_108 : decode cX1_moveOn 108 = .ok (.isub, 1) := by decide +kernel
theorem dX1_moveOn_109 : decode cX1_moveOn 109 = .ok (.i2l, 1) := by decide +kernel
theorem dX1_moveOn_110 : decode cX1_moveOn 110 = .ok (.invokestatic 97, 3) := by decide +kernel
theorem dX1_moveOn_113 : decode cX1_moveOn 113 = .ok (.iastore, 1) := by decide +kernel
theorem dX1_moveOn_114 : decode cX1_moveOn 114 = .ok (.aload_n 0, 1) := by decide +kernel
theorem dX1_moveOn_115 : decode cX1_moveOn 115 = .ok (.dup, 1) := by decide +kernel
theorem dX1_moveOn_116 : decode cX1_moveOn 116 = .ok (.getfield 9, 3) := by decide +kernel
theorem dX1_moveOn_119 : decode cX1_moveOn 119 = .ok (.iconst 1, 1) := by decide +kernel
theorem dX1_moveOn_120 : decode cX1_moveOn 120 = .ok (.iadd, 1) := by decide +kernel
theorem dX1_moveOn_121 : decode cX1_moveOn 121 = .ok (.putfield 9, 3) := by decide +kernel
theorem dX1_moveOn_124 : decode cX1_moveOn 124 = .ok (.return_, 1) := by decide +kernel

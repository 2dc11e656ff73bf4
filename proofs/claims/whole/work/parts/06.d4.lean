theorem dX4_init_0 : decode cX4_init 0 = .ok (.aload_n 0, 1) := by decide +kernel
theorem dX4_init_1 : decode cX4_init 1 = .ok (.invokespecial 3, 3) := by decide +kernel
theorem dX4_init_4 : decode cX4_init 4 = .ok (.aload_n 0, 1) := by decide +kernel
theorem dX4_init_5 : decode cX4_init 5 = .ok (.bipush 80, 2) := by decide +kernel
theorem dX4_init_7 : decode cX4_init 7 = .ok (.newarray .char, 2) := by decide +kernel
theorem dX4_init_9 : decode cX4_init 9 = .ok (.putfield 9, 3) := by decide +kernel
theorem dX4_init_12 : decode cX4_init 12 = .ok (.aload_n 0, 1) := by decide +kernel
theorem dX4_init_13 : decode cX4_init 13 = .ok (.bipush 16, 2) := by decide +kernel
theorem dX4_init_15 : decode cX4_init 15 = .ok (.newarray .int, 2) := by decide +kernel
theorem dX4_init_17 : decode cX4_init 17 = .ok (.putfield 15, 3) := by decide +kernel
theorem dX4_init_20 : decode cX4_init 20 = .ok (.aload_n 0, 1) := by decide +kernel
theorem dX4_init_21 : decode cX4_init 21 = .ok (.bipush 16, 2) := by decide +kernel
theorem dX4_init_23 : decode cX4_init 23 = .ok (.newarray .int, 2) := by decide +kernel
theorem dX4_init_25 : decode cX4_init 25 = .ok (.putfield 19, 3) := by decide +kernel
theorem dX4_init_28 : decode cX4_init 28 = .ok (.aload_n 0, 1) := by decide +kernel
theorem dX4_init_29 : decode cX4_init 29 = .ok (.iconst 0, 1) := by decide +kernel
theorem dX4_init_30 : decode cX4_init 30 = .ok (.putfield 22, 3) := by decide +kernel
theorem dX4_init_33 : decode cX4_init 33 = .ok (.aload_n 0, 1) := by decide +kernel
theorem dX4_init_34 : decode cX4_init 34 = .ok (.iconst 0, 1) := by decide +kernel
theorem dX4_init_35 : decode cX4_init 35 = .ok (.putfield 26, 3) := by decide +kernel
theorem dX4_init_38 : decode cX4_init 38 = .ok (.return_, 1) := by decide +kernel
theorem dX4_append_0 : decode cX4_append 0 = .ok (.aload_n 0, 1) := by decide +kernel
theorem dX4_append_1 : decode cX4_append 1 = .ok (.getfield 22, 3) := by decide +kernel
theorem dX4_append_4 : decode cX4_append 4 = .ok (.bipush 80, 2) := by decide +kernel
theorem dX4_append_6 : decode cX4_append 6 = .ok (.if_icmp .lt 5, 3) := by decide +kernel
theorem dX4_append_9 : decode cX4_append 9 = .ok (.iconst 0, 1) := by decide +kernel
theorem dX4_append_10 : decode cX4_append 10 = .ok (.ireturn, 1) := by decide +kernel
theorem dX4_append_11 : decode cX4_append 11 = .ok (.aload_n 0, 1) := by decide +kernel
theorem dX4_append_12 : decode cX4_append 12 = .ok (.getfield 9, 3) := by decide +kernel
theorem dX4_append_15 : decode cX4_append 15 = .ok (.aload_n 0, 1) := by decide +kernel
theorem dX4_append_16 : decode cX4_append 16 = .ok (.getfield 22, 3) := by decide +kernel
theorem dX4_append_19 : decode cX4_append 19 = .ok (.iload_n 1, 1) := by decide +kernel
theorem dX4_append_20 : decode cX4_append 20 = .ok (.castore, 1) := by decide +kernel
theorem dX4_append_21 : decode cX4_append 21 = .ok (.aload_n 0, 1) := by decide +kernel
theorem dX4_append_22 : decode cX4_append 22 = .ok (.dup, 1) := by decide +kernel
theorem dX4_append_23 : decode cX4_append 23 = .ok (.getfield 22, 3) := by decide +kernel
theorem dX4_append_26 : decode cX4_append 26 = .ok (.iconst 1, 1) := by decide +kernel
theorem dX4_append_27 : decode cX4_append 27 = .ok (.iadd, 1) := by decide +kernel
theorem dX4_append_28 : decode cX4_append 28 = .ok (.putfield 22, 3) := by decide +kernel
theorem dX4_append_31 : decode cX4_append 31 = .ok (.iconst 1, 1) := by decide +kernel
theorem dX4_append_32 : decode cX4_append 32 = .ok (.ireturn, 1) := by decide +kernel
set_option maxRecDepth 20000 in
theorem ggX4_read_X4_readAssignment : GoodIn wsX4_read wsX4_readAssignment := goodIn_r _ [7, 8, 9, 10, 6, 11, 12, 13, 14, 15, 16, 17, 18, 19, 20, 21, 22, 23, 24, 25, 26, 27, 28, 29, 30, 31, 32, 33, 34, 2, 35, 36, 37, 38, 39, 40, 41, 42, 43, 44, 45, 46, 47, 48, 49, 50, 51, 52, 53, 54, 55, 56, 57, 58, 59, 60, 61, 62, 63, 64, 65, 66, 67, 68, 69, 70, 71, 72, 73, 74, 75, 76, 77, 78, 79, 80, 1, 81, 82, 83, 84, 85, 86, 87, 88, 89, 90, 91, 92, 93, 94] (by decide +kernel) (by decide +kernel)
set_option maxRecDepth 20000 in
theorem gX4_read_X4_readAssignment : GoodIn wsX4_read (wsV RX4 29 RX4 yX4_readAssignment wsX4_readAssignment) := goodIn_app (goodIn_of _ (by decide +kernel)) ggX4_read_X4_readAssignment
theorem dX4_read_0 : decode cX4_read 0 = .ok (.iconst 0, 1) := by decide +kernel
theorem dX4_read_1 : decode cX4_read 1 = .ok (.istore_n 1, 1) := by decide +kernel
theorem dX4_read_2 : decode cX4_read 2 = .ok (.aload_n 0, 1) := by decide +kernel
theorem dX4_read_3 : decode cX4_read 3 = .ok (.iconst 0, 1) := by decide +kernel
theorem dX4_read_4 : decode cX4_read 4 = .ok (.putfield 26, 3) := by decide +kernel
theorem dX4_read_7 : decode cX4_read 7 = .ok (.iload_n 1, 1) := by decide +kernel
theorem dX4_read_8 : decode cX4_read 8 = .ok (.aload_n 0, 1) := by decide +kernel
theorem dX4_read_9 : decode cX4_read 9 = .ok (.getfield 22, 3) := by decide +kernel
theorem dX4_read_12 : decode cX4_read 12 = .ok (.if_icmp .ge 21, 3) := by decide +kernel
theorem dX4_read_15 : decode cX4_read 15 = .ok (.aload_n 0, 1) := by decide +kernel
theorem dX4_read_16 : decode cX4_read 16 = .ok (.iload_n 1, 1) := by decide +kernel
theorem dX4_read_17 : decode cX4_read 17 = .ok (.invokevirtual 29, 3) := by decide +kernel
theorem dX4_read_20 : decode cX4_read 20 = .ok (.istore_n 2, 1) := by decide +kernel
theorem dX4_read_21 : decode cX4_read 21 = .ok (.iload_n 2, 1) := by decide +kernel
theorem dX4_read_22 : decode cX4_read 22 = .ok (.iload_n 1, 1) := by decide +kernel
theorem dX4_read_23 : decode cX4_read 23 = .ok (.if_icmp .gt 5, 3) := by decide +kernel
theorem dX4_read_26 : decode cX4_read 26 = .ok (.iload_n 1, 1) := by decide +kernel
theorem dX4_read_27 : decode cX4_read 27 = .ok (.ireturn, 1) := by decide +kernel
theorem dX4_read_28 : decode cX4_read 28 = .ok (.iload_n 2, 1) := by decide +kernel
theorem dX4_read_29 : decode cX4_read 29 = .ok (.istore_n 1, 1) := by decide +kernel
theorem dX4_read_30 : decode cX4_read 30 = .ok (.goto (-23), 3) := by decide +kernel
theorem dX4_read_33 : decode cX4_read 33 = .ok (.iconst (-1), 1) := by decide +kernel
theorem dX4_read_34 : decode cX4_read 34 = .ok (.ireturn, 1) := by decide +kernel
set_option maxRecDepth 20000 in
theorem ggX4_assignTo_X3_set : GoodIn wsX4_assignTo wsX3_set := goodIn_r _ [8, 9, 10, 11, 12, 18] (by decide +kernel) (by decide +kernel)
set_option maxRecDepth 20000 in
theorem gX4_assignTo_X3_set : GoodIn wsX4_assignTo (wsV RX4 33 RX3 yX3_set wsX3_set) := goodIn_app (goodIn_of _ (by decide +kernel)) ggX4_assignTo_X3_set
theorem dX4_assignTo_0 : decode cX4_assignTo 0 = .ok (.iconst 0, 1) := by decide +kernel
theorem dX4_assignTo_1 : decode cX4_assignTo 1 = .ok (.istore_n 2, 1) := by decide +kernel
theorem dX4_assignTo_2 : decode cX4_assignTo 2 = .ok (.iload_n 2, 1) := by decide +kernel
theorem dX4_assignTo_3 : decode cX4_assignTo 3 = .ok (.aload_n 0, 1) := by decide +kernel
theorem dX4_assignTo_4 : decode cX4_assignTo 4 = .ok (.getfield 26, 3) := by decide +kernel
theorem dX4_assignTo_7 : decode cX4_assignTo 7 = .ok (.if_icmp .ge 31, 3) := by decide +kernel
theorem dX4_assignTo_10 : decode cX4_assignTo 10 = .ok (.iload_n 2, 1) := by decide +kernel
theorem dX4_assignTo_11 : decode cX4_assignTo 11 = .ok (.bipush 16, 2) := by decide +kernel
theorem dX4_assignTo_13 : decode cX4_assignTo 13 = .ok (.if_icmp .ge 25, 3) := by decide +kernel
theorem dX4_assignTo_16 : decode cX4_assignTo 16 = .ok (.aload_n 1, 1) := by decide +kernel
theorem dX4_assignTo_17 : decode cX4_assignTo 17 = .ok (.aload_n 0, 1) := by decide +kernel
theorem dX4_assignTo_18 : decode cX4_assignTo 18 = .ok (.getfield 15, 3) := by decide +kernel
theorem dX4_assignTo_21 : decode cX4_assignTo 21 = .ok (.iload_n 2, 1) := by decide +kernel
theorem dX4_assignTo_22 : decode cX4_assignTo 22 = .ok (.iaload, 1) := by decide +kernel
theorem dX4_assignTo_23 : decode cX4_assignTo 23 = .ok (.aload_n 0, 1) := by decide +kernel
theorem dX4_assignTo_24 : decode cX4_assignTo 24 = .ok (.getfield 19, 3) := by decide +kernel
theorem dX4_assignTo_27 : decode cX4_assignTo 27 = .ok (.iload_n 2, 1) := by decide +kernel
theorem dX4_assignTo_28 : decode cX4_assignTo 28 = .ok (.iaload, 1) := by decide +kernel
theorem dX4_assignTo_29 : decode cX4_assignTo 29 = .ok (.invokevirtual 33, 3) := by decide +kernel
theorem dX4_assignTo_32 : decode cX4_assignTo 32 = .ok (.iinc 2 1, 3) := by decide +kernel
theorem dX4_assignTo_35 : decode cX4_assignTo 35 = .ok (.goto (-33), 3) := by decide +kernel
theorem dX4_assignTo_38 : decode cX4_assignTo 38 = .ok (.return_, 1) := by decide +kernel
set_option maxRecDepth 20000 in
theorem ggX4_different_X4_isFirst : GoodIn wsX4_different wsX4_isFirst := goodIn_r _ [6, 7, 8, 9, 10, 11, 12] (by decide +kernel) (by decide +kernel)
set_option maxRecDepth 20000 in
theorem gX4_different_X4_isFirst : GoodIn wsX4_different (wsV RX4 39 RX4 yX4_isFirst wsX4_isFirst) := goodIn_app (goodIn_of _ (by decide +kernel)) ggX4_different_X4_isFirst
theorem dX4_different_0 : decode cX4_different 0 = .ok (.iconst 0, 1) := by decide +kernel
theorem dX4_different_1 : decode cX4_different 1 = .ok (.istore_n 1, 1) := by decide +kernel
theorem dX4_different_2 : decode cX4_different 2 = .ok (.iconst 0, 1) := by decide +kernel
theorem dX4_different_3 : decode cX4_different 3 = .ok (.istore_n 2, 1) := by decide +kernel
theorem dX4_different_4 : decode cX4_different 4 = .ok (.iload_n 2, 1) := by decide +kernel
theorem dX4_different_5 : decode cX4_different 5 = .ok (.aload_n 0, 1) := by decide +kernel
theorem dX4_different_6 : decode cX4_different 6 = .ok (.getfield 26, 3) := by decide +kernel
theorem dX4_different_9 : decode cX4_different 9 = .ok (.if_icmp .ge 20, 3) := by decide +kernel
theorem dX4_different_12 : decode cX4_different 12 = .ok (.aload_n 0, 1) := by decide +kernel
theorem dX4_different_13 : decode cX4_different 13 = .ok (.iload_n 2, 1) := by decide +kernel
theorem dX4_different_14 : decode cX4_different 14 = .ok (.invokevirtual 39, 3) := by decide +kernel
theorem dX4_different_17 : decode cX4_different 17 = .ok (.ifCond .eq 6, 3) := by decide +kernel
theorem dX4_different_20 : decode cX4_different 20 = .ok (.iinc 1 1, 3) := by decide +kernel
theorem dX4_different_23 : decode cX4_different 23 = .ok (.iinc 2 1, 3) := by decide +kernel
theorem dX4_different_26 : decode cX4_different 26 = .ok (.goto (-22), 3) := by decide +kernel
theorem dX4_different_29 : decode cX4_different 29 = .ok (.iload_n 1, 1) := by decide +kernel
theorem dX4_different_30 : decode cX4_different 30 = .ok (.ireturn, 1) := by decide +kernel
set_option maxRecDepth 20000 in
theorem ggX4_differentAt_X4_isFirst : GoodIn wsX4_differentAt wsX4_isFirst := goodIn_r _ [7, 2, 8, 9, 10, 11, 12] (by decide +kernel) (by decide +kernel)
set_option maxRecDepth 20000 in
theorem gX4_differentAt_X4_isFirst : GoodIn wsX4_differentAt (wsV RX4 39 RX4 yX4_isFirst wsX4_isFirst) := goodIn_app (goodIn_of _ (by decide +kernel)) ggX4_differentAt_X4_isFirst
theorem dX4_differentAt_0 : decode cX4_differentAt 0 = .ok (.iconst 0, 1) := by decide +kernel
theorem dX4_differentAt_1 : decode cX4_differentAt 1 = .ok (.istore_n 2, 1) := by decide +kernel
theorem dX4_differentAt_2 : decode cX4_differentAt 2 = .ok (.iconst 0, 1) := by decide +kernel
theorem dX4_differentAt_3 : decode cX4_differentAt 3 = .ok (.istore_n 3, 1) := by decide +kernel
theorem dX4_differentAt_4 : decode cX4_differentAt 4 = .ok (.iload_n 3, 1) := by decide +kernel
theorem dX4_differentAt_5 : decode cX4_differentAt 5 = .ok (.aload_n 0, 1) := by decide +kernel
theorem dX4_differentAt_6 : decode cX4_differentAt 6 = .ok (.getfield 26, 3) := by decide +kernel
theorem dX4_differentAt_9 : decode cX4_differentAt 9 = .ok (.if_icmp .ge 38, 3) := by decide +kernel
theorem dX4_differentAt_12 : decode cX4_differentAt 12 = .ok (.iload_n 3, 1) := by decide +kernel
theorem dX4_differentAt_13 : decode cX4_differentAt 13 = .ok (.bipush 16, 2) := by decide +kernel
theorem dX4_differentAt_15 : decode cX4_differentAt 15 = .ok (.if_icmp .ge 32, 3) := by decide +kernel
theorem dX4_differentAt_18 : decode cX4_differentAt 18 = .ok (.aload_n 0, 1) := by decide +kernel
theorem dX4_differentAt_19 : decode cX4_differentAt 19 = .ok (.iload_n 3, 1) := by decide +kernel
theorem dX4_differentAt_20 : decode cX4_differentAt 20 = .ok (.invokevirtual 39, 3) := by decide +kernel
theorem dX4_differentAt_23 : decode cX4_differentAt 23 = .ok (.ifCond .eq 18, 3) := by decide +kernel
theorem dX4_differentAt_26 : decode cX4_differentAt 26 = .ok (.iload_n 2, 1) := by decide +kernel
theorem dX4_differentAt_27 : decode cX4_differentAt 27 = .ok (.iload_n 1, 1) := by decide +kernel
theorem dX4_differentAt_28 : decode cX4_differentAt 28 = .ok (.if_icmp .ne 10, 3) := by decide +kernel
theorem dX4_differentAt_31 : decode cX4_differentAt 31 = .ok (.aload_n 0, 1) := by decide +kernel
theorem dX4_differentAt_32 : decode cX4_differentAt 32 = .ok (.getfield 15, 3) := by decide +kernel
theorem dX4_differentAt_35 : decode cX4_differentAt 35 = .ok (.iload_n 3, 1) := by decide +kernel
theorem dX4_differentAt_36 : decode cX4_differentAt 36 = .ok (.iaload, 1) := by decide +kernel
theorem dX4_differentAt_37 : decode cX4_differentAt 37 = .ok (.ireturn, 1) := by decide +kernel
theorem dX4_differentAt_38 : decode cX4_differentAt 38 = .ok (.iinc 2 1, 3) := by decide +kernel
theorem dX4_differentAt_41 : decode cX4_differentAt 41 = .ok (.iinc 3 1, 3) := by decide +kernel
theorem dX4_differentAt_44 : decode cX4_differentAt 44 = .ok (.goto (-40), 3) := by decide +kernel
theorem dX4_differentAt_47 : decode cX4_differentAt 47 = .ok (.iconst (-1), 1) := by decide +kernel
theorem dX4_differentAt_48 : decode cX4_differentAt 48 = .ok (.ireturn, 1) := by decide +kernel
theorem dX4_isFirst_0 : decode cX4_isFirst 0 = .ok (.iconst 0, 1) := by decide +kernel
theorem dX4_isFirst_1 : decode cX4_isFirst 1 = .ok (.istore_n 2, 1) := by decide +kernel
theorem dX4_isFirst_2 : decode cX4_isFirst 2 = .ok (.iload_n 2, 1) := by decide +kernel
theorem dX4_isFirst_3 : decode cX4_isFirst 3 = .ok (.iload_n 1, 1) := by decide +kernel
theorem dX4_isFirst_4 : decode cX4_isFirst 4 = .ok (.if_icmp .ge 32, 3) := by decide +kernel
theorem dX4_isFirst_7 : decode cX4_isFirst 7 = .ok (.iload_n 1, 1) := by decide +kernel
theorem dX4_isFirst_8 : decode cX4_isFirst 8 = .ok (.bipush 16, 2) := by decide +kernel
theorem dX4_isFirst_10 : decode cX4_isFirst 10 = .ok (.if_icmp .ge 26, 3) := by decide +kernel
theorem dX4_isFirst_13 : decode cX4_isFirst 13 = .ok (.aload_n 0, 1) := by decide +kernel
theorem dX4_isFirst_14 : decode cX4_isFirst 14 = .ok (.getfield 15, 3) := by decide +kernel
theorem dX4_isFirst_17 : decode cX4_isFirst 17 = .ok (.iload_n 2, 1) := by decide +kernel
theorem dX4_isFirst_18 : decode cX4_isFirst 18 = .ok (.iaload, 1) := by decide +kernel
theorem dX4_isFirst_19 : decode cX4_isFirst 19 = .ok (.aload_n 0, 1) := by decide +kernel
theorem dX4_isFirst_20 : decode cX4_isFirst 20 = .ok (.getfield 15, 3) := by decide +kernel
theorem dX4_isFirst_23 : decode cX4_isFirst 23 = .ok (.iload_n 1, 1) := by decide +kernel
theorem dX4_isFirst_24 : decode cX4_isFirst 24 = .ok (.iaload, 1) := by decide +kernel
theorem dX4_isFirst_25 : decode cX4_isFirst 25 = .ok (.if_icmp .ne 5, 3) := by decide +kernel
theorem dX4_isFirst_28 : decode cX4_isFirst 28 = .ok (.iconst 0, 1) := by decide +kernel
theorem dX4_isFirst_29 : decode cX4_isFirst 29 = .ok (.ireturn, 1) := by decide +kernel
theorem dX4_isFirst_30 : decode cX4_isFirst 30 = .ok (.iinc 2 1, 3) := by decide +kernel
theorem dX4_isFirst_33 : decode cX4_isFirst 33 = .ok (.goto (-31), 3) := by decide +kernel
theorem dX4_isFirst_36 : decode cX4_isFirst 36 = .ok (.iconst 1, 1) := by decide +kernel
theorem dX4_isFirst_37 : decode cX4_isFirst 37 = .ok (.ireturn, 1) := by decide +kernel
theorem dX4_characterAt_0 : decode cX4_characterAt 0 = .ok (.iload_n 1, 1) := by decide +kernel
theorem dX4_characterAt_1 : decode cX4_characterAt 1 = .ok (.ifCond .lt 26, 3) := by decide +kernel
theorem dX4_characterAt_4 : decode cX4_characterAt 4 = .ok (.iload_n 1, 1) := by decide +kernel
theorem dX4_characterAt_5 : decode cX4_characterAt 5 = .ok (.aload_n 0, 1) := by decide +kernel
theorem dX4_characterAt_6 : decode cX4_characterAt 6 = .ok (.getfield 22, 3) := by decide +kernel
theorem dX4_characterAt_9 : decode cX4_characterAt 9 = .ok (.if_icmp .ge 18, 3) := by decide +kernel
theorem dX4_characterAt_12 : decode cX4_characterAt 12 = .ok (.iload_n 1, 1) := by decide +kernel
theorem dX4_characterAt_13 : decode cX4_characterAt 13 = .ok (.bipush 80, 2) := by decide +kernel
theorem dX4_characterAt_15 : decode cX4_characterAt 15 = .ok (.if_icmp .ge 12, 3) := by decide +kernel
theorem dX4_characterAt_18 : decode cX4_characterAt 18 = .ok (.aload_n 0, 1) := by decide +kernel
theorem dX4_characterAt_19 : decode cX4_characterAt 19 = .ok (.getfield 9, 3) := by decide +kernel
theorem dX4_characterAt_22 : decode cX4_characterAt 22 = .ok (.iload_n 1, 1) := by decide +kernel
theorem dX4_characterAt_23 : decode cX4_characterAt 23 = .ok (.caload, 1) := by decide +kernel
theorem dX4_characterAt_24 : decode cX4_characterAt 24 = .ok (.goto 4, 3) := by decide +kernel
theorem dX4_characterAt_27 : decode cX4_characterAt 27 = .ok (.iconst 0, 1) := by decide +kernel
theorem dX4_characterAt_28 : decode cX4_characterAt 28 = .ok (.ireturn, 1) := by decide +kernel
set_option maxRecDepth 20000 in
theorem ggX4_isDigitAt_X4_characterAt : GoodIn wsX4_isDigitAt wsX4_characterAt := goodIn_r _ [5, 6, 7, 8, 9, 10, 11, 12] (by decide +kernel) (by decide +kernel)
set_option maxRecDepth 20000 in
theorem gX4_isDigitAt_X4_characterAt : GoodIn wsX4_isDigitAt (wsV RX4 43 RX4 yX4_characterAt wsX4_characterAt) := goodIn_app (goodIn_of _ (by decide +kernel)) ggX4_isDigitAt_X4_characterAt
theorem dX4_isDigitAt_0 : decode cX4_isDigitAt 0 = .ok (.aload_n 0, 1) := by decide +kernel
theorem dX4_isDigitAt_1 : decode cX4_isDigitAt 1 = .ok (.iload_n 1, 1) := by decide +kernel
theorem dX4_isDigitAt_2 : decode cX4_isDigitAt 2 = .ok (.invokevirtual 43, 3) := by decide +kernel
theorem dX4_isDigitAt_5 : decode cX4_isDigitAt 5 = .ok (.istore_n 2, 1) := by decide +kernel
theorem dX4_isDigitAt_6 : decode cX4_isDigitAt 6 = .ok (.iload_n 2, 1) := by decide +kernel
theorem dX4_isDigitAt_7 : decode cX4_isDigitAt 7 = .ok (.bipush 48, 2) := by decide +kernel
theorem dX4_isDigitAt_9 : decode cX4_isDigitAt 9 = .ok (.if_icmp .lt 13, 3) := by decide +kernel
theorem dX4_isDigitAt_12 : decode cX4_isDigitAt 12 = .ok (.iload_n 2, 1) := by decide +kernel
theorem dX4_isDigitAt_13 : decode cX4_isDigitAt 13 = .ok (.bipush 57, 2) := by decide +kernel
theorem dX4_isDigitAt_15 : decode cX4_isDigitAt 15 = .ok (.if_icmp .gt 7, 3) := by decide +kernel
theorem dX4_isDigitAt_18 : decode cX4_isDigitAt 18 = .ok (.iconst 1, 1) := by decide +kernel
theorem dX4_isDigitAt_19 : decode cX4_isDigitAt 19 = .ok (.goto 4, 3) := by decide +kernel
theorem dX4_isDigitAt_22 : decode cX4_isDigitAt 22 = .ok (.iconst 0, 1) := by decide +kernel
theorem dX4_isDigitAt_23 : decode cX4_isDigitAt 23 = .ok (.ireturn, 1) := by decide +kernel
set_option maxRecDepth 20000 in
theorem ggX4_readAssignment_X4_targetAt : GoodIn wsX4_readAssignment wsX4_targetAt := goodIn_r _ [5, 6, 7, 8, 9, 10, 11, 4, 12, 13, 14, 15, 16, 17, 18, 19, 20, 21, 22, 23, 24, 25, 26, 27, 28, 29, 30, 31, 32, 33, 34, 35, 36, 37, 38, 39, 40, 41, 42, 43, 44, 45, 46, 47, 48, 49, 50, 51, 52, 53, 54, 55, 56, 57, 58, 59, 60, 61, 62, 63, 64, 65, 66, 67, 86, 87, 88, 89, 90] (by decide +kernel) (by decide +kernel)
set_option maxRecDepth 20000 in
theorem gX4_readAssignment_X4_targetAt : GoodIn wsX4_readAssignment (wsV RX4 46 RX4 yX4_targetAt wsX4_targetAt) := goodIn_app (goodIn_of _ (by decide +kernel)) ggX4_readAssignment_X4_targetAt
set_option maxRecDepth 20000 in
theorem ggX4_readAssignment_X6_nameOf : GoodIn wsX4_readAssignment wsX6_nameOf := goodIn_r _ [8] (by decide +kernel) (by decide +kernel)
set_option maxRecDepth 20000 in
theorem gX4_readAssignment_X6_nameOf_n49 : GoodIn wsX4_readAssignment (wsX6_nameOf) := ggX4_readAssignment_X6_nameOf
set_option maxRecDepth 20000 in
theorem ggX4_readAssignment_J0_length_8abf5 : GoodIn wsX4_readAssignment wsJ0_length_8abf5 := goodIn_r _ [17, 18, 19, 20, 21, 16, 22, 23, 24] (by decide +kernel) (by decide +kernel)
set_option maxRecDepth 20000 in
theorem gX4_readAssignment_J0_length_8abf5 : GoodIn wsX4_readAssignment (wsV RX4 53 RJ0 yJ0_length_8abf5 wsJ0_length_8abf5) := goodIn_app (goodIn_of _ (by decide +kernel)) ggX4_readAssignment_J0_length_8abf5
set_option maxRecDepth 20000 in
theorem ggX4_readAssignment_X4_characterAt : GoodIn wsX4_readAssignment wsX4_characterAt := goodIn_r _ [28, 29, 30, 86, 87, 88, 89, 90] (by decide +kernel) (by decide +kernel)
set_option maxRecDepth 20000 in
theorem gX4_readAssignment_X4_characterAt : GoodIn wsX4_readAssignment (wsV RX4 43 RX4 yX4_characterAt wsX4_characterAt) := goodIn_app (goodIn_of _ (by decide +kernel)) ggX4_readAssignment_X4_characterAt
set_option maxRecDepth 20000 in
theorem ggX4_readAssignment_X4_isDigitAt : GoodIn wsX4_readAssignment wsX4_isDigitAt := goodIn_r _ [71, 25, 26, 27, 4, 28, 29, 30, 86, 87, 88, 89, 90] (by decide +kernel) (by decide +kernel)
set_option maxRecDepth 20000 in
theorem gX4_readAssignment_X4_isDigitAt : GoodIn wsX4_readAssignment (wsV RX4 58 RX4 yX4_isDigitAt wsX4_isDigitAt) := goodIn_app (goodIn_of _ (by decide +kernel)) ggX4_readAssignment_X4_isDigitAt
set_option maxRecDepth 20000 in
theorem ggX4_readAssignment_X4_keep : GoodIn wsX4_readAssignment wsX4_keep := goodIn_r _ [75, 76, 77, 78, 79, 7, 80, 81, 82, 83, 84, 85, 86, 87, 88, 89, 90] (by decide +kernel) (by decide +kernel)
set_option maxRecDepth 20000 in
theorem gX4_readAssignment_X4_keep : GoodIn wsX4_readAssignment (wsV RX4 61 RX4 yX4_keep wsX4_keep) := goodIn_app (goodIn_of _ (by decide +kernel)) ggX4_readAssignment_X4_keep
theorem dX4_readAssignment_0 : decode cX4_readAssignment 0 = .ok (.aload_n 0, 1) := by decide +kernel
theorem dX4_readAssignment_1 : decode cX4_readAssignment 1 = .ok (.iload_n 1, 1) := by decide +kernel
theorem dX4_readAssignment_2 : decode cX4_readAssignment 2 = .ok (.invokevirtual 46, 3) := by decide +kernel
theorem dX4_readAssignment_5 : decode cX4_readAssignment 5 = .ok (.istore_n 2, 1) := by decide +kernel
theorem dX4_readAssignment_6 : decode cX4_readAssignment 6 = .ok (.iload_n 2, 1) := by decide +kernel
theorem dX4_readAssignment_7 : decode cX4_readAssignment 7 = .ok (.iconst (-1), 1) := by decide +kernel
theorem dX4_readAssignment_8 : decode cX4_readAssignment 8 = .ok (.if_icmp .ne 5, 3) := by decide +kernel
theorem dX4_readAssignment_11 : decode cX4_readAssignment 11 = .ok (.iconst (-1), 1) := by decide +kernel
theorem dX4_readAssignment_12 : decode cX4_readAssignment 12 = .ok (.ireturn, 1) := by decide +kernel
theorem dX4_readAssignment_13 : decode cX4_readAssignment 13 = .ok (.iload_n 1, 1) := by decide +kernel
theorem dX4_readAssignment_14 : decode cX4_readAssignment 14 = .ok (.iload_n 2, 1) := by decide +kernel
theorem dX4_readAssignment_15 : decode cX4_readAssignment 15 = .ok (.invokestatic 49, 3) := by decide +kernel
theorem dX4_readAssignment_18 : decode cX4_readAssignment 18 = .ok (.invokevirtual 53, 3) := by decide +kernel
theorem dX4_readAssignment_21 : decode cX4_readAssignment 21 = .ok (.iadd, 1) := by decide +kernel
theorem dX4_readAssignment_22 : decode cX4_readAssignment 22 = .ok (.iconst 1, 1) := by decide +kernel
theorem dX4_readAssignment_23 : decode cX4_readAssignment 23 = .ok (.iadd, 1) := by decide +kernel
theorem dX4_readAssignment_24 : decode cX4_readAssignment 24 = .ok (.istore_n 3, 1) := by decide +kernel
theorem dX4_readAssignment_25 : decode cX4_readAssignment 25 = .ok (.aload_n 0, 1) := by decide +kernel
theorem dX4_readAssignment_26 : decode cX4_readAssignment 26 = .ok (.iload_n 3, 1) := by decide +kernel
theorem dX4_readAssignment_27 : decode cX4_readAssignment 27 = .ok (.invokevirtual 43, 3) := by decide +kernel
theorem dX4_readAssignment_30 : decode cX4_readAssignment 30 = .ok (.bipush 45, 2) := by decide +kernel
theorem dX4_readAssignment_32 : decode cX4_readAssignment 32 = .ok (.if_icmp .ne 7, 3) := by decide +kernel
theorem dX4_readAssignment_35 : decode cX4_readAssignment 35 = .ok (.iconst 1, 1) := by decide +kernel
theorem dX4_readAssignment_36 : decode cX4_readAssignment 36 = .ok (.goto 4, 3) := by decide +kernel
theorem dX4_readAssignment_39 : decode cX4_readAssignment 39 = .ok (.iconst 0, 1) := by decide +kernel
theorem dX4_readAssignment_40 : decode cX4_readAssignment 40 = .ok (.istore 4, 2) := by decide +kernel
theorem dX4_readAssignment_42 : decode cX4_readAssignment 42 = .ok (.iload 4, 2) := by decide +kernel
theorem dX4_readAssignment_44 : decode cX4_readAssignment 44 = .ok (.ifCond .eq 6, 3) := by decide +kernel
theorem dX4_readAssignment_47 : decode cX4_readAssignment 47 = .ok (.iinc 3 1, 3) := by decide +kernel
theorem dX4_readAssignment_50 : decode cX4_readAssignment 50 = .ok (.iconst 0, 1) := by decide +kernel
theorem dX4_readAssignment_51 : decode cX4_readAssignment 51 = .ok (.istore 5, 2) := by decide +kernel
theorem dX4_readAssignment_53 : decode cX4_readAssignment 53 = .ok (.iconst 0, 1) := by decide +kernel
theorem dX4_readAssignment_54 : decode cX4_readAssignment 54 = .ok (.istore 6, 2) := by decide +kernel
theorem dX4_readAssignment_56 : decode cX4_readAssignment 56 = .ok (.iload 5, 2) := by decide +kernel
theorem dX4_readAssignment_58 : decode cX4_readAssignment 58 = .ok (.bipush 7, 2) := by decide +kernel
theorem dX4_readAssignment_60 : decode cX4_readAssignment 60 = .ok (.if_icmp .ge 36, 3) := by decide +kernel
theorem dX4_readAssignment_63 : decode cX4_readAssignment 63 = .ok (.aload_n 0, 1) := by decide +kernel
theorem dX4_readAssignment_64 : decode cX4_readAssignment 64 = .ok (.iload_n 3, 1) := by decide +kernel
theorem dX4_readAssignment_65 : decode cX4_readAssignment 65 = .ok (.invokevirtual 58, 3) := by decide +kernel
theorem dX4_readAssignment_68 : decode cX4_readAssignment 68 = .ok (.ifCond .eq 28, 3) := by decide +kernel
theorem dX4_readAssignment_71 : decode cX4_readAssignment 71 = .ok (.bipush 10, 2) := by decide +kernel
theorem dX4_readAssignment_73 : decode cX4_readAssignment 73 = .ok (.iload 6, 2) := by decide +kernel
theorem dX4_readAssignment_75 : decode cX4_readAssignment 75 = .ok (.imul, 1) := by decide +kernel
theorem dX4_readAssignment_76 : decode cX4_readAssignment 76 = .ok (.aload_n 0, 1) := by decide +kernel
theorem dX4_readAssignment_77 : decode cX4_readAssignment 77 = .ok (.iload_n 3, 1) := by decide +kernel
theorem dX4_readAssignment_78 : decode cX4_readAssignment 78 = .ok (.invokevirtual 43, 3) := by decide +kernel
theorem dX4_readAssignment_81 : decode cX4_readAssignment 81 = .ok (.iadd, 1) := by decide +kernel
theorem dX4_readAssignment_82 : decode cX4_readAssignment 82 = .ok (.bipush 48, 2) := by decide +kernel
theorem dX4_readAssignment_84 : decode cX4_readAssignment 84 = .ok (.isub, 1) := by decide +kernel
theorem dX4_readAssignment_85 : decode cX4_readAssignment 85 = .ok (.istore 6, 2) := by decide +kernel
theorem dX4_readAssignment_87 : decode cX4_readAssignment 87 = .ok (.iinc 5 1, 3) := by decide +kernel
theorem dX4_readAssignment_90 : decode cX4_readAssignment 90 = .ok (.iinc 3 1, 3) := by decide +kernel
theorem dX4_readAssignment_93 : decode cX4_readAssignment 93 = .ok (.goto (-37), 3) := by decide +kernel
theorem dX4_readAssignment_96 : decode cX4_readAssignment 96 = .ok (.iload 5, 2) := by decide +kernel
theorem dX4_readAssignment_98 : decode cX4_readAssignment 98 = .ok (.ifCond .eq 13, 3) := by decide +kernel
theorem dX4_readAssignment_101 : decode cX4_readAssignment 101 = .ok (.aload_n 0, 1) := by decide +kernel
theorem dX4_readAssignment_102 : decode cX4_readAssignment 102 = .ok (.iload_n 3, 1) := by decide +kernel
theorem dX4_readAssignment_103 : decode cX4_readAssignment 103 = .ok (.invokevirtual 43, 3) := by decide +kernel
theorem dX4_readAssignment_106 : decode cX4_readAssignment 106 = .ok (.bipush 59, 2) := by decide +kernel
theorem dX4_readAssignment_108 : decode cX4_readAssignment 108 = .ok (.if_icmp .eq 5, 3) := by decide +kernel
theorem dX4_readAssignment_111 : decode cX4_readAssignment 111 = .ok (.iconst (-1), 1) := by decide +kernel
theorem dX4_readAssignment_112 : decode cX4_readAssignment 112 = .ok (.ireturn, 1) := by decide +kernel
theorem dX4_readAssignment_113 : decode cX4_readAssignment 113 = .ok (.aload_n 0, 1) := by decide +kernel
theorem dX4_readAssignment_114 : decode cX4_readAssignment 114 = .ok (.iload_n 2, 1) := by decide +kernel
theorem dX4_readAssignment_115 : decode cX4_readAssignment 115 = .ok (.iload 4, 2) := by decide +kernel
theorem dX4_readAssignment_117 : decode cX4_readAssignment 117 = .ok (.ifCond .eq 9, 3) := by decide +kernel
theorem dX4_readAssignment_120 : decode cX4_readAssignment 120 = .ok (.iload 6, 2) := by decide +kernel
theorem dX4_readAssignment_122 : decode cX4_readAssignment 122 = .ok (.ineg, 1) := by decide +kernel
theorem dX4_readAssignment_123 : decode cX4_readAssignment 123 = .ok (.goto 5, 3) := by decide +kernel
theorem dX4_readAssignment_126 : decode cX4_readAssignment 126 = .ok (.iload 6, 2) := by decide +kernel
theorem dX4_readAssignment_128 : decode cX4_readAssignment 128 = .ok (.invokevirtual 61, 3) := by decide +kernel
theorem dX4_readAssignment_131 : decode cX4_readAssignment 131 = .ok (.ifCond .eq 9, 3) := by decide +kernel
theorem dX4_readAssignment_134 : decode cX4_readAssignment 134 = .ok (.iload_n 3, 1) := by decide +kernel
theorem dX4_readAssignment_135 : decode cX4_readAssignment 135 = .ok (.iconst 1, 1) := by decide +kernel
theorem dX4_readAssignment_136 : decode cX4_readAssignment 136 = .ok (.iadd, 1) := by decide +kernel
theorem dX4_readAssignment_137 : decode cX4_readAssignment 137 = .ok (.goto 4, 3) := by decide +kernel
theorem dX4_readAssignment_140 : decode cX4_readAssignment 140 = .ok (.iconst (-1), 1) := by decide +kernel
theorem dX4_readAssignment_141 : decode cX4_readAssignment 141 = .ok (.ireturn, 1) := by decide +kernel
set_option maxRecDepth 20000 in
theorem ggX4_keep_X6_allows : GoodIn wsX4_keep wsX6_allows := goodIn_r _ [6, 7, 8, 9, 10, 5, 11] (by decide +kernel) (by decide +kernel)
set_option maxRecDepth 20000 in
theorem gX4_keep_X6_allows_n65 : GoodIn wsX4_keep (wsX6_allows) := ggX4_keep_X6_allows
theorem dX4_keep_0 : decode cX4_keep 0 = .ok (.iload_n 1, 1) := by decide +kernel
theorem dX4_keep_1 : decode cX4_keep 1 = .ok (.iload_n 2, 1) := by decide +kernel
theorem dX4_keep_2 : decode cX4_keep 2 = .ok (.invokestatic 65, 3) := by decide +kernel
theorem dX4_keep_5 : decode cX4_keep 5 = .ok (.ifCond .eq 12, 3) := by decide +kernel
theorem dX4_keep_8 : decode cX4_keep 8 = .ok (.aload_n 0, 1) := by decide +kernel
theorem dX4_keep_9 : decode cX4_keep 9 = .ok (.getfield 26, 3) := by decide +kernel
theorem dX4_keep_12 : decode cX4_keep 12 = .ok (.bipush 16, 2) := by decide +kernel
theorem dX4_keep_14 : decode cX4_keep 14 = .ok (.if_icmp .lt 5, 3) := by decide +kernel
theorem dX4_keep_17 : decode cX4_keep 17 = .ok (.iconst 0, 1) := by decide +kernel
theorem dX4_keep_18 : decode cX4_keep 18 = .ok (.ireturn, 1) := by decide +kernel
theorem dX4_keep_19 : decode cX4_keep 19 = .ok (.aload_n 0, 1) := by decide +kernel
theorem dX4_keep_20 : decode cX4_keep 20 = .ok (.getfield 15, 3) := by decide +kernel
theorem dX4_keep_23 : decode cX4_keep 23 = .ok (.aload_n 0, 1) := by decide +kernel
theorem dX4_keep_24 : decode cX4_keep 24 = .ok (.getfield 26, 3) := by decide +kernel
theorem dX4_keep_27 : decode cX4_keep 27 = .ok (.iload_n 1, 1) := by decide +kernel
theorem dX4_keep_28 : decode cX4_keep 28 = .ok (.iastore, 1) := by decide +kernel
theorem dX4_keep_29 : decode cX4_keep 29 = .ok (.aload_n 0, 1) := by decide +kernel
theorem dX4_keep_30 : decode cX4_keep 30 = .ok (.getfield 19, 3) := by decide +kernel
theorem dX4_keep_33 : decode cX4_keep 33 = .ok (.aload_n 0, 1) := by decide +kernel
theorem dX4_keep_34 : decode cX4_keep 34 = .ok (.getfield 26, 3) := by decide +kernel
theorem dX4_keep_37 : decode cX4_keep 37 = .ok (.iload_n 2, 1) := by decide +kernel
theorem dX4_keep_38 : decode cX4_keep 38 = .ok (.iastore, 1) := by decide +kernel
theorem dX4_keep_39 : decode cX4_keep 39 = .ok (.aload_n 0, 1) := by decide +kernel
theorem dX4_keep_40 : decode cX4_keep 40 = .ok (.dup, 1) := by decide +kernel
theorem dX4_keep_41 : decode cX4_keep 41 = .ok (.getfield 26, 3) := by decide +kernel
theorem dX4_keep_44 : decode cX4_keep 44 = .ok (.iconst 1, 1) := by decide +kernel
theorem dX4_keep_45 : decode cX4_keep 45 = .ok (.iadd, 1) := by decide +kernel
theorem dX4_keep_46 : decode cX4_keep 46 = .ok (.putfield 26, 3) := by decide +kernel
theorem dX4_keep_49 : decode cX4_keep 49 = .ok (.iconst 1, 1) := by decide +kernel
theorem dX4_keep_50 : decode cX4_keep 50 = .ok (.ireturn, 1) := by decide +kernel
set_option maxRecDepth 20000 in
theorem ggX4_targetAt_X6_nameOf : GoodIn wsX4_targetAt wsX6_nameOf := goodIn_r _ [3] (by decide +kernel) (by decide +kernel)
set_option maxRecDepth 20000 in
theorem gX4_targetAt_X6_nameOf_n49 : GoodIn wsX4_targetAt (wsX6_nameOf) := ggX4_targetAt_X6_nameOf
set_option maxRecDepth 20000 in
theorem ggX4_targetAt_X4_standsAt : GoodIn wsX4_targetAt wsX4_standsAt := goodIn_r _ [8, 9, 10, 11, 12, 13, 14, 15, 16, 17, 18, 19, 20, 21, 22, 23, 7, 24, 25, 26, 27, 28, 29, 30, 31, 32, 33, 34, 35, 36, 37, 38, 39, 40, 41, 42, 43, 44, 45, 46, 47, 48, 49, 50, 51, 52, 53, 54, 55, 56, 57, 58, 59, 60, 61, 62, 63, 64, 65, 66, 67, 68] (by decide +kernel) (by decide +kernel)
set_option maxRecDepth 20000 in
theorem gX4_targetAt_X4_standsAt : GoodIn wsX4_targetAt (wsV RX4 68 RX4 yX4_standsAt wsX4_standsAt) := goodIn_app (goodIn_of _ (by decide +kernel)) ggX4_targetAt_X4_standsAt
set_option maxRecDepth 20000 in
theorem ggX4_targetAt_J0_length_8abf5 : GoodIn wsX4_targetAt wsJ0_length_8abf5 := goodIn_r _ [13, 14, 15, 16, 17, 12, 18, 19, 20] (by decide +kernel) (by decide +kernel)
set_option maxRecDepth 20000 in
theorem gX4_targetAt_J0_length_8abf5 : GoodIn wsX4_targetAt (wsV RX4 53 RJ0 yJ0_length_8abf5 wsJ0_length_8abf5) := goodIn_app (goodIn_of _ (by decide +kernel)) ggX4_targetAt_J0_length_8abf5
set_option maxRecDepth 20000 in
theorem ggX4_targetAt_X4_characterAt : GoodIn wsX4_targetAt wsX4_characterAt := goodIn_r _ [24, 25, 26, 64, 65, 66, 67, 68] (by decide +kernel) (by decide +kernel)
set_option maxRecDepth 20000 in
theorem gX4_targetAt_X4_characterAt : GoodIn wsX4_targetAt (wsV RX4 43 RX4 yX4_characterAt wsX4_characterAt) := goodIn_app (goodIn_of _ (by decide +kernel)) ggX4_targetAt_X4_characterAt
theorem dX4_targetAt_0 : decode cX4_targetAt 0 = .ok (.iconst 0, 1) := by decide +kernel
theorem dX4_targetAt_1 : decode cX4_targetAt 1 = .ok (.istore_n 2, 1) := by decide +kernel
theorem dX4_targetAt_2 : decode cX4_targetAt 2 = .ok (.iload_n 2, 1) := by decide +kernel
theorem dX4_targetAt_3 : decode cX4_targetAt 3 = .ok (.bipush 15, 2) := by decide +kernel
theorem dX4_targetAt_5 : decode cX4_targetAt 5 = .ok (.if_icmp .ge 40, 3) := by decide +kernel
theorem dX4_targetAt_8 : decode cX4_targetAt 8 = .ok (.iload_n 2, 1) := by decide +kernel
theorem dX4_targetAt_9 : decode cX4_targetAt 9 = .ok (.invokestatic 49, 3) := by decide +kernel
theorem dX4_targetAt_12 : decode cX4_targetAt 12 = .ok (.astore_n 3, 1) := by decide +kernel
theorem dX4_targetAt_13 : decode cX4_targetAt 13 = .ok (.aload_n 0, 1) := by decide +kernel
theorem dX4_targetAt_14 : decode cX4_targetAt 14 = .ok (.aload_n 3, 1) := by decide +kernel
theorem dX4_targetAt_15 : decode cX4_targetAt 15 = .ok (.iload_n 1, 1) := by decide +kernel
theorem dX4_targetAt_16 : decode cX4_targetAt 16 = .ok (.invokevirtual 68, 3) := by decide +kernel
theorem dX4_targetAt_19 : decode cX4_targetAt 19 = .ok (.ifCond .eq 20, 3) := by decide +kernel
theorem dX4_targetAt_22 : decode cX4_targetAt 22 = .ok (.aload_n 0, 1) := by decide +kernel
theorem dX4_targetAt_23 : decode cX4_targetAt 23 = .ok (.iload_n 1, 1) := by decide +kernel
theorem dX4_targetAt_24 : decode cX4_targetAt 24 = .ok (.aload_n 3, 1) := by decide +kernel
theorem dX4_targetAt_25 : decode cX4_targetAt 25 = .ok (.invokevirtual 53, 3) := by decide +kernel
theorem dX4_targetAt_28 : decode cX4_targetAt 28 = .ok (.iadd, 1) := by decide +kernel
theorem dX4_targetAt_29 : decode cX4_targetAt 29 = .ok (.invokevirtual 43, 3) := by decide +kernel
theorem dX4_targetAt_32 : decode cX4_targetAt 32 = .ok (.bipush 61, 2) := by decide +kernel
theorem dX4_targetAt_34 : decode cX4_targetAt 34 = .ok (.if_icmp .ne 5, 3) := by decide +kernel
theorem dX4_targetAt_37 : decode cX4_targetAt 37 = .ok (.iload_n 2, 1) := by decide +kernel
theorem dX4_targetAt_38 : decode cX4_targetAt 38 = .ok (.ireturn, 1) := by decide +kernel
theorem dX4_targetAt_39 : decode cX4_targetAt 39 = .ok (.iinc 2 1, 3) := by decide +kernel
theorem dX4_targetAt_42 : decode cX4_targetAt 42 = .ok (.goto (-40), 3) := by decide +kernel
theorem dX4_targetAt_45 : decode cX4_targetAt 45 = .ok (.iconst (-1), 1) := by decide +kernel
theorem dX4_targetAt_46 : decode cX4_targetAt 46 = .ok (.ireturn, 1) := by decide +kernel
set_option maxRecDepth 20000 in
theorem ggX4_standsAt_J0_length_8abf5 : GoodIn wsX4_standsAt wsJ0_length_8abf5 := goodIn_r _ [5, 6, 7, 8, 9, 4, 10, 11, 12] (by decide +kernel) (by decide +kernel)
set_option maxRecDepth 20000 in
theorem gX4_standsAt_J0_length_8abf5 : GoodIn wsX4_standsAt (wsV RX4 53 RJ0 yJ0_length_8abf5 wsJ0_length_8abf5) := goodIn_app (goodIn_of _ (by decide +kernel)) ggX4_standsAt_J0_length_8abf5
set_option maxRecDepth 20000 in
theorem ggX4_standsAt_X4_characterAt : GoodIn wsX4_standsAt wsX4_characterAt := goodIn_r _ [17, 18, 19, 57, 58, 59, 60, 61] (by decide +kernel) (by decide +kernel)
set_option maxRecDepth 20000 in
theorem gX4_standsAt_X4_characterAt : GoodIn wsX4_standsAt (wsV RX4 43 RX4 yX4_characterAt wsX4_characterAt) := goodIn_app (goodIn_of _ (by decide +kernel)) ggX4_standsAt_X4_characterAt
set_option maxRecDepth 20000 in
theorem ggX4_standsAt_J0_charAt_5068e : GoodIn wsX4_standsAt wsJ0_charAt_5068e := goodIn_r _ [23, 6, 24, 25, 26, 4, 27, 11, 12, 28, 29, 30, 31, 32, 33, 34, 35, 36, 37, 38, 39, 40, 41, 42, 43, 44, 45, 46, 47, 48, 49, 50, 51, 52, 53, 54, 55, 56] (by decide +kernel) (by decide +kernel)
set_option maxRecDepth 20000 in
theorem gX4_standsAt_J0_charAt_5068e : GoodIn wsX4_standsAt (wsV RX4 72 RJ0 yJ0_charAt_5068e wsJ0_charAt_5068e) := goodIn_app (goodIn_of _ (by decide +kernel)) ggX4_standsAt_J0_charAt_5068e
theorem dX4_standsAt_0 : decode cX4_standsAt 0 = .ok (.iconst 0, 1) := by decide +kernel
theorem dX4_standsAt_1 : decode cX4_standsAt 1 = .ok (.istore_n 3, 1) := by decide +kernel
theorem dX4_standsAt_2 : decode cX4_standsAt 2 = .ok (.iload_n 3, 1) := by decide +kernel
theorem dX4_standsAt_3 : decode cX4_standsAt 3 = .ok (.aload_n 1, 1) := by decide +kernel
theorem dX4_standsAt_4 : decode cX4_standsAt 4 = .ok (.invokevirtual 53, 3) := by decide +kernel
theorem dX4_standsAt_7 : decode cX4_standsAt 7 = .ok (.if_icmp .ge 26, 3) := by decide +kernel
theorem dX4_standsAt_10 : decode cX4_standsAt 10 = .ok (.aload_n 0, 1) := by decide +kernel
theorem dX4_standsAt_11 : decode cX4_standsAt 11 = .ok (.iload_n 2, 1) := by decide +kernel
theorem dX4_standsAt_12 : decode cX4_standsAt 12 = .ok (.iload_n 3, 1) := by decide +kernel
theorem dX4_standsAt_13 : decode cX4_standsAt 13 = .ok (.iadd, 1) := by decide +kernel
theorem dX4_standsAt_14 : decode cX4_standsAt 14 = .ok (.invokevirtual 43, 3) := by decide +kernel
theorem dX4_standsAt_17 : decode cX4_standsAt 17 = .ok (.aload_n 1, 1) := by decide +kernel
theorem dX4_standsAt_18 : decode cX4_standsAt 18 = .ok (.iload_n 3, 1) := by decide +kernel
theorem dX4_standsAt_19 : decode cX4_standsAt 19 = .ok (.invokevirtual 72, 3) := by decide +kernel
theorem dX4_standsAt_22 : decode cX4_standsAt 22 = .ok (.if_icmp .eq 5, 3) := by decide +kernel
theorem dX4_standsAt_25 : decode cX4_standsAt 25 = .ok (.iconst 0, 1) := by decide +kernel
theorem dX4_standsAt_26 : decode cX4_standsAt 26 = .ok (.ireturn, 1) := by decide +kernel
theorem dX4_standsAt_27 : decode cX4_standsAt 27 = .ok (.iinc 3 1, 3) := by decide +kernel
theorem dX4_standsAt_30 : decode cX4_standsAt 30 = .ok (.goto (-28), 3) := by decide +kernel
theorem dX4_standsAt_33 : decode cX4_standsAt 33 = .ok (.iconst 1, 1) := by decide +kernel
theorem dX4_standsAt_34 : decode cX4_standsAt 34 = .ok (.ireturn, 1) := by decide +kernel
set_option maxRecDepth 20000 in
theorem ggJ0_length_8abf5_J0_coder_7d493 : GoodIn wsJ0_length_8abf5 wsJ0_coder_7d493 := goodIn_r _ [6, 7, 8] (by decide +kernel) (by decide +kernel)
set_option maxRecDepth 20000 in
theorem gJ0_length_8abf5_J0_coder_7d493 : GoodIn wsJ0_length_8abf5 (wsV RJ0 335 RJ0 yJ0_coder_7d493 wsJ0_coder_7d493) := goodIn_app (goodIn_of _ (by decide +kernel)) ggJ0_length_8abf5_J0_coder_7d493
theorem dJ0_length_8abf5_0 : decode cJ0_length_8abf5 0 = .ok (.aload_n 0, 1) := by decide +kernel
theorem dJ0_length_8abf5_1 : decode cJ0_length_8abf5 1 = .ok (.getfield 9, 3) := by decide +kernel
theorem dJ0_length_8abf5_4 : decode cJ0_length_8abf5 4 = .ok (.arraylength, 1) := by decide +kernel
theorem dJ0_length_8abf5_5 : decode cJ0_length_8abf5 5 = .ok (.aload_n 0, 1) := by decide +kernel
theorem dJ0_length_8abf5_6 : decode cJ0_length_8abf5 6 = .ok (.invokevirtual 335, 3) := by decide +kernel
theorem dJ0_length_8abf5_9 : decode cJ0_length_8abf5 9 = .ok (.ishr, 1) := by decide +kernel
theorem dJ0_length_8abf5_10 : decode cJ0_length_8abf5 10 = .ok (.ireturn, 1) := by decide +kernel
set_option maxRecDepth 20000 in
theorem ggJ0_charAt_5068e_J0_isLatin1_aae02 : GoodIn wsJ0_charAt_5068e wsJ0_isLatin1_aae02 := goodIn_r _ [6, 7, 8] (by decide +kernel) (by decide +kernel)
set_option maxRecDepth 20000 in
theorem gJ0_charAt_5068e_J0_isLatin1_aae02 : GoodIn wsJ0_charAt_5068e (wsV RJ0 492 RJ0 yJ0_isLatin1_aae02 wsJ0_isLatin1_aae02) := goodIn_app (goodIn_of _ (by decide +kernel)) ggJ0_charAt_5068e_J0_isLatin1_aae02
set_option maxRecDepth 20000 in
theorem ggJ0_charAt_5068e_J1_charAt_3b067 : GoodIn wsJ0_charAt_5068e wsJ1_charAt_3b067 := goodIn_r _ [12, 13, 14, 5, 15, 16, 17, 18, 19, 20] (by decide +kernel) (by decide +kernel)
set_option maxRecDepth 20000 in
theorem gJ0_charAt_5068e_J1_charAt_3b067 : GoodIn wsJ0_charAt_5068e (va_wsS RJ0 495 yJ1_charAt_3b067 wsJ1_charAt_3b067) := goodIn_app (goodIn_of _ (by decide +kernel)) ggJ0_charAt_5068e_J1_charAt_3b067
set_option maxRecDepth 20000 in
theorem ggJ0_charAt_5068e_J2_charAt_3b067 : GoodIn wsJ0_charAt_5068e wsJ2_charAt_3b067 := goodIn_r _ [24, 25, 26, 23, 27, 28, 29, 30, 31, 14, 5, 15, 16, 17, 18, 19, 20, 32, 33, 34, 35, 36, 37] (by decide +kernel) (by decide +kernel)
set_option maxRecDepth 20000 in
theorem gJ0_charAt_5068e_J2_charAt_3b067 : GoodIn wsJ0_charAt_5068e (va_wsS RJ0 498 yJ2_charAt_3b067 wsJ2_charAt_3b067) := goodIn_app (goodIn_of _ (by decide +kernel)) ggJ0_charAt_5068e_J2_charAt_3b067
theorem dJ0_charAt_5068e_0 : decode cJ0_charAt_5068e 0 = .ok (.aload_n 0, 1) := by decide +kernel
theorem dJ0_charAt_5068e_1 : decode cJ0_charAt_5068e 1 = .ok (.invokevirtual 492, 3) := by decide +kernel
theorem dJ0_charAt_5068e_4 : decode cJ0_charAt_5068e 4 = .ok (.ifCond .eq 12, 3) := by decide +kernel
theorem dJ0_charAt_5068e_7 : decode cJ0_charAt_5068e 7 = .ok (.aload_n 0, 1) := by decide +kernel
theorem dJ0_charAt_5068e_8 : decode cJ0_charAt_5068e 8 = .ok (.getfield 9, 3) := by decide +kernel
theorem dJ0_charAt_5068e_11 : decode cJ0_charAt_5068e 11 = .ok (.iload_n 1, 1) := by decide +kernel
theorem dJ0_charAt_5068e_12 : decode cJ0_charAt_5068e 12 = .ok (.invokestatic 495, 3) := by decide +kernel
theorem dJ0_charAt_5068e_15 : decode cJ0_charAt_5068e 15 = .ok (.ireturn, 1) := by decide +kernel
theorem dJ0_charAt_5068e_16 : decode cJ0_charAt_5068e 16 = .ok (.aload_n 0, 1) := by decide +kernel
theorem dJ0_charAt_5068e_17 : decode cJ0_charAt_5068e 17 = .ok (.getfield 9, 3) := by decide +kernel
theorem dJ0_charAt_5068e_20 : decode cJ0_charAt_5068e 20 = .ok (.iload_n 1, 1) := by decide +kernel
theorem dJ0_charAt_5068e_21 : decode cJ0_charAt_5068e 21 = .ok (.invokestatic 498, 3) := by decide +kernel
theorem dJ0_charAt_5068e_24 : decode cJ0_charAt_5068e 24 = .ok (.ireturn, 1) := by decide +kernel
theorem dJ0_coder_7d493_0 : decode cJ0_coder_7d493 0 = .ok (.getstatic 38, 3) := by decide +kernel
theorem dJ0_coder_7d493_3 : decode cJ0_coder_7d493 3 = .ok (.ifCond .eq 10, 3) := by decide +kernel
theorem dJ0_coder_7d493_6 : decode cJ0_coder_7d493 6 = .ok (.aload_n 0, 1) := by decide +kernel
theorem dJ0_coder_7d493_7 : decode cJ0_coder_7d493 7 = .ok (.getfield 15, 3) := by decide +kernel
theorem dJ0_coder_7d493_10 : decode cJ0_coder_7d493 10 = .ok (.goto 4, 3) := by decide +kernel
theorem dJ0_coder_7d493_13 : decode cJ0_coder_7d493 13 = .ok (.iconst 1, 1) := by decide +kernel
theorem dJ0_coder_7d493_14 : decode cJ0_coder_7d493 14 = .ok (.ireturn, 1) := by decide +kernel
theorem dJ0_isLatin1_aae02_0 : decode cJ0_isLatin1_aae02 0 = .ok (.getstatic 38, 3) := by decide +kernel
theorem dJ0_isLatin1_aae02_3 : decode cJ0_isLatin1_aae02 3 = .ok (.ifCond .eq 14, 3) := by decide +kernel
theorem dJ0_isLatin1_aae02_6 : decode cJ0_isLatin1_aae02 6 = .ok (.aload_n 0, 1) := by decide +kernel
theorem dJ0_isLatin1_aae02_7 : decode cJ0_isLatin1_aae02 7 = .ok (.getfield 15, 3) := by decide +kernel
theorem dJ0_isLatin1_aae02_10 : decode cJ0_isLatin1_aae02 10 = .ok (.ifCond .ne 7, 3) := by decide +kernel
theorem dJ0_isLatin1_aae02_13 : decode cJ0_isLatin1_aae02 13 = .ok (.iconst 1, 1) := by decide +kernel
theorem dJ0_isLatin1_aae02_14 : decode cJ0_isLatin1_aae02 14 = .ok (.goto 4, 3) := by decide +kernel
theorem dJ0_isLatin1_aae02_17 : decode cJ0_isLatin1_aae02 17 = .ok (.iconst 0, 1) := by decide +kernel
theorem dJ0_isLatin1_aae02_18 : decode cJ0_isLatin1_aae02 18 = .ok (.ireturn, 1) := by decide +kernel
set_option maxRecDepth 20000 in
theorem ggJ0_checkIndex_df160_J3_checkIndex_8e157 : GoodIn wsJ0_checkIndex_df160 wsJ3_checkIndex_8e157 := goodIn_r _ [5] (by decide +kernel) (by decide +kernel)
set_option maxRecDepth 20000 in
theorem gJ0_checkIndex_df160_J3_checkIndex_8e157 : GoodIn wsJ0_checkIndex_df160 (va_wsS RJ0 1059 yJ3_checkIndex_8e157 wsJ3_checkIndex_8e157) := goodIn_app (goodIn_of _ (by decide +kernel)) ggJ0_checkIndex_df160_J3_checkIndex_8e157
theorem dJ0_checkIndex_df160_0 : decode cJ0_checkIndex_df160 0 = .ok (.iload_n 0, 1) := by decide +kernel
theorem dJ0_checkIndex_df160_1 : decode cJ0_checkIndex_df160 1 = .ok (.iload_n 1, 1) := by decide +kernel
theorem dJ0_checkIndex_df160_2 : decode cJ0_checkIndex_df160 2 = .ok (.getstatic 1053, 3) := by decide +kernel
theorem dJ0_checkIndex_df160_5 : decode cJ0_checkIndex_df160 5 = .ok (.invokestatic 1059, 3) := by decide +kernel
theorem dJ0_checkIndex_df160_8 : decode cJ0_checkIndex_df160 8 = .ok (.pop, 1) := by decide +kernel
theorem dJ0_checkIndex_df160_9 : decode cJ0_checkIndex_df160 9 = .ok (.return_, 1) := by decide +kernel
set_option maxRecDepth 20000 in
theorem ggJ1_charAt_3b067_J0_checkIndex_df160 : GoodIn wsJ1_charAt_3b067 wsJ0_checkIndex_df160 := goodIn_r _ [4, 5, 6, 7, 8, 9] (by decide +kernel) (by decide +kernel)
set_option maxRecDepth 20000 in
theorem gJ1_charAt_3b067_J0_checkIndex_df160 : GoodIn wsJ1_charAt_3b067 (va_wsS RJ1 9 yJ0_checkIndex_df160 wsJ0_checkIndex_df160) := goodIn_app (goodIn_of _ (by decide +kernel)) ggJ1_charAt_3b067_J0_checkIndex_df160
theorem dJ1_charAt_3b067_0 : decode cJ1_charAt_3b067 0 = .ok (.iload_n 1, 1) := by decide +kernel
theorem dJ1_charAt_3b067_1 : decode cJ1_charAt_3b067 1 = .ok (.aload_n 0, 1) := by decide +kernel
theorem dJ1_charAt_3b067_2 : decode cJ1_charAt_3b067 2 = .ok (.arraylength, 1) := by decide +kernel
theorem dJ1_charAt_3b067_3 : decode cJ1_charAt_3b067 3 = .ok (.invokestatic 9, 3) := by decide +kernel
theorem dJ1_charAt_3b067_6 : decode cJ1_charAt_3b067 6 = .ok (.aload_n 0, 1) := by decide +kernel
theorem dJ1_charAt_3b067_7 : decode cJ1_charAt_3b067 7 = .ok (.iload_n 1, 1) := by decide +kernel
theorem dJ1_charAt_3b067_8 : decode cJ1_charAt_3b067 8 = .ok (.baload, 1) := by decide +kernel
theorem dJ1_charAt_3b067_9 : decode cJ1_charAt_3b067 9 = .ok (.sipush 255, 3) := by decide +kernel
theorem dJ1_charAt_3b067_12 : decode cJ1_charAt_3b067 12 = .ok (.iand, 1) := by decide +kernel
theorem dJ1_charAt_3b067_13 : decode cJ1_charAt_3b067 13 = .ok (.i2c, 1) := by decide +kernel
theorem dJ1_charAt_3b067_14 : decode cJ1_charAt_3b067 14 = .ok (.ireturn, 1) := by decide +kernel
set_option maxRecDepth 20000 in
theorem ggJ2_getChar_3b067_J2_length_9d52b : GoodIn wsJ2_getChar_3b067 wsJ2_length_9d52b := goodIn_r _ [7] (by decide +kernel) (by decide +kernel)
set_option maxRecDepth 20000 in
theorem gJ2_getChar_3b067_J2_length_9d52b : GoodIn wsJ2_getChar_3b067 (va_wsS RJ2 48 yJ2_length_9d52b wsJ2_length_9d52b) := goodIn_app (goodIn_of _ (by decide +kernel)) ggJ2_getChar_3b067_J2_length_9d52b
theorem dJ2_getChar_3b067_0 : decode cJ2_getChar_3b067 0 = .ok (.getstatic 44, 3) := by decide +kernel
theorem dJ2_getChar_3b067_3 : decode cJ2_getChar_3b067 3 = .ok (.ifCond .ne 25, 3) := by decide +kernel
theorem dJ2_getChar_3b067_6 : decode cJ2_getChar_3b067 6 = .ok (.iload_n 1, 1) := by decide +kernel
theorem dJ2_getChar_3b067_7 : decode cJ2_getChar_3b067 7 = .ok (.ifCond .lt 11, 3) := by decide +kernel
theorem dJ2_getChar_3b067_10 : decode cJ2_getChar_3b067 10 = .ok (.iload_n 1, 1) := by decide +kernel
theorem dJ2_getChar_3b067_11 : decode cJ2_getChar_3b067 11 = .ok (.aload_n 0, 1) := by decide +kernel
theorem dJ2_getChar_3b067_12 : decode cJ2_getChar_3b067 12 = .ok (.invokestatic 48, 3) := by decide +kernel
theorem dJ2_getChar_3b067_15 : decode cJ2_getChar_3b067 15 = .ok (.if_icmp .lt 13, 3) := by decide +kernel
theorem dJ2_getChar_3b067_18 : decode cJ2_getChar_3b067 18 = .ok (.new 52, 3) := by decide +kernel
theorem dJ2_getChar_3b067_21 : decode cJ2_getChar_3b067 21 = .ok (.dup, 1) := by decide +kernel
theorem dJ2_getChar_3b067_22 : decode cJ2_getChar_3b067 22 = .ok (.ldc 54, 2) := by decide +kernel
theorem dJ2_getChar_3b067_24 : decode cJ2_getChar_3b067 24 = .ok (.invokespecial 56, 3) := by decide +kernel
theorem dJ2_getChar_3b067_27 : decode cJ2_getChar_3b067 27 = .ok (.athrow, 1) := by decide +kernel
theorem dJ2_getChar_3b067_28 : decode cJ2_getChar_3b067 28 = .ok (.iload_n 1, 1) := by decide +kernel
theorem dJ2_getChar_3b067_29 : decode cJ2_getChar_3b067 29 = .ok (.iconst 1, 1) := by decide +kernel
theorem dJ2_getChar_3b067_30 : decode cJ2_getChar_3b067 30 = .ok (.ishl, 1) := by decide +kernel
theorem dJ2_getChar_3b067_31 : decode cJ2_getChar_3b067 31 = .ok (.istore_n 1, 1) := by decide +kernel
theorem dJ2_getChar_3b067_32 : decode cJ2_getChar_3b067 32 = .ok (.aload_n 0, 1) := by decide +kernel
theorem dJ2_getChar_3b067_33 : decode cJ2_getChar_3b067 33 = .ok (.iload_n 1, 1) := by decide +kernel
theorem dJ2_getChar_3b067_34 : decode cJ2_getChar_3b067 34 = .ok (.iinc 1 1, 3) := by decide +kernel
theorem dJ2_getChar_3b067_37 : decode cJ2_getChar_3b067 37 = .ok (.baload, 1) := by decide +kernel
theorem dJ2_getChar_3b067_38 : decode cJ2_getChar_3b067 38 = .ok (.sipush 255, 3) := by decide +kernel
theorem dJ2_getChar_3b067_41 : decode cJ2_getChar_3b067 41 = .ok (.iand, 1) := by decide +kernel
theorem dJ2_getChar_3b067_42 : decode cJ2_getChar_3b067 42 = .ok (.getstatic 59, 3) := by decide +kernel
theorem dJ2_getChar_3b067_45 : decode cJ2_getChar_3b067 45 = .ok (.ishl, 1) := by decide +kernel
theorem dJ2_getChar_3b067_46 : decode cJ2_getChar_3b067 46 = .ok (.aload_n 0, 1) := by decide +kernel
theorem dJ2_getChar_3b067_47 : decode cJ2_getChar_3b067 47 = .ok (.iload_n 1, 1) := by decide +kernel
theorem dJ2_getChar_3b067_48 : decode cJ2_getChar_3b067 48 = .ok (.baload, 1) := by decide +kernel
theorem dJ2_getChar_3b067_49 : decode cJ2_getChar_3b067 49 = .ok (.sipush 255, 3) := by decide +kernel
theorem dJ2_getChar_3b067_52 : decode cJ2_getChar_3b067 52 = .ok (.iand, 1) := by decide +kernel
theorem dJ2_getChar_3b067_53 : decode cJ2_getChar_3b067 53 = .ok (.getstatic 63, 3) := by decide +kernel
theorem dJ2_getChar_3b067_56 : decode cJ2_getChar_3b067 56 = .ok (.ishl, 1) := by decide +kernel
theorem dJ2_getChar_3b067_57 : decode cJ2_getChar_3b067 57 = .ok (.ior, 1) := by decide +kernel
theorem dJ2_getChar_3b067_58 : decode cJ2_getChar_3b067 58 = .ok (.i2c, 1) := by decide +kernel
theorem dJ2_getChar_3b067_59 : decode cJ2_getChar_3b067 59 = .ok (.ireturn, 1) := by decide +kernel
theorem dJ2_length_9d52b_0 : decode cJ2_length_9d52b 0 = .ok (.aload_n 0, 1) := by decide +kernel
theorem dJ2_length_9d52b_1 : decode cJ2_length_9d52b 1 = .ok (.arraylength, 1) := by decide +kernel
theorem dJ2_length_9d52b_2 : decode cJ2_length_9d52b 2 = .ok (.iconst 1, 1) := by decide +kernel
theorem dJ2_length_9d52b_3 : decode cJ2_length_9d52b 3 = .ok (.ishr, 1) := by decide +kernel
theorem dJ2_length_9d52b_4 : decode cJ2_length_9d52b 4 = .ok (.ireturn, 1) := by decide +kernel
set_option maxRecDepth 20000 in
theorem ggJ2_charAt_3b067_J2_checkIndex_2214a : GoodIn wsJ2_charAt_3b067 wsJ2_checkIndex_2214a := goodIn_r _ [4, 5, 6, 3, 7, 8, 9, 10, 11, 12, 13, 14, 15, 16] (by decide +kernel) (by decide +kernel)
set_option maxRecDepth 20000 in
theorem gJ2_charAt_3b067_J2_checkIndex_2214a : GoodIn wsJ2_charAt_3b067 (va_wsS RJ2 67 yJ2_checkIndex_2214a wsJ2_checkIndex_2214a) := goodIn_app (goodIn_of _ (by decide +kernel)) ggJ2_charAt_3b067_J2_checkIndex_2214a
set_option maxRecDepth 20000 in
theorem ggJ2_charAt_3b067_J2_getChar_3b067 : GoodIn wsJ2_charAt_3b067 wsJ2_getChar_3b067 := goodIn_r _ [19, 20, 21, 22, 5, 6, 3, 7] (by decide +kernel) (by decide +kernel)
set_option maxRecDepth 20000 in
theorem gJ2_charAt_3b067_J2_getChar_3b067 : GoodIn wsJ2_charAt_3b067 (va_wsS RJ2 71 yJ2_getChar_3b067 wsJ2_getChar_3b067) := goodIn_app (goodIn_of _ (by decide +kernel)) ggJ2_charAt_3b067_J2_getChar_3b067
theorem dJ2_charAt_3b067_0 : decode cJ2_charAt_3b067 0 = .ok (.iload_n 1, 1) := by decide +kernel
theorem dJ2_charAt_3b067_1 : decode cJ2_charAt_3b067 1 = .ok (.aload_n 0, 1) := by decide +kernel
theorem dJ2_charAt_3b067_2 : decode cJ2_charAt_3b067 2 = .ok (.invokestatic 67, 3) := by decide +kernel
theorem dJ2_charAt_3b067_5 : decode cJ2_charAt_3b067 5 = .ok (.aload_n 0, 1) := by decide +kernel
theorem dJ2_charAt_3b067_6 : decode cJ2_charAt_3b067 6 = .ok (.iload_n 1, 1) := by decide +kernel
theorem dJ2_charAt_3b067_7 : decode cJ2_charAt_3b067 7 = .ok (.invokestatic 71, 3) := by decide +kernel
theorem dJ2_charAt_3b067_10 : decode cJ2_charAt_3b067 10 = .ok (.ireturn, 1) := by decide +kernel
set_option maxRecDepth 20000 in
theorem ggJ2_checkIndex_2214a_J2_length_9d52b : GoodIn wsJ2_checkIndex_2214a wsJ2_length_9d52b := goodIn_r _ [4] (by decide +kernel) (by decide +kernel)
set_option maxRecDepth 20000 in
theorem gJ2_checkIndex_2214a_J2_length_9d52b : GoodIn wsJ2_checkIndex_2214a (va_wsS RJ2 48 yJ2_length_9d52b wsJ2_length_9d52b) := goodIn_app (goodIn_of _ (by decide +kernel)) ggJ2_checkIndex_2214a_J2_length_9d52b
set_option maxRecDepth 20000 in
theorem ggJ2_checkIndex_2214a_J0_checkIndex_df160 : GoodIn wsJ2_checkIndex_2214a wsJ0_checkIndex_df160 := goodIn_r _ [8, 9, 10, 11, 12, 13] (by decide +kernel) (by decide +kernel)
set_option maxRecDepth 20000 in
theorem gJ2_checkIndex_2214a_J0_checkIndex_df160 : GoodIn wsJ2_checkIndex_2214a (va_wsS RJ2 414 yJ0_checkIndex_df160 wsJ0_checkIndex_df160) := goodIn_app (goodIn_of _ (by decide +kernel)) ggJ2_checkIndex_2214a_J0_checkIndex_df160
theorem dJ2_checkIndex_2214a_0 : decode cJ2_checkIndex_2214a 0 = .ok (.iload_n 0, 1) := by decide +kernel
theorem dJ2_checkIndex_2214a_1 : decode cJ2_checkIndex_2214a 1 = .ok (.aload_n 1, 1) := by decide +kernel
theorem dJ2_checkIndex_2214a_2 : decode cJ2_checkIndex_2214a 2 = .ok (.invokestatic 48, 3) := by decide +kernel
theorem dJ2_checkIndex_2214a_5 : decode cJ2_checkIndex_2214a 5 = .ok (.invokestatic 414, 3) := by decide +kernel
theorem dJ2_checkIndex_2214a_8 : decode cJ2_checkIndex_2214a 8 = .ok (.return_, 1) := by decide +kernel
theorem dJ3_checkIndex_8e157_0 : decode cJ3_checkIndex_8e157 0 = .ok (.iload_n 0, 1) := by decide +kernel
theorem dJ3_checkIndex_8e157_1 : decode cJ3_checkIndex_8e157 1 = .ok (.ifCond .lt 8, 3) := by decide +kernel
theorem dJ3_checkIndex_8e157_4 : decode cJ3_checkIndex_8e157 4 = .ok (.iload_n 0, 1) := by decide +kernel
theorem dJ3_checkIndex_8e157_5 : decode cJ3_checkIndex_8e157 5 = .ok (.iload_n 1, 1) := by decide +kernel
theorem dJ3_checkIndex_8e157_6 : decode cJ3_checkIndex_8e157 6 = .ok (.if_icmp .lt 10, 3) := by decide +kernel
theorem dJ3_checkIndex_8e157_9 : decode cJ3_checkIndex_8e157 9 = .ok (.aload_n 2, 1) := by decide +kernel
theorem dJ3_checkIndex_8e157_10 : decode cJ3_checkIndex_8e157 10 = .ok (.iload_n 0, 1) := by decide +kernel
theorem dJ3_checkIndex_8e157_11 : decode cJ3_checkIndex_8e157 11 = .ok (.iload_n 1, 1) := by decide +kernel
theorem dJ3_checkIndex_8e157_12 : decode cJ3_checkIndex_8e157 12 = .ok (.invokestatic 95, 3) := by decide +kernel
theorem dJ3_checkIndex_8e157_15 : decode cJ3_checkIndex_8e157 15 = .ok (.athrow, 1) := by decide +kernel
theorem dJ3_checkIndex_8e157_16 : decode cJ3_checkIndex_8e157 16 = .ok (.iload_n 0, 1) := by decide +kernel
theorem dJ3_checkIndex_8e157_17 : decode cJ3_checkIndex_8e157 17 = .ok (.ireturn, 1) := by decide +kernel

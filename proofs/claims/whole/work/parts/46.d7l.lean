theorem dX7_settledTicks_50 : decode cX7_settledTicks 50 = .ok (.i2l, 1) := by decide +kernel
theorem dX7_settledTicks_51 : decode cX7_settledTicks 51 = .ok (.lsub, 1) := by decide +kernel
theorem dX7_settledTicks_52 : decode cX7_settledTicks 52 = .ok (.invokevirtual 132, 3) := by decide +kernel
theorem dX7_settledTicks_55 : decode cX7_settledTicks 55 = .ok (.aload_n 0, 1) := by decide +kernel
theorem dX7_settledTicks_56 : decode cX7_settledTicks 56 = .ok (.iconst 1, 1) := by decide +kernel
theorem dX7_settledTicks_57 : decode cX7_settledTicks 57 = .ok (.aload_n 0, 1) := by decide +kernel
theorem dX7_settledTicks_58 : decode cX7_settledTicks 58 = .ok (.getfield 7, 3) := by decide +kernel
theorem dX7_settledTicks_61 : decode cX7_settledTicks 61 = .ok (.sipush 640, 3) := by decide +kernel
theorem dX7_settledTicks_64 : decode cX7_settledTicks 64 = .ok (.laload, 1) := by decide +kernel
theorem dX7_settledTicks_65 : decode cX7_settledTicks 65 = .ok (.lconst 1, 1) := by decide +kernel
theorem dX7_settledTicks_66 : decode cX7_settledTicks 66 = .ok (.lsub, 1) := by decide +kernel
theorem dX7_settledTicks_67 : decode cX7_settledTicks 67 = .ok (.iload_n 2, 1) := by decide +kernel
theorem dX7_settledTicks_68 : decode cX7_settledTicks 68 = .ok (.i2l, 1) := by decide +kernel
theorem dX7_settledTicks_69 : decode cX7_settledTicks 69 = .ok (.lsub, 1) := by decide +kernel
theorem dX7_settledTicks_70 : decode cX7_settledTicks 70 = .ok (.invokevirtual 132, 3) := by decide +kernel
theorem dX7_settledTicks_73 : decode cX7_settledTicks 73 = .ok (.lsub, 1) := by decide +kernel
theorem dX7_settledTicks_74 : decode cX7_settledTicks 74 = .ok (.invokestatic 152, 3) := by decide +kernel
theorem dX7_settledTicks_77 : decode cX7_settledTicks 77 = .ok (.iload_n 1, 1) := by decide +kernel
theorem dX7_settledTicks_78 : decode cX7_settledTicks 78 = .ok (.i2l, 1) := by decide +kernel
theorem dX7_settledTicks_79 : decode cX7_settledTicks 79 = .ok (.lcmp, 1) := by decide +kernel
theorem dX7_settledTicks_80 : decode cX7_settledTicks 80 = .ok (.ifCond .gt 9, 3) := by decide +kernel
theorem dX7_settledTicks_83 : decode cX7_settledTicks 83 = .ok (.iinc 2 1, 3) := by decide +kernel
theorem dX7_settledTicks_86 : decode cX7_settledTicks 86 = .ok (.goto (-69), 3) := by decide +kernel
theorem dX7_settledTicks_89 : decode cX7_settledTicks 89 = .ok (.iload_n 2, 1) := by decide +kernel
theorem dX7_settledTicks_90 : decode cX7_settledTicks 90 = .ok (.ireturn, 1) := by decide +kernel
theorem dX7_store_0 : decode cX7_store 0 = .ok (.aload_n 0, 1) := by decide +kernel
theorem dX7_store_1 : decode cX7_store 1 = .ok (.getfield 207, 3) := by decide +kernel
theorem dX7_store_4 : decode cX7_store 4 = .ok (.iconst 2, 1) := by decide +kernel
theorem dX7_store_5 : decode cX7_store 5 = .ok (.if_icmp .ne 6, 3) := by decide +kernel
theorem dX7_store_8 : decode cX7_store 8 = .ok (.ldc 97, 2) := by decide +kernel
theorem dX7_store_10 : decode cX7_store 10 = .ok (.ireturn, 1) := by decide +kernel
theorem dX7_store_11 : decode cX7_store 11 = .ok (.iconst 0, 1) := by decide +kernel
theorem dX7_store_12 : decode cX7_store 12 = .ok (.istore_n 1, 1) := by decide +kernel
theorem dX7_store_13 : decode cX7_store 13 = .ok (.iload_n 1, 1) := by decide +kernel
theorem dX7_store_14 : decode cX7_store 14 = .ok (.sipush 681, 3) := by decide +kernel
theorem dX7_store_17 : decode cX7_store 17 = .ok (.if_icmp .ge 30, 3) := by decide +kernel
theorem dX7_store_20 : decode cX7_store 20 = .ok (.aload_n 0, 1) := by decide +kernel
theorem dX7_store_21 : decode cX7_store 21 = .ok (.getfield 16, 3) := by decide +kernel
theorem dX7_store_24 : decode cX7_store 24 = .ok (.sipush 681, 3) := by decide +kernel
theorem dX7_store_27 : decode cX7_store 27 = .ok (.aload_n 0, 1) := by decide +kernel
theorem dX7_store_28 : decode cX7_store 28 = .ok (.getfield 207, 3) := by decide +kernel
theorem dX7_store_31 : decode cX7_store 31 = .ok (.imul, 1) := by decide +kernel
theorem dX7_store_32 : decode cX7_store 32 = .ok (.iload_n 1, 1) := by decide +kernel
theorem dX7_store_33 : decode cX7_store 33 = .ok (.iadd, 1) := by decide +kernel
theorem dX7_store_34 : decode cX7_store 34 = .ok (.aload_n 0, 1) := by decide +kernel
theorem dX7_store_35 : decode cX7_store 35 = .ok (.getfield 7, 3) := by decide +kernel
theorem dX7_store_38 : decode cX7_store 38 = .ok (.iload_n 1, 1) := by decide +kernel
theorem dX7_store_39 : decode cX7_store 39 = .ok (.laload, 1) := by decide +kernel
theorem dX7_store_40 : decode cX7_store 40 = .ok (.lastore, 1) := by decide +kernel
theorem dX7_store_41 : decode cX7_store 41 = .ok (.iinc 1 1, 3) := by decide +kernel
theorem dX7_store_44 : decode cX7_store 44 = .ok (.goto (-31), 3) := by decide +kernel
theorem dX7_store_47 : decode cX7_store 47 = .ok (.aload_n 0, 1) := by decide +kernel
theorem dX7_store_48 : decode cX7_store 48 = .ok (.dup, 1) := by decide +kernel
theorem dX7_store_49 : decode cX7_store 49 = .ok (.getfield 207, 3) := by decide +kernel
theorem dX7_store_52 : decode cX7_store 52 = .ok (.iconst 1, 1) := by decide +kernel
theorem dX7_store_53 : decode cX7_store 53 = .ok (.iadd, 1) := by decide +kernel
theorem dX7_store_54 : decode cX7_store 54 = .ok (.putfield 207, 3) := by decide +kernel
theorem dX7_store_57 : decode cX7_store 57 = .ok (.aload_n 0, 1) := by decide +kernel
theorem dX7_store_58 : decode cX7_store 58 = .ok (.getfield 207, 3) := by decide +kernel
theorem dX7_store_61 : decode cX7_store 61 = .ok (.ireturn, 1) := by decide +kernel
theorem dX7_recall_0 : decode cX7_recall 0 = .ok (.aload_n 0, 1) := by decide +kernel
theorem dX7_recall_1 : decode cX7_recall 1 = .ok (.getfield 207, 3) := by decide +kernel
theorem dX7_recall_4 : decode cX7_recall 4 = .ok (.ifCond .ne 6, 3) := by decide +kernel
theorem dX7_recall_7 : decode cX7_recall 7 = .ok (.ldc 83, 2) := by decide +kernel
theorem dX7_recall_9 : decode cX7_recall 9 = .ok (.ireturn, 1) := by decide +kernel
theorem dX7_recall_10 : decode cX7_recall 10 = .ok (.aload_n 0, 1) := by decide +kernel
theorem dX7_recall_11 : decode cX7_recall 11 = .ok (.dup, 1) := by decide +kernel
theorem dX7_recall_12 : decode cX7_recall 12 = .ok (.getfield 207, 3) := by decide +kernel
theorem dX7_recall_15 : decode cX7_recall 15 = .ok (.iconst 1, 1) := by decide +kernel
theorem dX7_recall_16 : decode cX7_recall 16 = .ok (.isub, 1) := by decide +kernel
theorem dX7_recall_17 : decode cX7_recall 17 = .ok (.putfield 207, 3) := by decide +kernel
theorem dX7_recall_20 : decode cX7_recall 20 = .ok (.iconst 0, 1) := by decide +kernel
theorem dX7_recall_21 : decode cX7_recall 21 = .ok (.istore_n 1, 1) := by decide +kernel
theorem dX7_recall_22 : decode cX7_recall 22 = .ok (.iload_n 1, 1) := by decide +kernel
theorem dX7_recall_23 : decode cX7_recall 23 = .ok (.sipush 681, 3) := by decide +kernel
theorem dX7_recall_26 : decode cX7_recall 26 = .ok (.if_icmp .ge 30, 3) := by decide +kernel
theorem dX7_recall_29 : decode cX7_recall 29 = .ok (.aload_n 0, 1) := by decide +kernel
theorem dX7_recall_30 : decode cX7_recall 30 = .ok (.getfield 7, 3) := by decide +kernel
theorem dX7_recall_33 : decode cX7_recall 33 = .ok (.iload_n 1, 1) := by decide +kernel
theorem dX7_recall_34 : decode cX7_recall 34 = .ok (.aload_n 0, 1) := by decide +kernel
theorem dX7_recall_35 : decode cX7_recall 35 = .ok (.getfield 16, 3) := by decide +kernel
theorem dX7_recall_38 : decode cX7_recall 38 = .ok (.sipush 681, 3) := by decide +kernel
theorem dX7_recall_41 : decode cX7_recall 41 = .ok (.aload_n 0, 1) := by decide +kernel
theorem dX7_recall_42 : decode cX7_recall 42 = .ok (.getfield 207, 3) := by decide +kernel
theorem dX7_recall_45 : decode cX7_recall 45 = .ok (.imul, 1) := by decide +kernel
theorem dX7_recall_46 : decode cX7_recall 46 = .ok (.iload_n 1, 1) := by decide +kernel
theorem dX7_recall_47 : decode cX7_recall 47 = .ok (.iadd, 1) := by decide +kernel
theorem dX7_recall_48 : decode cX7_recall 48 = .ok (.laload, 1) := by decide +kernel
theorem dX7_recall_49 : decode cX7_recall 49 = .ok (.lastore, 1) := by decide +kernel
theorem dX7_recall_50 : decode cX7_recall 50 = .ok (.iinc 1 1, 3) := by decide +kernel
theorem dX7_recall_53 : decode cX7_recall 53 = .ok (.goto (-31), 3) := by decide +kernel
theorem dX7_recall_56 : decode cX7_recall 56 = .ok (.aload_n 0, 1) := by decide +kernel
theorem dX7_recall_57 : decode cX7_recall 57 = .ok (.getfield 207, 3) := by decide +kernel
theorem dX7_recall_60 : decode cX7_recall 60 = .ok (.ireturn, 1) := by decide +kernel
set_option maxRecDepth 20000 in
theorem ggX7_correlationOf_X7_at : GoodIn wsX7_correlationOf wsX7_at := goodIn_r _ [9, 1, 10, 11, 12, 13, 14, 15, 16, 17, 18, 19, 20, 21, 22, 23, 24, 25, 26, 27, 28] (by decide +kernel) (by decide +kernel)
set_option maxRecDepth 20000 in
theorem gX7_correlationOf_X7_at : GoodIn wsX7_correlationOf (wsV RX7 132 RX7 yX7_at wsX7_at) := goodIn_app (goodIn_of _ (by decide +kernel)) ggX7_correlationOf_X7_at
theorem dX7_correlationOf_0 : decode cX7_correlationOf 0 = .ok (.lconst 0, 1) := by decide +kernel
theorem dX7_correlationOf_1 : decode cX7_correlationOf 1 = .ok (.lstore_n 2, 1) := by decide +kernel
theorem dX7_correlationOf_2 : decode cX7_correlationOf 2 = .ok (.aload_n 0, 1) := by decide +kernel
theorem dX7_correlationOf_3 : decode cX7_correlationOf 3 = .ok (.getfield 7, 3) := by decide +kernel
theorem dX7_correlationOf_6 : decode cX7_correlationOf 6 = .ok (.sipush 640, 3) := by decide +kernel
theorem dX7_correlationOf_9 : decode cX7_correlationOf 9 = .ok (.laload, 1) := by decide +kernel
theorem dX7_correlationOf_10 : decode cX7_correlationOf 10 = .ok (.lconst 1, 1) := by decide +kernel
theorem dX7_correlationOf_11 : decode cX7_correlationOf 11 = .ok (.lsub, 1) := by decide +kernel
theorem dX7_correlationOf_12 : decode cX7_correlationOf 12 = .ok (.lstore 4, 2) := by decide +kernel
theorem dX7_correlationOf_14 : decode cX7_correlationOf 14 = .ok (.lload 4, 2) := by decide +kernel
theorem dX7_correlationOf_16 : decode cX7_correlationOf 16 = .ok (.lconst 0, 1) := by decide +kernel
theorem dX7_correlationOf_17 : decode cX7_correlationOf 17 = .ok (.lcmp, 1) := by decide +kernel
theorem dX7_correlationOf_18 : decode cX7_correlationOf 18 = .ok (.ifCond .lt 78, 3) := by decide +kernel
theorem dX7_correlationOf_21 : decode cX7_correlationOf 21 = .ok (.lload 4, 2) := by decide +kernel
theorem dX7_correlationOf_23 : decode cX7_correlationOf 23 = .ok (.aload_n 0, 1) := by decide +kernel
theorem dX7_correlationOf_24 : decode cX7_correlationOf 24 = .ok (.getfield 7, 3) := by decide +kernel
theorem dX7_correlationOf_27 : decode cX7_correlationOf 27 = .ok (.sipush 640, 3) := by decide +kernel
theorem dX7_correlationOf_30 : decode cX7_correlationOf 30 = .ok (.laload, 1) := by decide +kernel
theorem dX7_correlationOf_31 : decode cX7_correlationOf 31 = .ok (.ldc2_w 90, 3) := by decide +kernel
theorem dX7_correlationOf_34 : decode cX7_correlationOf 34 = .ok (.lsub, 1) := by decide +kernel
theorem dX7_correlationOf_35 : decode cX7_correlationOf 35 = .ok (.lcmp, 1) := by decide +kernel
theorem dX7_correlationOf_36 : decode cX7_correlationOf 36 = .ok (.ifCond .lt 60, 3) := by decide +kernel
theorem dX7_correlationOf_39 : decode cX7_correlationOf 39 = .ok (.lload_n 2, 1) := by decide +kernel
theorem dX7_correlationOf_40 : decode cX7_correlationOf 40 = .ok (.aload_n 0, 1) := by decide +kernel
theorem dX7_correlationOf_41 : decode cX7_correlationOf 41 = .ok (.iconst 2, 1) := by decide +kernel
theorem dX7_correlationOf_42 : decode cX7_correlationOf 42 = .ok (.lload 4, 2) := by decide +kernel
theorem dX7_correlationOf_44 : decode cX7_correlationOf 44 = .ok (.lconst 1, 1) := by decide +kernel
theorem dX7_correlationOf_45 : decode cX7_correlationOf 45 = .ok (.lsub, 1) := by decide +kernel
theorem dX7_correlationOf_46 : decode cX7_correlationOf 46 = .ok (.iload_n 1, 1) := by decide +kernel
theorem dX7_correlationOf_47 : decode cX7_correlationOf 47 = .ok (.i2l, 1) := by decide +kernel
theorem dX7_correlationOf_48 : decode cX7_correlationOf 48 = .ok (.lsub, 1) := by decide +kernel
theorem dX7_correlationOf_49 : decode cX7_correlationOf 49 = .ok (.invokevirtual 132, 3) := by decide +kernel

set_option maxRecDepth 20000 in
theorem gX7_isAssignment_X7_in : GoodIn wsX7_isAssignment (va_wsS RX7 66 yX7_in wsX7_in) := goodIn_app (goodIn_of _ (by decide +kernel)) ggX7_isAssignment_X7_in
theorem dX7_isAssignment_0 : decode cX7_isAssignment 0 = .ok (.aload_n 0, 1) := by decide +kernel
theorem dX7_isAssignment_1 : decode cX7_isAssignment 1 = .ok (.aload_n 0, 1) := by decide +kernel
theorem dX7_isAssignment_2 : decode cX7_isAssignment 2 = .ok (.invokevirtual 104, 3) := by decide +kernel
theorem dX7_isAssignment_5 : decode cX7_isAssignment 5 = .ok (.putfield 108, 3) := by decide +kernel
theorem dX7_isAssignment_8 : decode cX7_isAssignment 8 = .ok (.aload_n 0, 1) := by decide +kernel
theorem dX7_isAssignment_9 : decode cX7_isAssignment 9 = .ok (.getfield 108, 3) := by decide +kernel
theorem dX7_isAssignment_12 : decode cX7_isAssignment 12 = .ok (.ifCond .ge 5, 3) := by decide +kernel
theorem dX7_isAssignment_15 : decode cX7_isAssignment 15 = .ok (.iconst 0, 1) := by decide +kernel
theorem dX7_isAssignment_16 : decode cX7_isAssignment 16 = .ok (.ireturn, 1) := by decide +kernel
theorem dX7_isAssignment_17 : decode cX7_isAssignment 17 = .ok (.aload_n 0, 1) := by decide +kernel
theorem dX7_isAssignment_18 : decode cX7_isAssignment 18 = .ok (.aload_n 0, 1) := by decide +kernel
theorem dX7_isAssignment_19 : decode cX7_isAssignment 19 = .ok (.getfield 98, 3) := by decide +kernel
theorem dX7_isAssignment_22 : decode cX7_isAssignment 22 = .ok (.invokevirtual 101, 3) := by decide +kernel
theorem dX7_isAssignment_25 : decode cX7_isAssignment 25 = .ok (.bipush 45, 2) := by decide +kernel
theorem dX7_isAssignment_27 : decode cX7_isAssignment 27 = .ok (.if_icmp .ne 7, 3) := by decide +kernel
theorem dX7_isAssignment_30 : decode cX7_isAssignment 30 = .ok (.iconst 1, 1) := by decide +kernel
theorem dX7_isAssignment_31 : decode cX7_isAssignment 31 = .ok (.goto 4, 3) := by decide +kernel
theorem dX7_isAssignment_34 : decode cX7_isAssignment 34 = .ok (.iconst 0, 1) := by decide +kernel
theorem dX7_isAssignment_35 : decode cX7_isAssignment 35 = .ok (.istore_n 1, 1) := by decide +kernel
theorem dX7_isAssignment_36 : decode cX7_isAssignment 36 = .ok (.aload_n 0, 1) := by decide +kernel
theorem dX7_isAssignment_37 : decode cX7_isAssignment 37 = .ok (.dup, 1) := by decide +kernel
theorem dX7_isAssignment_38 : decode cX7_isAssignment 38 = .ok (.getfield 98, 3) := by decide +kernel
theorem dX7_isAssignment_41 : decode cX7_isAssignment 41 = .ok (.iload_n 1, 1) := by decide +kernel
theorem dX7_isAssignment_42 : decode cX7_isAssignment 42 = .ok (.ifCond .eq 7, 3) := by decide +kernel
theorem dX7_isAssignment_45 : decode cX7_isAssignment 45 = .ok (.iconst 1, 1) := by decide +kernel
theorem dX7_isAssignment_46 : decode cX7_isAssignment 46 = .ok (.goto 4, 3) := by decide +kernel
theorem dX7_isAssignment_49 : decode cX7_isAssignment 49 = .ok (.iconst 0, 1) := by decide +kernel
theorem dX7_isAssignment_50 : decode cX7_isAssignment 50 = .ok (.iadd, 1) := by decide +kernel
theorem dX7_isAssignment_51 : decode cX7_isAssignment 51 = .ok (.putfield 98, 3) := by decide +kernel
theorem dX7_isAssignment_54 : decode cX7_isAssignment 54 = .ok (.iconst 0, 1) := by decide +kernel
theorem dX7_isAssignment_55 : decode cX7_isAssignment 55 = .ok (.istore_n 2, 1) := by decide +kernel
theorem dX7_isAssignment_56 : decode cX7_isAssignment 56 = .ok (.aload_n 0, 1) := by decide +kernel
theorem dX7_isAssignment_57 : decode cX7_isAssignment 57 = .ok (.iconst 0, 1) := by decide +kernel
theorem dX7_isAssignment_58 : decode cX7_isAssignment 58 = .ok (.putfield 111, 3) := by decide +kernel
theorem dX7_isAssignment_61 : decode cX7_isAssignment 61 = .ok (.aload_n 0, 1) := by decide +kernel
theorem dX7_isAssignment_62 : decode cX7_isAssignment 62 = .ok (.aload_n 0, 1) := by decide +kernel
theorem dX7_isAssignment_63 : decode cX7_isAssignment 63 = .ok (.getfield 98, 3) := by decide +kernel
theorem dX7_isAssignment_66 : decode cX7_isAssignment 66 = .ok (.invokevirtual 101, 3) := by decide +kernel
theorem dX7_isAssignment_69 : decode cX7_isAssignment 69 = .ok (.i2l, 1) := by decide +kernel
theorem dX7_isAssignment_70 : decode cX7_isAssignment 70 = .ok (.ldc2_w 114, 3) := by decide +kernel
theorem dX7_isAssignment_73 : decode cX7_isAssignment 73 = .ok (.ldc2_w 116, 3) := by decide +kernel
theorem dX7_isAssignment_76 : decode cX7_isAssignment 76 = .ok (.invokestatic 66, 3) := by decide +kernel
theorem dX7_isAssignment_79 : decode cX7_isAssignment 79 = .ok (.ifCond .eq 48, 3) := by decide +kernel
theorem dX7_isAssignment_82 : decode cX7_isAssignment 82 = .ok (.iload_n 2, 1) := by decide +kernel
theorem dX7_isAssignment_83 : decode cX7_isAssignment 83 = .ok (.bipush 8, 2) := by decide +kernel
theorem dX7_isAssignment_85 : decode cX7_isAssignment 85 = .ok (.if_icmp .ge 42, 3) := by decide +kernel
theorem dX7_isAssignment_88 : decode cX7_isAssignment 88 = .ok (.aload_n 0, 1) := by decide +kernel
theorem dX7_isAssignment_89 : decode cX7_isAssignment 89 = .ok (.bipush 10, 2) := by decide +kernel
theorem dX7_isAssignment_91 : decode cX7_isAssignment 91 = .ok (.aload_n 0, 1) := by decide +kernel
theorem dX7_isAssignment_92 : decode cX7_isAssignment 92 = .ok (.getfield 111, 3) := by decide +kernel
theorem dX7_isAssignment_95 : decode cX7_isAssignment 95 = .ok (.imul, 1) := by decide +kernel
theorem dX7_isAssignment_96 : decode cX7_isAssignment 96 = .ok (.aload_n 0, 1) := by decide +kernel
theorem dX7_isAssignment_97 : decode cX7_isAssignment 97 = .ok (.aload_n 0, 1) := by decide +kernel
theorem dX7_isAssignment_98 : decode cX7_isAssignment 98 = .ok (.getfield 98, 3) := by decide +kernel
theorem dX7_isAssignment_101 : decode cX7_isAssignment 101 = .ok (.invokevirtual 101, 3) := by decide +kernel
theorem dX7_isAssignment_104 : decode cX7_isAssignment 104 = .ok (.iadd, 1) := by decide +kernel
theorem dX7_isAssignment_105 : decode cX7_isAssignment 105 = .ok (.bipush 48, 2) := by decide +kernel
theorem dX7_isAssignment_107 : decode cX7_isAssignment 107 = .ok (.isub, 1) := by decide +kernel
theorem dX7_isAssignment_108 : decode cX7_isAssignment 108 = .ok (.putfield 111, 3) := by decide +kernel
theorem dX7_isAssignment_111 : decode cX7_isAssignment 111 = .ok (.aload_n 0, 1) := by decide +kernel
theorem dX7_isAssignment_112 : decode cX7_isAssignment 112 = .ok (.dup, 1) := by decide +kernel
theorem dX7_isAssignment_113 : decode cX7_isAssignment 113 = .ok (.getfield 98, 3) := by decide +kernel
theorem dX7_isAssignment_116 : decode cX7_isAssignment 116 = .ok (.iconst 1, 1) := by decide +kernel
theorem dX7_isAssignment_117 : decode cX7_isAssignment 117 = .ok (.iadd, 1) := by decide +kernel
theorem dX7_isAssignment_118 : decode cX7_isAssignment 118 = .ok (.putfield 98, 3) := by decide +kernel
theorem dX7_isAssignment_121 : decode cX7_isAssignment 121 = .ok (.iinc 2 1, 3) := by decide +kernel
theorem dX7_isAssignment_124 : decode cX7_isAssignment 124 = .ok (.goto (-63), 3) := by decide +kernel
theorem dX7_isAssignment_127 : decode cX7_isAssignment 127 = .ok (.aload_n 0, 1) := by decide +kernel
theorem dX7_isAssignment_128 : decode cX7_isAssignment 128 = .ok (.iload_n 1, 1) := by decide +kernel
theorem dX7_isAssignment_129 : decode cX7_isAssignment 129 = .ok (.ifCond .eq 11, 3) := by decide +kernel
theorem dX7_isAssignment_132 : decode cX7_isAssignment 132 = .ok (.aload_n 0, 1) := by decide +kernel
theorem dX7_isAssignment_133 : decode cX7_isAssignment 133 = .ok (.getfield 111, 3) := by decide +kernel
theorem dX7_isAssignment_136 : decode cX7_isAssignment 136 = .ok (.ineg, 1) := by decide +kernel
theorem dX7_isAssignment_137 : decode cX7_isAssignment 137 = .ok (.goto 7, 3) := by decide +kernel
theorem dX7_isAssignment_140 : decode cX7_isAssignment 140 = .ok (.aload_n 0, 1) := by decide +kernel
theorem dX7_isAssignment_141 : decode cX7_isAssignment 141 = .ok (.getfield 111, 3) := by decide +kernel
theorem dX7_isAssignment_144 : decode cX7_isAssignment 144 = .ok (.putfield 111, 3) := by decide +kernel
theorem dX7_isAssignment_147 : decode cX7_isAssignment 147 = .ok (.aload_n 0, 1) := by decide +kernel
theorem dX7_isAssignment_148 : decode cX7_isAssignment 148 = .ok (.dup, 1) := by decide +kernel
theorem dX7_isAssignment_149 : decode cX7_isAssignment 149 = .ok (.getfield 98, 3) := by decide +kernel
theorem dX7_isAssignment_152 : decode cX7_isAssignment 152 = .ok (.iconst 1, 1) := by decide +kernel
theorem dX7_isAssignment_153 : decode cX7_isAssignment 153 = .ok (.iadd, 1) := by decide +kernel
theorem dX7_isAssignment_154 : decode cX7_isAssignment 154 = .ok (.putfield 98, 3) := by decide +kernel
theorem dX7_isAssignment_157 : decode cX7_isAssignment 157 = .ok (.iload_n 2, 1) := by decide +kernel
theorem dX7_isAssignment_158 : decode cX7_isAssignment 158 = .ok (.i2l, 1) := by decide +kernel
theorem dX7_isAssignment_159 : decode cX7_isAssignment 159 = .ok (.lconst 1, 1) := by decide +kernel
theorem dX7_isAssignment_160 : decode cX7_isAssignment 160 = .ok (.ldc2_w 118, 3) := by decide +kernel
theorem dX7_isAssignment_163 : decode cX7_isAssignment 163 = .ok (.invokestatic 66, 3) := by decide +kernel
theorem dX7_isAssignment_166 : decode cX7_isAssignment 166 = .ok (.ifCond .eq 53, 3) := by decide +kernel
theorem dX7_isAssignment_169 : decode cX7_isAssignment 169 = .ok (.aload_n 0, 1) := by decide +kernel
theorem dX7_isAssignment_170 : decode cX7_isAssignment 170 = .ok (.aload_n 0, 1) := by decide +kernel
theorem dX7_isAssignment_171 : decode cX7_isAssignment 171 = .ok (.getfield 98, 3) := by decide +kernel
theorem dX7_isAssignment_174 : decode cX7_isAssignment 174 = .ok (.iconst 1, 1) := by decide +kernel
theorem dX7_isAssignment_175 : decode cX7_isAssignment 175 = .ok (.isub, 1) := by decide +kernel
theorem dX7_isAssignment_176 : decode cX7_isAssignment 176 = .ok (.invokevirtual 101, 3) := by decide +kernel
theorem dX7_isAssignment_179 : decode cX7_isAssignment 179 = .ok (.bipush 59, 2) := by decide +kernel
theorem dX7_isAssignment_181 : decode cX7_isAssignment 181 = .ok (.if_icmp .ne 38, 3) := by decide +kernel
theorem dX7_isAssignment_184 : decode cX7_isAssignment 184 = .ok (.aload_n 0, 1) := by decide +kernel
theorem dX7_isAssignment_185 : decode cX7_isAssignment 185 = .ok (.getfield 111, 3) := by decide +kernel
theorem dX7_isAssignment_188 : decode cX7_isAssignment 188 = .ok (.i2l, 1) := by decide +kernel
theorem dX7_isAssignment_189 : decode cX7_isAssignment 189 = .ok (.aload_n 0, 1) := by decide +kernel
theorem dX7_isAssignment_190 : decode cX7_isAssignment 190 = .ok (.getfield 29, 3) := by decide +kernel
theorem dX7_isAssignment_193 : decode cX7_isAssignment 193 = .ok (.aload_n 0, 1) := by decide +kernel
theorem dX7_isAssignment_194 : decode cX7_isAssignment 194 = .ok (.getfield 108, 3) := by decide +kernel
theorem dX7_isAssignment_197 : decode cX7_isAssignment 197 = .ok (.iaload, 1) := by decide +kernel
theorem dX7_isAssignment_198 : decode cX7_isAssignment 198 = .ok (.i2l, 1) := by decide +kernel
theorem dX7_isAssignment_199 : decode cX7_isAssignment 199 = .ok (.aload_n 0, 1) := by decide +kernel
theorem dX7_isAssignment_200 : decode cX7_isAssignment 200 = .ok (.getfield 32, 3) := by decide +kernel
theorem dX7_isAssignment_203 : decode cX7_isAssignment 203 = .ok (.aload_n 0, 1) := by decide +kernel
theorem dX7_isAssignment_204 : decode cX7_isAssignment 204 = .ok (.getfield 108, 3) := by decide +kernel
theorem dX7_isAssignment_207 : decode cX7_isAssignment 207 = .ok (.iaload, 1) := by decide +kernel
theorem dX7_isAssignment_208 : decode cX7_isAssignment 208 = .ok (.i2l, 1) := by decide +kernel
theorem dX7_isAssignment_209 : decode cX7_isAssignment 209 = .ok (.invokestatic 66, 3) := by decide +kernel
theorem dX7_isAssignment_212 : decode cX7_isAssignment 212 = .ok (.ifCond .eq 7, 3) := by decide +kernel
theorem dX7_isAssignment_215 : decode cX7_isAssignment 215 = .ok (.iconst 1, 1) := by decide +kernel
theorem dX7_isAssignment_216 : decode cX7_isAssignment 216 = .ok (.goto 4, 3) := by decide +kernel
theorem dX7_isAssignment_219 : decode cX7_isAssignment 219 = .ok (.iconst 0, 1) := by decide +kernel
theorem dX7_isAssignment_220 : decode cX7_isAssignment 220 = .ok (.ireturn, 1) := by decide +kernel
set_option maxRecDepth 20000 in
theorem ggX7_faultOf_X7_isAssignment : GoodIn wsX7_faultOf wsX7_isAssignment := goodIn_r _ [8, 9, 1, 10, 11, 12, 13, 14, 15, 16, 17, 18, 7, 19, 20, 3, 21, 22, 23, 24, 25, 26, 27, 28, 2, 29, 30, 31, 32, 33, 34, 35, 36, 37, 38, 39, 40, 41, 42, 43, 44, 45, 46, 47, 48, 49, 50] (by decide +kernel) (by decide +kernel)
set_option maxRecDepth 20000 in
theorem gX7_faultOf_X7_isAssignment : GoodIn wsX7_faultOf (wsV RX7 120 RX7 yX7_isAssignment wsX7_isAssignment) := goodIn_app (goodIn_of _ (by decide +kernel)) ggX7_faultOf_X7_isAssignment
theorem dX7_faultOf_0 : decode cX7_faultOf 0 = .ok (.aload_n 0, 1) := by decide +kernel
theorem dX7_faultOf_1 : decode cX7_faultOf 1 = .ok (.iconst 0, 1) := by decide +kernel
theorem dX7_faultOf_2 : decode cX7_faultOf 2 = .ok (.putfield 98, 3) := by decide +kernel
theorem dX7_faultOf_5 : decode cX7_faultOf 5 = .ok (.aload_n 0, 1) := by decide +kernel
theorem dX7_faultOf_6 : decode cX7_faultOf 6 = .ok (.getfield 98, 3) := by decide +kernel
theorem dX7_faultOf_9 : decode cX7_faultOf 9 = .ok (.aload_n 0, 1) := by decide +kernel
theorem dX7_faultOf_10 : decode cX7_faultOf 10 = .ok (.getfield 94, 3) := by decide +kernel
theorem dX7_faultOf_13 : decode cX7_faultOf 13 = .ok (.if_icmp .ge 20, 3) := by decide +kernel
theorem dX7_faultOf_16 : decode cX7_faultOf 16 = .ok (.aload_n 0, 1) := by decide +kernel
theorem dX7_faultOf_17 : decode cX7_faultOf 17 = .ok (.getfield 98, 3) := by decide +kernel
theorem dX7_faultOf_20 : decode cX7_faultOf 20 = .ok (.istore_n 1, 1) := by decide +kernel
theorem dX7_faultOf_21 : decode cX7_faultOf 21 = .ok (.aload_n 0, 1) := by decide +kernel
theorem dX7_faultOf_22 : decode cX7_faultOf 22 = .ok (.invokevirtual 120, 3) := by decide +kernel
theorem dX7_faultOf_25 : decode cX7_faultOf 25 = .ok (.ifCond .ne 5, 3) := by decide +kernel
theorem dX7_faultOf_28 : decode cX7_faultOf 28 = .ok (.iload_n 1, 1) := by decide +kernel
theorem dX7_faultOf_29 : decode cX7_faultOf 29 = .ok (.ireturn, 1) := by decide +kernel
theorem dX7_faultOf_30 : decode cX7_faultOf 30 = .ok (.goto (-25), 3) := by decide +kernel
theorem dX7_faultOf_33 : decode cX7_faultOf 33 = .ok (.ldc 82, 2) := by decide +kernel
theorem dX7_faultOf_35 : decode cX7_faultOf 35 = .ok (.ireturn, 1) := by decide +kernel
set_option maxRecDepth 20000 in
theorem ggX7_fault_X7_faultOf : GoodIn wsX7_fault wsX7_faultOf := goodIn_r _ [5, 6, 7, 8, 9, 10, 11, 4, 12, 13, 14, 15, 16, 17, 18, 19, 20, 21, 22, 23, 24, 25, 26, 27, 28, 29, 30, 31, 32, 33, 34, 35, 36, 37, 38, 39, 40, 41, 42, 43, 44, 45, 46, 47, 48, 49, 50, 51, 52, 53, 54] (by decide +kernel) (by decide +kernel)
set_option maxRecDepth 20000 in
theorem gX7_fault_X7_faultOf : GoodIn wsX7_fault (wsV RX7 124 RX7 yX7_faultOf wsX7_faultOf) := goodIn_app (goodIn_of _ (by decide +kernel)) ggX7_fault_X7_faultOf
theorem dX7_fault_0 : decode cX7_fault 0 = .ok (.aload_n 0, 1) := by decide +kernel
theorem dX7_fault_1 : decode cX7_fault 1 = .ok (.invokevirtual 124, 3) := by decide +kernel
theorem dX7_fault_4 : decode cX7_fault 4 = .ok (.ireturn, 1) := by decide +kernel
set_option maxRecDepth 20000 in
theorem ggX7_apply_X7_faultOf : GoodIn wsX7_apply wsX7_faultOf := goodIn_r _ [12, 4, 1, 2, 13, 14, 15, 11, 16, 6, 7, 17, 18, 19, 20, 21, 22, 23, 24, 25, 26, 27, 28, 29, 30, 31, 32, 33, 34, 35, 36, 37, 38, 45, 46, 47, 48, 49, 50, 51, 52, 53, 54, 55, 56, 57, 58, 59, 60, 61, 62] (by decide +kernel) (by decide +kernel)
set_option maxRecDepth 20000 in
theorem gX7_apply_X7_faultOf : GoodIn wsX7_apply (wsV RX7 124 RX7 yX7_faultOf wsX7_faultOf) := goodIn_app (goodIn_of _ (by decide +kernel)) ggX7_apply_X7_faultOf
set_option maxRecDepth 20000 in
theorem ggX7_apply_X7_keeps : GoodIn wsX7_apply wsX7_keeps := goodIn_r _ [42, 43, 44, 5, 45, 46, 47, 48, 49, 50, 51, 52, 53, 54, 55, 56, 57, 58, 59, 60, 61, 62] (by decide +kernel) (by decide +kernel)
set_option maxRecDepth 20000 in
theorem gX7_apply_X7_keeps : GoodIn wsX7_apply (wsV RX7 75 RX7 yX7_keeps wsX7_keeps) := goodIn_app (goodIn_of _ (by decide +kernel)) ggX7_apply_X7_keeps
set_option maxRecDepth 20000 in
theorem ggX7_apply_X7_isAssignment : GoodIn wsX7_apply wsX7_isAssignment := goodIn_r _ [16, 6, 4, 7, 17, 18, 19, 20, 21, 22, 23, 24, 11, 25, 26, 2, 27, 28, 29, 30, 31, 32, 33, 34, 1, 35, 36, 37, 38, 45, 46, 47, 48, 49, 50, 51, 52, 53, 54, 55, 56, 57, 58, 59, 60, 61, 62] (by decide +kernel) (by decide +kernel)
set_option maxRecDepth 20000 in
theorem gX7_apply_X7_isAssignment : GoodIn wsX7_apply (wsV RX7 120 RX7 yX7_isAssignment wsX7_isAssignment) := goodIn_app (goodIn_of _ (by decide +kernel)) ggX7_apply_X7_isAssignment
theorem dX7_apply_0 : decode cX7_apply 0 = .ok (.aload_n 0, 1) := by decide +kernel
theorem dX7_apply_1 : decode cX7_apply 1 = .ok (.getfield 94, 3) := by decide +kernel
theorem dX7_apply_4 : decode cX7_apply 4 = .ok (.ifCond .eq 12, 3) := by decide +kernel
theorem dX7_apply_7 : decode cX7_apply 7 = .ok (.aload_n 0, 1) := by decide +kernel
theorem dX7_apply_8 : decode cX7_apply 8 = .ok (.invokevirtual 124, 3) := by decide +kernel
theorem dX7_apply_11 : decode cX7_apply 11 = .ok (.ldc 82, 2) := by decide +kernel
theorem dX7_apply_13 : decode cX7_apply 13 = .ok (.if_icmp .eq 6, 3) := by decide +kernel
theorem dX7_apply_16 : decode cX7_apply 16 = .ok (.ldc 83, 2) := by decide +kernel
theorem dX7_apply_18 : decode cX7_apply 18 = .ok (.ireturn, 1) := by decide +kernel
theorem dX7_apply_19 : decode cX7_apply 19 = .ok (.aload_n 0, 1) := by decide +kernel
theorem dX7_apply_20 : decode cX7_apply 20 = .ok (.invokevirtual 75, 3) := by decide +kernel
theorem dX7_apply_23 : decode cX7_apply 23 = .ok (.iconst 0, 1) := by decide +kernel
theorem dX7_apply_24 : decode cX7_apply 24 = .ok (.istore_n 1, 1) := by decide +kernel
theorem dX7_apply_25 : decode cX7_apply 25 = .ok (.aload_n 0, 1) := by decide +kernel
theorem dX7_apply_26 : decode cX7_apply 26 = .ok (.iconst 0, 1) := by decide +kernel
theorem dX7_apply_27 : decode cX7_apply 27 = .ok (.putfield 98, 3) := by decide +kernel
theorem dX7_apply_30 : decode cX7_apply 30 = .ok (.aload_n 0, 1) := by decide +kernel
theorem dX7_apply_31 : decode cX7_apply 31 = .ok (.getfield 98, 3) := by decide +kernel
theorem dX7_apply_34 : decode cX7_apply 34 = .ok (.aload_n 0, 1) := by decide +kernel
theorem dX7_apply_35 : decode cX7_apply 35 = .ok (.getfield 94, 3) := by decide +kernel
theorem dX7_apply_38 : decode cX7_apply 38 = .ok (.if_icmp .ge 29, 3) := by decide +kernel
theorem dX7_apply_41 : decode cX7_apply 41 = .ok (.aload_n 0, 1) := by decide +kernel
theorem dX7_apply_42 : decode cX7_apply 42 = .ok (.invokevirtual 120, 3) := by decide +kernel
theorem dX7_apply_45 : decode cX7_apply 45 = .ok (.ifCond .eq 22, 3) := by decide +kernel
theorem dX7_apply_48 : decode cX7_apply 48 = .ok (.aload_n 0, 1) := by decide +kernel
theorem dX7_apply_49 : decode cX7_apply 49 = .ok (.getfield 19, 3) := by decide +kernel
theorem dX7_apply_52 : decode cX7_apply 52 = .ok (.aload_n 0, 1) := by decide +kernel
theorem dX7_apply_53 : decode cX7_apply 53 = .ok (.getfield 108, 3) := by decide +kernel
theorem dX7_apply_56 : decode cX7_apply 56 = .ok (.aload_n 0, 1) := by decide +kernel
theorem dX7_apply_57 : decode cX7_apply 57 = .ok (.getfield 111, 3) := by decide +kernel
theorem dX7_apply_60 : decode cX7_apply 60 = .ok (.iastore, 1) := by decide +kernel
theorem dX7_apply_61 : decode cX7_apply 61 = .ok (.iinc 1 1, 3) := by decide +kernel
theorem dX7_apply_64 : decode cX7_apply 64 = .ok (.goto (-34), 3) := by decide +kernel
theorem dX7_apply_67 : decode cX7_apply 67 = .ok (.iload_n 1, 1) := by decide +kernel
theorem dX7_apply_68 : decode cX7_apply 68 = .ok (.ireturn, 1) := by decide +kernel
set_option maxRecDepth 20000 in
theorem ggX7_assignedBy_X7_isAssignment : GoodIn wsX7_assignedBy wsX7_isAssignment := goodIn_r _ [9, 3, 1, 10, 11, 12, 13, 14, 15, 16, 17, 18, 8, 19, 20, 4, 21, 22, 23, 24, 25, 26, 27, 28, 2, 29, 30, 31, 32, 33, 34, 35, 36, 37, 38, 39, 40, 41, 42, 43, 44, 45, 46, 47, 48, 49, 50] (by decide +kernel) (by decide +kernel)
set_option maxRecDepth 20000 in
theorem gX7_assignedBy_X7_isAssignment : GoodIn wsX7_assignedBy (wsV RX7 120 RX7 yX7_isAssignment wsX7_isAssignment) := goodIn_app (goodIn_of _ (by decide +kernel)) ggX7_assignedBy_X7_isAssignment
theorem dX7_assignedBy_0 : decode cX7_assignedBy 0 = .ok (.iconst 0, 1) := by decide +kernel
theorem dX7_assignedBy_1 : decode cX7_assignedBy 1 = .ok (.istore_n 2, 1) := by decide +kernel
theorem dX7_assignedBy_2 : decode cX7_assignedBy 2 = .ok (.iconst 0, 1) := by decide +kernel
theorem dX7_assignedBy_3 : decode cX7_assignedBy 3 = .ok (.istore_n 3, 1) := by decide +kernel
theorem dX7_assignedBy_4 : decode cX7_assignedBy 4 = .ok (.aload_n 0, 1) := by decide +kernel
theorem dX7_assignedBy_5 : decode cX7_assignedBy 5 = .ok (.iconst 0, 1) := by decide +kernel
theorem dX7_assignedBy_6 : decode cX7_assignedBy 6 = .ok (.putfield 98, 3) := by decide +kernel
theorem dX7_assignedBy_9 : decode cX7_assignedBy 9 = .ok (.aload_n 0, 1) := by decide +kernel
theorem dX7_assignedBy_10 : decode cX7_assignedBy 10 = .ok (.getfield 98, 3) := by decide +kernel
theorem dX7_assignedBy_13 : decode cX7_assignedBy 13 = .ok (.aload_n 0, 1) := by decide +kernel
theorem dX7_assignedBy_14 : decode cX7_assignedBy 14 = .ok (.getfield 94, 3) := by decide +kernel
theorem dX7_assignedBy_17 : decode cX7_assignedBy 17 = .ok (.if_icmp .ge 46, 3) := by decide +kernel
theorem dX7_assignedBy_20 : decode cX7_assignedBy 20 = .ok (.aload_n 0, 1) := by decide +kernel
theorem dX7_assignedBy_21 : decode cX7_assignedBy 21 = .ok (.invokevirtual 120, 3) := by decide +kernel
theorem dX7_assignedBy_24 : decode cX7_assignedBy 24 = .ok (.ifCond .eq 39, 3) := by decide +kernel
theorem dX7_assignedBy_27 : decode cX7_assignedBy 27 = .ok (.iload_n 2, 1) := by decide +kernel
theorem dX7_assignedBy_28 : decode cX7_assignedBy 28 = .ok (.aload_n 0, 1) := by decide +kernel
theorem dX7_assignedBy_29 : decode cX7_assignedBy 29 = .ok (.getfield 108, 3) := by decide +kernel
theorem dX7_assignedBy_32 : decode cX7_assignedBy 32 = .ok (.ishr, 1) := by decide +kernel
theorem dX7_assignedBy_33 : decode cX7_assignedBy 33 = .ok (.iconst 1, 1) := by decide +kernel
theorem dX7_assignedBy_34 : decode cX7_assignedBy 34 = .ok (.iand, 1) := by decide +kernel
theorem dX7_assignedBy_35 : decode cX7_assignedBy 35 = .ok (.ifCond .ne (-26), 3) := by decide +kernel
theorem dX7_assignedBy_38 : decode cX7_assignedBy 38 = .ok (.iload_n 3, 1) := by decide +kernel
theorem dX7_assignedBy_39 : decode cX7_assignedBy 39 = .ok (.iload_n 1, 1) := by decide +kernel
theorem dX7_assignedBy_40 : decode cX7_assignedBy 40 = .ok (.if_icmp .ne 8, 3) := by decide +kernel
theorem dX7_assignedBy_43 : decode cX7_assignedBy 43 = .ok (.aload_n 0, 1) := by decide +kernel
theorem dX7_assignedBy_44 : decode cX7_assignedBy 44 = .ok (.getfield 108, 3) := by decide +kernel
theorem dX7_assignedBy_47 : decode cX7_assignedBy 47 = .ok (.ireturn, 1) := by decide +kernel
theorem dX7_assignedBy_48 : decode cX7_assignedBy 48 = .ok (.iload_n 2, 1) := by decide +kernel
theorem dX7_assignedBy_49 : decode cX7_assignedBy 49 = .ok (.iconst 1, 1) := by decide +kernel
theorem dX7_assignedBy_50 : decode cX7_assignedBy 50 = .ok (.aload_n 0, 1) := by decide +kernel
theorem dX7_assignedBy_51 : decode cX7_assignedBy 51 = .ok (.getfield 108, 3) := by decide +kernel
theorem dX7_assignedBy_54 : decode cX7_assignedBy 54 = .ok (.ishl, 1) := by decide +kernel
theorem dX7_assignedBy_55 : decode cX7_assignedBy 55 = .ok (.ior, 1) := by decide +kernel
theorem dX7_assignedBy_56 : decode cX7_assignedBy 56 = .ok (.istore_n 2, 1) := by decide +kernel
theorem dX7_assignedBy_57 : decode cX7_assignedBy 57 = .ok (.iinc 3 1, 3) := by decide +kernel
theorem dX7_assignedBy_60 : decode cX7_assignedBy 60 = .ok (.goto (-51), 3) := by decide +kernel
theorem dX7_assignedBy_63 : decode cX7_assignedBy 63 = .ok (.iload_n 1, 1) := by decide +kernel
theorem dX7_assignedBy_64 : decode cX7_assignedBy 64 = .ok (.ifCond .ge 7, 3) := by decide +kernel
theorem dX7_assignedBy_67 : decode cX7_assignedBy 67 = .ok (.iload_n 3, 1) := by decide +kernel
theorem dX7_assignedBy_68 : decode cX7_assignedBy 68 = .ok (.goto 5, 3) := by decide +kernel
theorem dX7_assignedBy_71 : decode cX7_assignedBy 71 = .ok (.ldc 82, 2) := by decide +kernel
theorem dX7_assignedBy_73 : decode cX7_assignedBy 73 = .ok (.ireturn, 1) := by decide +kernel
set_option maxRecDepth 20000 in
theorem ggX7_assigned_X7_faultOf : GoodIn wsX7_assigned wsX7_faultOf := goodIn_r _ [7, 8, 9, 1, 10, 11, 12, 6, 13, 14, 15, 16, 17, 18, 19, 20, 21, 22, 23, 24, 25, 26, 27, 28, 29, 30, 31, 32, 33, 34, 35, 36, 37, 42, 43, 44, 45, 46, 47, 48, 49, 50, 51, 52, 53, 54, 55, 56, 57, 58, 59] (by decide +kernel) (by decide +kernel)
set_option maxRecDepth 20000 in
theorem gX7_assigned_X7_faultOf : GoodIn wsX7_assigned (wsV RX7 124 RX7 yX7_faultOf wsX7_faultOf) := goodIn_app (goodIn_of _ (by decide +kernel)) ggX7_assigned_X7_faultOf
set_option maxRecDepth 20000 in
theorem ggX7_assigned_X7_assignedBy : GoodIn wsX7_assigned wsX7_assignedBy := goodIn_r _ [41, 8, 9, 14, 1, 10, 11, 12, 6, 13, 15, 16, 17, 18, 19, 20, 21, 22, 23, 24, 25, 26, 27, 28, 29, 30, 31, 32, 33, 34, 35, 36, 37, 42, 43, 44, 45, 46, 47, 48, 49, 50, 51, 52, 53, 54, 55, 56, 57, 58, 59] (by decide +kernel) (by decide +kernel)
set_option maxRecDepth 20000 in
theorem gX7_assigned_X7_assignedBy : GoodIn wsX7_assigned (wsV RX7 127 RX7 yX7_assignedBy wsX7_assignedBy) := goodIn_app (goodIn_of _ (by decide +kernel)) ggX7_assigned_X7_assignedBy
theorem dX7_assigned_0 : decode cX7_assigned 0 = .ok (.aload_n 0, 1) := by decide +kernel
theorem dX7_assigned_1 : decode cX7_assigned 1 = .ok (.invokevirtual 124, 3) := by decide +kernel
theorem dX7_assigned_4 : decode cX7_assigned 4 = .ok (.ldc 82, 2) := by decide +kernel
theorem dX7_assigned_6 : decode cX7_assigned 6 = .ok (.if_icmp .eq 8, 3) := by decide +kernel
theorem dX7_assigned_9 : decode cX7_assigned 9 = .ok (.ldc 83, 2) := by decide +kernel
theorem dX7_assigned_11 : decode cX7_assigned 11 = .ok (.goto 8, 3) := by decide +kernel
theorem dX7_assigned_14 : decode cX7_assigned 14 = .ok (.aload_n 0, 1) := by decide +kernel
theorem dX7_assigned_15 : decode cX7_assigned 15 = .ok (.iconst (-1), 1) := by decide +kernel
theorem dX7_assigned_16 : decode cX7_assigned 16 = .ok (.invokevirtual 127, 3) := by decide +kernel
theorem dX7_assigned_19 : decode cX7_assigned 19 = .ok (.ireturn, 1) := by decide +kernel
set_option maxRecDepth 20000 in
theorem ggX7_assignedAt_X7_faultOf : GoodIn wsX7_assignedAt wsX7_faultOf := goodIn_r _ [8, 9, 10, 2, 11, 12, 13, 7, 14, 15, 16, 17, 18, 19, 20, 21, 22, 23, 24, 25, 26, 27, 28, 29, 30, 31, 32, 33, 34, 35, 36, 37, 38, 43, 44, 45, 46, 47, 48, 49, 50, 51, 52, 53, 54, 55, 56, 57, 58, 59, 60] (by decide +kernel) (by decide +kernel)
set_option maxRecDepth 20000 in
theorem gX7_assignedAt_X7_faultOf : GoodIn wsX7_assignedAt (wsV RX7 124 RX7 yX7_faultOf wsX7_faultOf) := goodIn_app (goodIn_of _ (by decide +kernel)) ggX7_assignedAt_X7_faultOf
set_option maxRecDepth 20000 in
theorem ggX7_assignedAt_X7_assignedBy : GoodIn wsX7_assignedAt wsX7_assignedBy := goodIn_r _ [42, 9, 10, 15, 2, 11, 12, 13, 7, 14, 16, 17, 18, 19, 20, 21, 22, 23, 24, 25, 26, 27, 28, 29, 30, 31, 32, 33, 34, 35, 36, 37, 38, 43, 44, 45, 46, 47, 48, 49, 50, 51, 52, 53, 54, 55, 56, 57, 58, 59, 60] (by decide +kernel) (by decide +kernel)
set_option maxRecDepth 20000 in
theorem gX7_assignedAt_X7_assignedBy : GoodIn wsX7_assignedAt (wsV RX7 127 RX7 yX7_assignedBy wsX7_assignedBy) := goodIn_app (goodIn_of _ (by decide +kernel)) ggX7_assignedAt_X7_assignedBy
theorem dX7_assignedAt_0 : decode cX7_assignedAt 0 = .ok (.iload_n 1, 1) := by decide +kernel
theorem dX7_assignedAt_1 : decode cX7_assignedAt 1 = .ok (.ifCond .ge 6, 3) := by decide +kernel
theorem dX7_assignedAt_4 : decode cX7_assignedAt 4 = .ok (.ldc 74, 2) := by decide +kernel
theorem dX7_assignedAt_6 : decode cX7_assignedAt 6 = .ok (.ireturn, 1) := by decide +kernel
theorem dX7_assignedAt_7 : decode cX7_assignedAt 7 = .ok (.aload_n 0, 1) := by decide +kernel
theorem dX7_assignedAt_8 : decode cX7_assignedAt 8 = .ok (.invokevirtual 124, 3) := by decide +kernel
theorem dX7_assignedAt_11 : decode cX7_assignedAt 11 = .ok (.ldc 82, 2) := by decide +kernel
theorem dX7_assignedAt_13 : decode cX7_assignedAt 13 = .ok (.if_icmp .eq 8, 3) := by decide +kernel
theorem dX7_assignedAt_16 : decode cX7_assignedAt 16 = .ok (.ldc 83, 2) := by decide +kernel
theorem dX7_assignedAt_18 : decode cX7_assignedAt 18 = .ok (.goto 8, 3) := by decide +kernel
theorem dX7_assignedAt_21 : decode cX7_assignedAt 21 = .ok (.aload_n 0, 1) := by decide +kernel
theorem dX7_assignedAt_22 : decode cX7_assignedAt 22 = .ok (.iload_n 1, 1) := by decide +kernel
theorem dX7_assignedAt_23 : decode cX7_assignedAt 23 = .ok (.invokevirtual 127, 3) := by decide +kernel
theorem dX7_assignedAt_26 : decode cX7_assignedAt 26 = .ok (.ireturn, 1) := by decide +kernel
theorem dX7_at_0 : decode cX7_at 0 = .ok (.lload_n 2, 1) := by decide +kernel
theorem dX7_at_1 : decode cX7_at 1 = .ok (.lconst 0, 1) := by decide +kernel
theorem dX7_at_2 : decode cX7_at 2 = .ok (.lcmp, 1) := by decide +kernel
theorem dX7_at_3 : decode cX7_at 3 = .ok (.ifCond .ge 7, 3) := by decide +kernel
theorem dX7_at_6 : decode cX7_at 6 = .ok (.lconst 0, 1) := by decide +kernel
theorem dX7_at_7 : decode cX7_at 7 = .ok (.goto 19, 3) := by decide +kernel
theorem dX7_at_10 : decode cX7_at 10 = .ok (.aload_n 0, 1) := by decide +kernel
theorem dX7_at_11 : decode cX7_at 11 = .ok (.getfield 7, 3) := by decide +kernel
theorem dX7_at_14 : decode cX7_at 14 = .ok (.bipush 64, 2) := by decide +kernel
theorem dX7_at_16 : decode cX7_at 16 = .ok (.iload_n 1, 1) := by decide +kernel
theorem dX7_at_17 : decode cX7_at 17 = .ok (.imul, 1) := by decide +kernel
theorem dX7_at_18 : decode cX7_at 18 = .ok (.lload_n 2, 1) := by decide +kernel
theorem dX7_at_19 : decode cX7_at 19 = .ok (.ldc2_w 130, 3) := by decide +kernel
theorem dX7_at_22 : decode cX7_at 22 = .ok (.lrem, 1) := by decide +kernel
theorem dX7_at_23 : decode cX7_at 23 = .ok (.l2i, 1) := by decide +kernel
theorem dX7_at_24 : decode cX7_at 24 = .ok (.iadd, 1) := by decide +kernel
theorem dX7_at_25 : decode cX7_at 25 = .ok (.laload, 1) := by decide +kernel
theorem dX7_at_26 : decode cX7_at 26 = .ok (.lreturn, 1) := by decide +kernel
theorem dX7_records_0 : decode cX7_records 0 = .ok (.aload_n 0, 1) := by decide +kernel
theorem dX7_records_1 : decode cX7_records 1 = .ok (.getfield 7, 3) := by decide +kernel
theorem dX7_records_4 : decode cX7_records 4 = .ok (.bipush 64, 2) := by decide +kernel
theorem dX7_records_6 : decode cX7_records 6 = .ok (.iload_n 1, 1) := by decide +kernel
theorem dX7_records_7 : decode cX7_records 7 = .ok (.imul, 1) := by decide +kernel
theorem dX7_records_8 : decode cX7_records 8 = .ok (.aload_n 0, 1) := by decide +kernel
theorem dX7_records_9 : decode cX7_records 9 = .ok (.getfield 7, 3) := by decide +kernel
theorem dX7_records_12 : decode cX7_records 12 = .ok (.sipush 640, 3) := by decide +kernel
theorem dX7_records_15 : decode cX7_records 15 = .ok (.laload, 1) := by decide +kernel
theorem dX7_records_16 : decode cX7_records 16 = .ok (.ldc2_w 130, 3) := by decide +kernel
theorem dX7_records_19 : decode cX7_records 19 = .ok (.lrem, 1) := by decide +kernel
theorem dX7_records_20 : decode cX7_records 20 = .ok (.l2i, 1) := by decide +kernel
theorem dX7_records_21 : decode cX7_records 21 = .ok (.iadd, 1) := by decide +kernel
theorem dX7_records_22 : decode cX7_records 22 = .ok (.lload_n 2, 1) := by decide +kernel
theorem dX7_records_23 : decode cX7_records 23 = .ok (.lastore, 1) := by decide +kernel
theorem dX7_records_24 : decode cX7_records 24 = .ok (.return_, 1) := by decide +kernel
set_option maxRecDepth 20000 in
theorem ggX7_delayed_X7_at : GoodIn wsX7_delayed wsX7_at := goodIn_r _ [7, 1, 8, 12, 13, 14, 15, 16, 17, 18, 19, 20, 21, 22, 23, 24, 25, 26, 27, 28, 29] (by decide +kernel) (by decide +kernel)
set_option maxRecDepth 20000 in
theorem gX7_delayed_X7_at : GoodIn wsX7_delayed (wsV RX7 132 RX7 yX7_at wsX7_at) := goodIn_app (goodIn_of _ (by decide +kernel)) ggX7_delayed_X7_at
set_option maxRecDepth 20000 in
theorem ggX7_delayed_X7_floor : GoodIn wsX7_delayed wsX7_floor := goodIn_r _ [11] (by decide +kernel) (by decide +kernel)
set_option maxRecDepth 20000 in
theorem gX7_delayed_X7_floor : GoodIn wsX7_delayed (va_wsS RX7 138 yX7_floor wsX7_floor) := goodIn_app (goodIn_of _ (by decide +kernel)) ggX7_delayed_X7_floor
theorem dX7_delayed_0 : decode cX7_delayed 0 = .ok (.iload_n 2, 1) := by decide +kernel
theorem dX7_delayed_1 : decode cX7_delayed 1 = .ok (.bipush 10, 2) := by decide +kernel
theorem dX7_delayed_3 : decode cX7_delayed 3 = .ok (.idiv, 1) := by decide +kernel
theorem dX7_delayed_4 : decode cX7_delayed 4 = .ok (.istore_n 3, 1) := by decide +kernel
theorem dX7_delayed_5 : decode cX7_delayed 5 = .ok (.iload_n 2, 1) := by decide +kernel
theorem dX7_delayed_6 : decode cX7_delayed 6 = .ok (.bipush 10, 2) := by decide +kernel
theorem dX7_delayed_8 : decode cX7_delayed 8 = .ok (.irem, 1) := by decide +kernel
theorem dX7_delayed_9 : decode cX7_delayed 9 = .ok (.istore 4, 2) := by decide +kernel
theorem dX7_delayed_11 : decode cX7_delayed 11 = .ok (.aload_n 0, 1) := by decide +kernel
theorem dX7_delayed_12 : decode cX7_delayed 12 = .ok (.getfield 7, 3) := by decide +kernel
theorem dX7_delayed_15 : decode cX7_delayed 15 = .ok (.sipush 640, 3) := by decide +kernel
theorem dX7_delayed_18 : decode cX7_delayed 18 = .ok (.laload, 1) := by decide +kernel
theorem dX7_delayed_19 : decode cX7_delayed 19 = .ok (.lstore 5, 2) := by decide +kernel
theorem dX7_delayed_21 : decode cX7_delayed 21 = .ok (.aload_n 0, 1) := by decide +kernel
theorem dX7_delayed_22 : decode cX7_delayed 22 = .ok (.iload_n 1, 1) := by decide +kernel
theorem dX7_delayed_23 : decode cX7_delayed 23 = .ok (.lload 5, 2) := by decide +kernel
theorem dX7_delayed_25 : decode cX7_delayed 25 = .ok (.iload_n 3, 1) := by decide +kernel
theorem dX7_delayed_26 : decode cX7_delayed 26 = .ok (.i2l, 1) := by decide +kernel
theorem dX7_delayed_27 : decode cX7_delayed 27 = .ok (.lsub, 1) := by decide +kernel
theorem dX7_delayed_28 : decode cX7_delayed 28 = .ok (.invokevirtual 132, 3) := by decide +kernel
theorem dX7_delayed_31 : decode cX7_delayed 31 = .ok (.bipush 10, 2) := by decide +kernel
theorem dX7_delayed_33 : decode cX7_delayed 33 = .ok (.iload 4, 2) := by decide +kernel
theorem dX7_delayed_35 : decode cX7_delayed 35 = .ok (.isub, 1) := by decide +kernel
theorem dX7_delayed_36 : decode cX7_delayed 36 = .ok (.i2l, 1) := by decide +kernel
theorem dX7_delayed_37 : decode cX7_delayed 37 = .ok (.lmul, 1) := by decide +kernel
theorem dX7_delayed_38 : decode cX7_delayed 38 = .ok (.aload_n 0, 1) := by decide +kernel
theorem dX7_delayed_39 : decode cX7_delayed 39 = .ok (.iload_n 1, 1) := by decide +kernel
theorem dX7_delayed_40 : decode cX7_delayed 40 = .ok (.lload 5, 2) := by decide +kernel
theorem dX7_delayed_42 : decode cX7_delayed 42 = .ok (.iload_n 3, 1) := by decide +kernel
theorem dX7_delayed_43 : decode cX7_delayed 43 = .ok (.i2l, 1) := by decide +kernel
theorem dX7_delayed_44 : decode cX7_delayed 44 = .ok (.lsub, 1) := by decide +kernel
theorem dX7_delayed_45 : decode cX7_delayed 45 = .ok (.lconst 1, 1) := by decide +kernel
theorem dX7_delayed_46 : decode cX7_delayed 46 = .ok (.lsub, 1) := by decide +kernel
theorem dX7_delayed_47 : decode cX7_delayed 47 = .ok (.invokevirtual 132, 3) := by decide +kernel
theorem dX7_delayed_50 : decode cX7_delayed 50 = .ok (.iload 4, 2) := by decide +kernel
theorem dX7_delayed_52 : decode cX7_delayed 52 = .ok (.i2l, 1) := by decide +kernel
theorem dX7_delayed_53 : decode cX7_delayed 53 = .ok (.lmul, 1) := by decide +kernel
theorem dX7_delayed_54 : decode cX7_delayed 54 = .ok (.ladd, 1) := by decide +kernel
theorem dX7_delayed_55 : decode cX7_delayed 55 = .ok (.ldc2_w 136, 3) := by decide +kernel
theorem dX7_delayed_58 : decode cX7_delayed 58 = .ok (.invokestatic 138, 3) := by decide +kernel
theorem dX7_delayed_61 : decode cX7_delayed 61 = .ok (.lreturn, 1) := by decide +kernel
set_option maxRecDepth 20000 in
theorem ggX7_steps_X7_floor : GoodIn wsX7_steps wsX7_floor := goodIn_r _ [5] (by decide +kernel) (by decide +kernel)
set_option maxRecDepth 20000 in
theorem gX7_steps_X7_floor : GoodIn wsX7_steps (va_wsS RX7 138 yX7_floor wsX7_floor) := goodIn_app (goodIn_of _ (by decide +kernel)) ggX7_steps_X7_floor
theorem dX7_steps_0 : decode cX7_steps 0 = .ok (.lload_n 1, 1) := by decide +kernel
theorem dX7_steps_1 : decode cX7_steps 1 = .ok (.iload 5, 2) := by decide +kernel
theorem dX7_steps_3 : decode cX7_steps 3 = .ok (.i2l, 1) := by decide +kernel
theorem dX7_steps_4 : decode cX7_steps 4 = .ok (.lload_n 3, 1) := by decide +kernel
theorem dX7_steps_5 : decode cX7_steps 5 = .ok (.lload_n 1, 1) := by decide +kernel
theorem dX7_steps_6 : decode cX7_steps 6 = .ok (.lsub, 1) := by decide +kernel
theorem dX7_steps_7 : decode cX7_steps 7 = .ok (.lmul, 1) := by decide +kernel
theorem dX7_steps_8 : decode cX7_steps 8 = .ok (.ldc2_w 142, 3) := by decide +kernel
theorem dX7_steps_11 : decode cX7_steps 11 = .ok (.invokestatic 138, 3) := by decide +kernel
theorem dX7_steps_14 : decode cX7_steps 14 = .ok (.ladd, 1) := by decide +kernel
theorem dX7_steps_15 : decode cX7_steps 15 = .ok (.lreturn, 1) := by decide +kernel
theorem dX7_noise_0 : decode cX7_noise 0 = .ok (.ldc2_w 144, 3) := by decide +kernel
theorem dX7_noise_3 : decode cX7_noise 3 = .ok (.aload_n 0, 1) := by decide +kernel
theorem dX7_noise_4 : decode cX7_noise 4 = .ok (.getfield 7, 3) := by decide +kernel
theorem dX7_noise_7 : decode cX7_noise 7 = .ok (.sipush 640, 3) := by decide +kernel
theorem dX7_noise_10 : decode cX7_noise 10 = .ok (.laload, 1) := by decide +kernel
theorem dX7_noise_11 : decode cX7_noise 11 = .ok (.lmul, 1) := by decide +kernel
theorem dX7_noise_12 : decode cX7_noise 12 = .ok (.ldc2_w 146, 3) := by decide +kernel
theorem dX7_noise_15 : decode cX7_noise 15 = .ok (.aload_n 0, 1) := by decide +kernel
theorem dX7_noise_16 : decode cX7_noise 16 = .ok (.getfield 7, 3) := by decide +kernel
theorem dX7_noise_19 : decode cX7_noise 19 = .ok (.sipush 643, 3) := by decide +kernel
theorem dX7_noise_22 : decode cX7_noise 22 = .ok (.laload, 1) := by decide +kernel
theorem dX7_noise_23 : decode cX7_noise 23 = .ok (.lmul, 1) := by decide +kernel
theorem dX7_noise_24 : decode cX7_noise 24 = .ok (.ladd, 1) := by decide +kernel
theorem dX7_noise_25 : decode cX7_noise 25 = .ok (.lconst 1, 1) := by decide +kernel
theorem dX7_noise_26 : decode cX7_noise 26 = .ok (.ladd, 1) := by decide +kernel
theorem dX7_noise_27 : decode cX7_noise 27 = .ok (.lstore_n 1, 1) := by decide +kernel
theorem dX7_noise_28 : decode cX7_noise 28 = .ok (.lload_n 1, 1) := by decide +kernel
theorem dX7_noise_29 : decode cX7_noise 29 = .ok (.lload_n 1, 1) := by decide +kernel

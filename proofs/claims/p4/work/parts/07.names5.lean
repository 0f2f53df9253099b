theorem dX4_once_0 : decode cX4_once 0 = .ok (.aload_n 0, 1) := by decide +kernel
theorem dX4_once_1 : decode cX4_once 1 = .ok (.invokevirtual 200, 3) := by decide +kernel
theorem dX4_once_4 : decode cX4_once 4 = .ok (.iconst 0, 1) := by decide +kernel
theorem dX4_once_5 : decode cX4_once 5 = .ok (.istore_n 1, 1) := by decide +kernel
theorem dX4_once_6 : decode cX4_once 6 = .ok (.iload_n 1, 1) := by decide +kernel
theorem dX4_once_7 : decode cX4_once 7 = .ok (.aload_n 0, 1) := by decide +kernel
theorem dX4_once_8 : decode cX4_once 8 = .ok (.getfield 93, 3) := by decide +kernel
theorem dX4_once_11 : decode cX4_once 11 = .ok (.if_icmp .ge 31, 3) := by decide +kernel
theorem dX4_once_14 : decode cX4_once 14 = .ok (.aload_n 0, 1) := by decide +kernel
theorem dX4_once_15 : decode cX4_once 15 = .ok (.iload_n 1, 1) := by decide +kernel
theorem dX4_once_16 : decode cX4_once 16 = .ok (.invokevirtual 192, 3) := by decide +kernel
theorem dX4_once_19 : decode cX4_once 19 = .ok (.ifCond .eq 17, 3) := by decide +kernel
theorem dX4_once_22 : decode cX4_once 22 = .ok (.aload_n 0, 1) := by decide +kernel
theorem dX4_once_23 : decode cX4_once 23 = .ok (.getfield 13, 3) := by decide +kernel
theorem dX4_once_26 : decode cX4_once 26 = .ok (.iload_n 1, 1) := by decide +kernel
theorem dX4_once_27 : decode cX4_once 27 = .ok (.baload, 1) := by decide +kernel
theorem dX4_once_28 : decode cX4_once 28 = .ok (.ifCond .eq 8, 3) := by decide +kernel
theorem dX4_once_31 : decode cX4_once 31 = .ok (.aload_n 0, 1) := by decide +kernel
theorem dX4_once_32 : decode cX4_once 32 = .ok (.iload_n 1, 1) := by decide +kernel
theorem dX4_once_33 : decode cX4_once 33 = .ok (.invokevirtual 111, 3) := by decide +kernel
theorem dX4_once_36 : decode cX4_once 36 = .ok (.iinc 1 1, 3) := by decide +kernel
theorem dX4_once_39 : decode cX4_once 39 = .ok (.goto (-33), 3) := by decide +kernel
theorem dX4_once_42 : decode cX4_once 42 = .ok (.iconst 0, 1) := by decide +kernel
theorem dX4_once_43 : decode cX4_once 43 = .ok (.istore_n 1, 1) := by decide +kernel
theorem dX4_once_44 : decode cX4_once 44 = .ok (.iload_n 1, 1) := by decide +kernel
theorem dX4_once_45 : decode cX4_once 45 = .ok (.aload_n 0, 1) := by decide +kernel
theorem dX4_once_46 : decode cX4_once 46 = .ok (.getfield 129, 3) := by decide +kernel
theorem dX4_once_49 : decode cX4_once 49 = .ok (.if_icmp .ge 20, 3) := by decide +kernel
theorem dX4_once_52 : decode cX4_once 52 = .ok (.aload_n 0, 1) := by decide +kernel
theorem dX4_once_53 : decode cX4_once 53 = .ok (.getfield 57, 3) := by decide +kernel
theorem dX4_once_56 : decode cX4_once 56 = .ok (.iload_n 1, 1) := by decide +kernel
theorem dX4_once_57 : decode cX4_once 57 = .ok (.aload_n 0, 1) := by decide +kernel
theorem dX4_once_58 : decode cX4_once 58 = .ok (.iload_n 1, 1) := by decide +kernel
theorem dX4_once_59 : decode cX4_once 59 = .ok (.invokevirtual 203, 3) := by decide +kernel
theorem dX4_once_62 : decode cX4_once 62 = .ok (.fastore, 1) := by decide +kernel
theorem dX4_once_63 : decode cX4_once 63 = .ok (.iinc 1 1, 3) := by decide +kernel
theorem dX4_once_66 : decode cX4_once 66 = .ok (.goto (-22), 3) := by decide +kernel
theorem dX4_once_69 : decode cX4_once 69 = .ok (.iconst 0, 1) := by decide +kernel
theorem dX4_once_70 : decode cX4_once 70 = .ok (.istore_n 1, 1) := by decide +kernel
theorem dX4_once_71 : decode cX4_once 71 = .ok (.iload_n 1, 1) := by decide +kernel
theorem dX4_once_72 : decode cX4_once 72 = .ok (.aload_n 0, 1) := by decide +kernel
theorem dX4_once_73 : decode cX4_once 73 = .ok (.getfield 129, 3) := by decide +kernel
theorem dX4_once_76 : decode cX4_once 76 = .ok (.if_icmp .ge 82, 3) := by decide +kernel
theorem dX4_once_79 : decode cX4_once 79 = .ok (.aload_n 0, 1) := by decide +kernel
theorem dX4_once_80 : decode cX4_once 80 = .ok (.iload_n 1, 1) := by decide +kernel
theorem dX4_once_81 : decode cX4_once 81 = .ok (.invokevirtual 206, 3) := by decide +kernel
theorem dX4_once_84 : decode cX4_once 84 = .ok (.ifCond .eq 68, 3) := by decide +kernel
theorem dX4_once_87 : decode cX4_once 87 = .ok (.aload_n 0, 1) := by decide +kernel
theorem dX4_once_88 : decode cX4_once 88 = .ok (.getfield 54, 3) := by decide +kernel
theorem dX4_once_91 : decode cX4_once 91 = .ok (.iload_n 1, 1) := by decide +kernel
theorem dX4_once_92 : decode cX4_once 92 = .ok (.aload_n 0, 1) := by decide +kernel
theorem dX4_once_93 : decode cX4_once 93 = .ok (.iload_n 1, 1) := by decide +kernel
theorem dX4_once_94 : decode cX4_once 94 = .ok (.aload_n 0, 1) := by decide +kernel
theorem dX4_once_95 : decode cX4_once 95 = .ok (.getfield 57, 3) := by decide +kernel
theorem dX4_once_98 : decode cX4_once 98 = .ok (.iload_n 1, 1) := by decide +kernel
theorem dX4_once_99 : decode cX4_once 99 = .ok (.faload, 1) := by decide +kernel
theorem dX4_once_100 : decode cX4_once 100 = .ok (.invokevirtual 209, 3) := by decide +kernel
theorem dX4_once_103 : decode cX4_once 103 = .ok (.ifCond .eq 7, 3) := by decide +kernel
theorem dX4_once_106 : decode cX4_once 106 = .ok (.fconst 0, 1) := by decide +kernel
theorem dX4_once_107 : decode cX4_once 107 = .ok (.goto 19, 3) := by decide +kernel
theorem dX4_once_110 : decode cX4_once 110 = .ok (.aload_n 0, 1) := by decide +kernel
theorem dX4_once_111 : decode cX4_once 111 = .ok (.iload_n 1, 1) := by decide +kernel
theorem dX4_once_112 : decode cX4_once 112 = .ok (.aload_n 0, 1) := by decide +kernel
theorem dX4_once_113 : decode cX4_once 113 = .ok (.getfield 54, 3) := by decide +kernel
theorem dX4_once_116 : decode cX4_once 116 = .ok (.iload_n 1, 1) := by decide +kernel
theorem dX4_once_117 : decode cX4_once 117 = .ok (.faload, 1) := by decide +kernel
theorem dX4_once_118 : decode cX4_once 118 = .ok (.aload_n 0, 1) := by decide +kernel
theorem dX4_once_119 : decode cX4_once 119 = .ok (.getfield 70, 3) := by decide +kernel
theorem dX4_once_122 : decode cX4_once 122 = .ok (.fmul, 1) := by decide +kernel
theorem dX4_once_123 : decode cX4_once 123 = .ok (.invokevirtual 136, 3) := by decide +kernel
theorem dX4_once_126 : decode cX4_once 126 = .ok (.fastore, 1) := by decide +kernel
theorem dX4_once_127 : decode cX4_once 127 = .ok (.aload_n 0, 1) := by decide +kernel
theorem dX4_once_128 : decode cX4_once 128 = .ok (.iload_n 1, 1) := by decide +kernel
theorem dX4_once_129 : decode cX4_once 129 = .ok (.aload_n 0, 1) := by decide +kernel
theorem dX4_once_130 : decode cX4_once 130 = .ok (.getfield 57, 3) := by decide +kernel
theorem dX4_once_133 : decode cX4_once 133 = .ok (.iload_n 1, 1) := by decide +kernel
theorem dX4_once_134 : decode cX4_once 134 = .ok (.faload, 1) := by decide +kernel
theorem dX4_once_135 : decode cX4_once 135 = .ok (.invokevirtual 209, 3) := by decide +kernel
theorem dX4_once_138 : decode cX4_once 138 = .ok (.ifCond .ne 14, 3) := by decide +kernel
theorem dX4_once_141 : decode cX4_once 141 = .ok (.aload_n 0, 1) := by decide +kernel
theorem dX4_once_142 : decode cX4_once 142 = .ok (.iload_n 1, 1) := by decide +kernel
theorem dX4_once_143 : decode cX4_once 143 = .ok (.aload_n 0, 1) := by decide +kernel
theorem dX4_once_144 : decode cX4_once 144 = .ok (.getfield 54, 3) := by decide +kernel
theorem dX4_once_147 : decode cX4_once 147 = .ok (.iload_n 1, 1) := by decide +kernel
theorem dX4_once_148 : decode cX4_once 148 = .ok (.faload, 1) := by decide +kernel
theorem dX4_once_149 : decode cX4_once 149 = .ok (.invokevirtual 185, 3) := by decide +kernel
theorem dX4_once_152 : decode cX4_once 152 = .ok (.iinc 1 1, 3) := by decide +kernel
theorem dX4_once_155 : decode cX4_once 155 = .ok (.goto (-84), 3) := by decide +kernel
theorem dX4_once_158 : decode cX4_once 158 = .ok (.iconst 0, 1) := by decide +kernel
theorem dX4_once_159 : decode cX4_once 159 = .ok (.istore_n 1, 1) := by decide +kernel
theorem dX4_once_160 : decode cX4_once 160 = .ok (.iload_n 1, 1) := by decide +kernel
theorem dX4_once_161 : decode cX4_once 161 = .ok (.aload_n 0, 1) := by decide +kernel
theorem dX4_once_162 : decode cX4_once 162 = .ok (.getfield 66, 3) := by decide +kernel
theorem dX4_once_165 : decode cX4_once 165 = .ok (.if_icmp .ge 52, 3) := by decide +kernel
theorem dX4_once_168 : decode cX4_once 168 = .ok (.iconst 0, 1) := by decide +kernel
theorem dX4_once_169 : decode cX4_once 169 = .ok (.istore_n 2, 1) := by decide +kernel
theorem dX4_once_170 : decode cX4_once 170 = .ok (.iload_n 2, 1) := by decide +kernel
theorem dX4_once_171 : decode cX4_once 171 = .ok (.aload_n 0, 1) := by decide +kernel
theorem dX4_once_172 : decode cX4_once 172 = .ok (.getfield 129, 3) := by decide +kernel
theorem dX4_once_175 : decode cX4_once 175 = .ok (.if_icmp .ge 36, 3) := by decide +kernel
theorem dX4_once_178 : decode cX4_once 178 = .ok (.aload_n 0, 1) := by decide +kernel
theorem dX4_once_179 : decode cX4_once 179 = .ok (.iload_n 2, 1) := by decide +kernel
theorem dX4_once_180 : decode cX4_once 180 = .ok (.invokevirtual 206, 3) := by decide +kernel
theorem dX4_once_183 : decode cX4_once 183 = .ok (.ifCond .eq 22, 3) := by decide +kernel
theorem dX4_once_186 : decode cX4_once 186 = .ok (.aload_n 0, 1) := by decide +kernel
theorem dX4_once_187 : decode cX4_once 187 = .ok (.iload_n 2, 1) := by decide +kernel
theorem dX4_once_188 : decode cX4_once 188 = .ok (.aload_n 0, 1) := by decide +kernel
theorem dX4_once_189 : decode cX4_once 189 = .ok (.getfield 57, 3) := by decide +kernel
theorem dX4_once_192 : decode cX4_once 192 = .ok (.iload_n 2, 1) := by decide +kernel
theorem dX4_once_193 : decode cX4_once 193 = .ok (.faload, 1) := by decide +kernel
theorem dX4_once_194 : decode cX4_once 194 = .ok (.invokevirtual 209, 3) := by decide +kernel
theorem dX4_once_197 : decode cX4_once 197 = .ok (.ifCond .ne 8, 3) := by decide +kernel
theorem dX4_once_200 : decode cX4_once 200 = .ok (.aload_n 0, 1) := by decide +kernel
theorem dX4_once_201 : decode cX4_once 201 = .ok (.iload_n 2, 1) := by decide +kernel
theorem dX4_once_202 : decode cX4_once 202 = .ok (.invokevirtual 213, 3) := by decide +kernel
theorem dX4_once_205 : decode cX4_once 205 = .ok (.iinc 2 1, 3) := by decide +kernel
theorem dX4_once_208 : decode cX4_once 208 = .ok (.goto (-38), 3) := by decide +kernel
theorem dX4_once_211 : decode cX4_once 211 = .ok (.iinc 1 1, 3) := by decide +kernel
theorem dX4_once_214 : decode cX4_once 214 = .ok (.goto (-54), 3) := by decide +kernel
theorem dX4_once_217 : decode cX4_once 217 = .ok (.aload_n 0, 1) := by decide +kernel
theorem dX4_once_218 : decode cX4_once 218 = .ok (.invokevirtual 216, 3) := by decide +kernel
theorem dX4_once_221 : decode cX4_once 221 = .ok (.aload_n 0, 1) := by decide +kernel
theorem dX4_once_222 : decode cX4_once 222 = .ok (.dup, 1) := by decide +kernel
theorem dX4_once_223 : decode cX4_once 223 = .ok (.getfield 219, 3) := by decide +kernel
theorem dX4_once_226 : decode cX4_once 226 = .ok (.iconst 1, 1) := by decide +kernel
theorem dX4_once_227 : decode cX4_once 227 = .ok (.iadd, 1) := by decide +kernel
theorem dX4_once_228 : decode cX4_once 228 = .ok (.putfield 219, 3) := by decide +kernel
theorem dX4_once_231 : decode cX4_once 231 = .ok (.return_, 1) := by decide +kernel
set_option maxRecDepth 20000 in
theorem ggX4_sleeping_X4_findIslands : GoodIn wsX4_sleeping wsX4_findIslands := goodIn_r _ [7, 8, 9, 10, 11, 12, 1, 13, 2, 14, 15, 16, 17, 6, 18, 19, 20, 21, 22, 23, 24, 25, 26, 27, 28, 29, 30, 31, 32, 33, 34, 35, 36, 37, 38, 39, 40, 41, 42, 43, 44, 45, 46, 47, 48, 49, 50, 51, 52, 53, 54] rfl (by decide +kernel)
set_option maxRecDepth 20000 in
theorem gX4_sleeping_X4_findIslands : GoodIn wsX4_sleeping (wsV RX4 200 RX4 yX4_findIslands wsX4_findIslands) := goodIn_app (goodIn_of _ (by decide +kernel)) ggX4_sleeping_X4_findIslands
theorem dX4_sleeping_0 : decode cX4_sleeping 0 = .ok (.aload_n 0, 1) := by decide +kernel
theorem dX4_sleeping_1 : decode cX4_sleeping 1 = .ok (.invokevirtual 200, 3) := by decide +kernel
theorem dX4_sleeping_4 : decode cX4_sleeping 4 = .ok (.iconst 0, 1) := by decide +kernel
theorem dX4_sleeping_5 : decode cX4_sleeping 5 = .ok (.istore_n 1, 1) := by decide +kernel
theorem dX4_sleeping_6 : decode cX4_sleeping 6 = .ok (.iconst 0, 1) := by decide +kernel
theorem dX4_sleeping_7 : decode cX4_sleeping 7 = .ok (.istore_n 2, 1) := by decide +kernel
theorem dX4_sleeping_8 : decode cX4_sleeping 8 = .ok (.iload_n 2, 1) := by decide +kernel
theorem dX4_sleeping_9 : decode cX4_sleeping 9 = .ok (.aload_n 0, 1) := by decide +kernel
theorem dX4_sleeping_10 : decode cX4_sleeping 10 = .ok (.getfield 189, 3) := by decide +kernel
theorem dX4_sleeping_13 : decode cX4_sleeping 13 = .ok (.if_icmp .ge 26, 3) := by decide +kernel
theorem dX4_sleeping_16 : decode cX4_sleeping 16 = .ok (.aload_n 0, 1) := by decide +kernel
theorem dX4_sleeping_17 : decode cX4_sleeping 17 = .ok (.getfield 87, 3) := by decide +kernel
theorem dX4_sleeping_20 : decode cX4_sleeping 20 = .ok (.iload_n 2, 1) := by decide +kernel
theorem dX4_sleeping_21 : decode cX4_sleeping 21 = .ok (.baload, 1) := by decide +kernel
theorem dX4_sleeping_22 : decode cX4_sleeping 22 = .ok (.ifCond .eq 7, 3) := by decide +kernel
theorem dX4_sleeping_25 : decode cX4_sleeping 25 = .ok (.iload_n 1, 1) := by decide +kernel
theorem dX4_sleeping_26 : decode cX4_sleeping 26 = .ok (.goto 6, 3) := by decide +kernel
theorem dX4_sleeping_29 : decode cX4_sleeping 29 = .ok (.iload_n 1, 1) := by decide +kernel
theorem dX4_sleeping_30 : decode cX4_sleeping 30 = .ok (.iconst 1, 1) := by decide +kernel
theorem dX4_sleeping_31 : decode cX4_sleeping 31 = .ok (.iadd, 1) := by decide +kernel
theorem dX4_sleeping_32 : decode cX4_sleeping 32 = .ok (.istore_n 1, 1) := by decide +kernel
theorem dX4_sleeping_33 : decode cX4_sleeping 33 = .ok (.iinc 2 1, 3) := by decide +kernel
theorem dX4_sleeping_36 : decode cX4_sleeping 36 = .ok (.goto (-28), 3) := by decide +kernel
theorem dX4_sleeping_39 : decode cX4_sleeping 39 = .ok (.iload_n 1, 1) := by decide +kernel
theorem dX4_sleeping_40 : decode cX4_sleeping 40 = .ok (.ireturn, 1) := by decide +kernel
set_option maxRecDepth 20000 in
theorem ggX4_step_X4_goes : GoodIn wsX4_step wsX4_goes := goodIn_r _ [6, 7, 121, 122, 123, 124, 125, 126, 127, 128, 129, 130, 131, 132, 133, 134, 135, 136, 137, 138, 139, 140, 141, 142, 143, 144, 145, 146, 147, 148, 149, 150, 151, 152, 153, 154, 155] rfl (by decide +kernel)
set_option maxRecDepth 20000 in
theorem gX4_step_X4_goes : GoodIn wsX4_step (wsV RX4 101 RX4 yX4_goes wsX4_goes) := goodIn_app (goodIn_of _ (by decide +kernel)) ggX4_step_X4_goes
set_option maxRecDepth 20000 in
theorem ggX4_step_X4_once : GoodIn wsX4_step wsX4_once := goodIn_r _ [11, 12, 13, 14, 15, 16, 17, 18, 19, 20, 21, 22, 5, 23, 24, 25, 26, 1, 27, 28, 29, 30, 31, 32, 33, 34, 35, 36, 37, 38, 39, 40, 41, 42, 43, 44, 45, 46, 47, 48, 49, 50, 51, 52, 53, 54, 55, 56, 57, 58, 59, 60, 61, 62, 63, 64, 65, 66, 67, 68, 69, 70, 71, 72, 73, 74, 75, 76, 77, 78, 79, 80, 81, 82, 83, 84, 85, 86, 87, 88, 89, 90, 91, 92, 93, 94, 95, 96, 97, 98, 99, 100, 101, 102, 103, 104, 105, 106, 107, 108, 109, 110, 111, 112, 113, 114, 115, 116, 121, 122, 123, 124, 125, 126, 127, 128, 129, 130, 131, 132, 133, 134, 135, 136, 137, 138, 139, 140, 141, 142, 143, 144, 145, 146, 147, 148, 149, 150, 151, 152, 153, 154, 155] rfl (by decide +kernel)
set_option maxRecDepth 20000 in
theorem gX4_step_X4_once : GoodIn wsX4_step (wsV RX4 222 RX4 yX4_once wsX4_once) := goodIn_app (goodIn_of _ (by decide +kernel)) ggX4_step_X4_once
set_option maxRecDepth 20000 in
theorem ggX4_step_X4_sleeping : GoodIn wsX4_step wsX4_sleeping := goodIn_r _ [120, 1, 28, 20, 21, 22, 5, 23, 12, 24, 14, 25, 26, 27, 13, 29, 30, 31, 32, 33, 121, 122, 123, 124, 125, 126, 127, 128, 129, 130, 131, 132, 133, 134, 135, 136, 137, 138, 139, 140, 141, 142, 143, 144, 145, 146, 147, 148, 149, 150, 151, 152, 153, 154, 155] rfl (by decide +kernel)
set_option maxRecDepth 20000 in
theorem gX4_step_X4_sleeping : GoodIn wsX4_step (wsV RX4 225 RX4 yX4_sleeping wsX4_sleeping) := goodIn_app (goodIn_of _ (by decide +kernel)) ggX4_step_X4_sleeping
theorem dX4_step_0 : decode cX4_step 0 = .ok (.aload_n 0, 1) := by decide +kernel
theorem dX4_step_1 : decode cX4_step 1 = .ok (.iload_n 1, 1) := by decide +kernel
theorem dX4_step_2 : decode cX4_step 2 = .ok (.iconst 1, 1) := by decide +kernel
theorem dX4_step_3 : decode cX4_step 3 = .ok (.if_icmp .lt 13, 3) := by decide +kernel
theorem dX4_step_6 : decode cX4_step 6 = .ok (.iload_n 1, 1) := by decide +kernel
theorem dX4_step_7 : decode cX4_step 7 = .ok (.bipush 20, 2) := by decide +kernel
theorem dX4_step_9 : decode cX4_step 9 = .ok (.if_icmp .gt 7, 3) := by decide +kernel
theorem dX4_step_12 : decode cX4_step 12 = .ok (.iconst 1, 1) := by decide +kernel
theorem dX4_step_13 : decode cX4_step 13 = .ok (.goto 4, 3) := by decide +kernel
theorem dX4_step_16 : decode cX4_step 16 = .ok (.iconst 0, 1) := by decide +kernel
theorem dX4_step_17 : decode cX4_step 17 = .ok (.iconst 1, 1) := by decide +kernel
theorem dX4_step_18 : decode cX4_step 18 = .ok (.iconst 1, 1) := by decide +kernel
theorem dX4_step_19 : decode cX4_step 19 = .ok (.invokevirtual 101, 3) := by decide +kernel
theorem dX4_step_22 : decode cX4_step 22 = .ok (.ifCond .ne 5, 3) := by decide +kernel
theorem dX4_step_25 : decode cX4_step 25 = .ok (.iconst 0, 1) := by decide +kernel
theorem dX4_step_26 : decode cX4_step 26 = .ok (.ireturn, 1) := by decide +kernel
theorem dX4_step_27 : decode cX4_step 27 = .ok (.iconst 0, 1) := by decide +kernel
theorem dX4_step_28 : decode cX4_step 28 = .ok (.istore_n 2, 1) := by decide +kernel
theorem dX4_step_29 : decode cX4_step 29 = .ok (.iload_n 2, 1) := by decide +kernel
theorem dX4_step_30 : decode cX4_step 30 = .ok (.iload_n 1, 1) := by decide +kernel
theorem dX4_step_31 : decode cX4_step 31 = .ok (.if_icmp .ge 13, 3) := by decide +kernel
theorem dX4_step_34 : decode cX4_step 34 = .ok (.aload_n 0, 1) := by decide +kernel
theorem dX4_step_35 : decode cX4_step 35 = .ok (.invokevirtual 222, 3) := by decide +kernel
theorem dX4_step_38 : decode cX4_step 38 = .ok (.iinc 2 1, 3) := by decide +kernel
theorem dX4_step_41 : decode cX4_step 41 = .ok (.goto (-12), 3) := by decide +kernel
theorem dX4_step_44 : decode cX4_step 44 = .ok (.aload_n 0, 1) := by decide +kernel
theorem dX4_step_45 : decode cX4_step 45 = .ok (.invokevirtual 225, 3) := by decide +kernel
theorem dX4_step_48 : decode cX4_step 48 = .ok (.istore_n 2, 1) := by decide +kernel
theorem dX4_step_49 : decode cX4_step 49 = .ok (.aload_n 0, 1) := by decide +kernel
theorem dX4_step_50 : decode cX4_step 50 = .ok (.getfield 189, 3) := by decide +kernel
theorem dX4_step_53 : decode cX4_step 53 = .ok (.iload_n 2, 1) := by decide +kernel
theorem dX4_step_54 : decode cX4_step 54 = .ok (.isub, 1) := by decide +kernel
theorem dX4_step_55 : decode cX4_step 55 = .ok (.ireturn, 1) := by decide +kernel
set_option maxRecDepth 20000 in
theorem ggX4_of_X4_known : GoodIn wsX4_of wsX4_known := goodIn_r _ [6, 7, 13, 14, 15, 16, 17, 18, 19, 20, 21, 22, 23, 24, 25, 26, 27, 28, 29, 30, 31, 32, 33, 34, 35, 36, 37, 38, 39, 40, 41, 42, 43, 44, 45, 46, 47] rfl (by decide +kernel)
set_option maxRecDepth 20000 in
theorem gX4_of_X4_known : GoodIn wsX4_of (wsV RX4 105 RX4 yX4_known wsX4_known) := goodIn_app (goodIn_of _ (by decide +kernel)) ggX4_of_X4_known
set_option maxRecDepth 20000 in
theorem ggX4_of_X4_goes : GoodIn wsX4_of wsX4_goes := goodIn_r _ [11, 12, 13, 14, 15, 16, 17, 18, 19, 20, 21, 22, 23, 24, 25, 26, 27, 28, 29, 30, 31, 32, 33, 34, 35, 36, 37, 38, 39, 40, 41, 42, 43, 44, 45, 46, 47] rfl (by decide +kernel)
set_option maxRecDepth 20000 in
theorem gX4_of_X4_goes : GoodIn wsX4_of (wsV RX4 101 RX4 yX4_goes wsX4_goes) := goodIn_app (goodIn_of _ (by decide +kernel)) ggX4_of_X4_goes
theorem dX4_of_0 : decode cX4_of 0 = .ok (.aload_n 0, 1) := by decide +kernel
theorem dX4_of_1 : decode cX4_of 1 = .ok (.aload_n 0, 1) := by decide +kernel
theorem dX4_of_2 : decode cX4_of 2 = .ok (.iload_n 1, 1) := by decide +kernel
theorem dX4_of_3 : decode cX4_of 3 = .ok (.invokevirtual 105, 3) := by decide +kernel
theorem dX4_of_6 : decode cX4_of 6 = .ok (.ifCond .eq 17, 3) := by decide +kernel
theorem dX4_of_9 : decode cX4_of 9 = .ok (.iload_n 2, 1) := by decide +kernel
theorem dX4_of_10 : decode cX4_of 10 = .ok (.ifCond .lt 13, 3) := by decide +kernel
theorem dX4_of_13 : decode cX4_of 13 = .ok (.iload_n 2, 1) := by decide +kernel
theorem dX4_of_14 : decode cX4_of 14 = .ok (.bipush 12, 2) := by decide +kernel
theorem dX4_of_16 : decode cX4_of 16 = .ok (.if_icmp .gt 7, 3) := by decide +kernel
theorem dX4_of_19 : decode cX4_of 19 = .ok (.iconst 1, 1) := by decide +kernel
theorem dX4_of_20 : decode cX4_of 20 = .ok (.goto 4, 3) := by decide +kernel
theorem dX4_of_23 : decode cX4_of 23 = .ok (.iconst 0, 1) := by decide +kernel
theorem dX4_of_24 : decode cX4_of 24 = .ok (.iconst 1, 1) := by decide +kernel
theorem dX4_of_25 : decode cX4_of 25 = .ok (.iconst 1, 1) := by decide +kernel
theorem dX4_of_26 : decode cX4_of 26 = .ok (.invokevirtual 101, 3) := by decide +kernel
theorem dX4_of_29 : decode cX4_of 29 = .ok (.ifCond .eq 17, 3) := by decide +kernel
theorem dX4_of_32 : decode cX4_of 32 = .ok (.aload_n 0, 1) := by decide +kernel
theorem dX4_of_33 : decode cX4_of 33 = .ok (.getfield 7, 3) := by decide +kernel
theorem dX4_of_36 : decode cX4_of 36 = .ok (.bipush 13, 2) := by decide +kernel
theorem dX4_of_38 : decode cX4_of 38 = .ok (.iload_n 1, 1) := by decide +kernel
theorem dX4_of_39 : decode cX4_of 39 = .ok (.imul, 1) := by decide +kernel
theorem dX4_of_40 : decode cX4_of 40 = .ok (.iload_n 2, 1) := by decide +kernel
theorem dX4_of_41 : decode cX4_of 41 = .ok (.iadd, 1) := by decide +kernel
theorem dX4_of_42 : decode cX4_of 42 = .ok (.faload, 1) := by decide +kernel
theorem dX4_of_43 : decode cX4_of 43 = .ok (.goto 4, 3) := by decide +kernel
theorem dX4_of_46 : decode cX4_of 46 = .ok (.fconst 0, 1) := by decide +kernel
theorem dX4_of_47 : decode cX4_of 47 = .ok (.freturn, 1) := by decide +kernel
theorem dX4_rowsOf_0 : decode cX4_rowsOf 0 = .ok (.iconst 0, 1) := by decide +kernel
theorem dX4_rowsOf_1 : decode cX4_rowsOf 1 = .ok (.istore_n 2, 1) := by decide +kernel
theorem dX4_rowsOf_2 : decode cX4_rowsOf 2 = .ok (.iconst 0, 1) := by decide +kernel
theorem dX4_rowsOf_3 : decode cX4_rowsOf 3 = .ok (.istore_n 3, 1) := by decide +kernel
theorem dX4_rowsOf_4 : decode cX4_rowsOf 4 = .ok (.iload_n 3, 1) := by decide +kernel
theorem dX4_rowsOf_5 : decode cX4_rowsOf 5 = .ok (.aload_n 0, 1) := by decide +kernel
theorem dX4_rowsOf_6 : decode cX4_rowsOf 6 = .ok (.getfield 129, 3) := by decide +kernel
theorem dX4_rowsOf_9 : decode cX4_rowsOf 9 = .ok (.if_icmp .ge 37, 3) := by decide +kernel
theorem dX4_rowsOf_12 : decode cX4_rowsOf 12 = .ok (.aload_n 0, 1) := by decide +kernel
theorem dX4_rowsOf_13 : decode cX4_rowsOf 13 = .ok (.getfield 24, 3) := by decide +kernel
theorem dX4_rowsOf_16 : decode cX4_rowsOf 16 = .ok (.iload_n 3, 1) := by decide +kernel
theorem dX4_rowsOf_17 : decode cX4_rowsOf 17 = .ok (.iaload, 1) := by decide +kernel
theorem dX4_rowsOf_18 : decode cX4_rowsOf 18 = .ok (.iload_n 1, 1) := by decide +kernel
theorem dX4_rowsOf_19 : decode cX4_rowsOf 19 = .ok (.if_icmp .eq 13, 3) := by decide +kernel
theorem dX4_rowsOf_22 : decode cX4_rowsOf 22 = .ok (.aload_n 0, 1) := by decide +kernel
theorem dX4_rowsOf_23 : decode cX4_rowsOf 23 = .ok (.getfield 27, 3) := by decide +kernel
theorem dX4_rowsOf_26 : decode cX4_rowsOf 26 = .ok (.iload_n 3, 1) := by decide +kernel
theorem dX4_rowsOf_27 : decode cX4_rowsOf 27 = .ok (.iaload, 1) := by decide +kernel
theorem dX4_rowsOf_28 : decode cX4_rowsOf 28 = .ok (.iload_n 1, 1) := by decide +kernel
theorem dX4_rowsOf_29 : decode cX4_rowsOf 29 = .ok (.if_icmp .ne 9, 3) := by decide +kernel
theorem dX4_rowsOf_32 : decode cX4_rowsOf 32 = .ok (.iload_n 2, 1) := by decide +kernel
theorem dX4_rowsOf_33 : decode cX4_rowsOf 33 = .ok (.iconst 1, 1) := by decide +kernel
theorem dX4_rowsOf_34 : decode cX4_rowsOf 34 = .ok (.iadd, 1) := by decide +kernel
theorem dX4_rowsOf_35 : decode cX4_rowsOf 35 = .ok (.goto 4, 3) := by decide +kernel
theorem dX4_rowsOf_38 : decode cX4_rowsOf 38 = .ok (.iload_n 2, 1) := by decide +kernel
theorem dX4_rowsOf_39 : decode cX4_rowsOf 39 = .ok (.istore_n 2, 1) := by decide +kernel
theorem dX4_rowsOf_40 : decode cX4_rowsOf 40 = .ok (.iinc 3 1, 3) := by decide +kernel
theorem dX4_rowsOf_43 : decode cX4_rowsOf 43 = .ok (.goto (-39), 3) := by decide +kernel
theorem dX4_rowsOf_46 : decode cX4_rowsOf 46 = .ok (.iload_n 2, 1) := by decide +kernel
theorem dX4_rowsOf_47 : decode cX4_rowsOf 47 = .ok (.ireturn, 1) := by decide +kernel
set_option maxRecDepth 20000 in
theorem ggX4_about_X4_known : GoodIn wsX4_about wsX4_known := goodIn_r _ [8, 9, 34, 35, 36, 37, 38, 39, 40, 41, 42, 43, 44, 45, 46, 47, 48, 49, 50, 51, 52, 53, 54, 55, 56, 57, 58, 59, 60, 61, 62, 63, 64, 65, 66, 67, 68] rfl (by decide +kernel)
set_option maxRecDepth 20000 in
theorem gX4_about_X4_known : GoodIn wsX4_about (wsV RX4 105 RX4 yX4_known wsX4_known) := goodIn_app (goodIn_of _ (by decide +kernel)) ggX4_about_X4_known
set_option maxRecDepth 20000 in
theorem ggX4_about_X4_goes : GoodIn wsX4_about wsX4_goes := goodIn_r _ [13, 14, 34, 35, 36, 37, 38, 39, 40, 41, 42, 43, 44, 45, 46, 47, 48, 49, 50, 51, 52, 53, 54, 55, 56, 57, 58, 59, 60, 61, 62, 63, 64, 65, 66, 67, 68] rfl (by decide +kernel)
set_option maxRecDepth 20000 in
theorem gX4_about_X4_goes : GoodIn wsX4_about (wsV RX4 101 RX4 yX4_goes wsX4_goes) := goodIn_app (goodIn_of _ (by decide +kernel)) ggX4_about_X4_goes
set_option maxRecDepth 20000 in
theorem ggX4_about_X4_findIslands : GoodIn wsX4_about wsX4_findIslands := goodIn_r _ [18, 9, 19, 20, 21, 22, 23, 1, 24, 2, 25, 26, 27, 7, 28, 29, 34, 35, 36, 37, 38, 39, 40, 41, 42, 43, 44, 45, 46, 47, 48, 49, 50, 51, 52, 53, 54, 55, 56, 57, 58, 59, 60, 61, 62, 63, 64, 65, 66, 67, 68] rfl (by decide +kernel)
set_option maxRecDepth 20000 in
theorem gX4_about_X4_findIslands : GoodIn wsX4_about (wsV RX4 200 RX4 yX4_findIslands wsX4_findIslands) := goodIn_app (goodIn_of _ (by decide +kernel)) ggX4_about_X4_findIslands
set_option maxRecDepth 20000 in
theorem ggX4_about_X4_rowsOf : GoodIn wsX4_about wsX4_rowsOf := goodIn_r _ [33, 20, 21, 22, 34, 35, 36, 37, 38, 39, 40, 41, 42, 43, 44, 45, 46, 47, 48, 49, 50, 51, 52, 53, 54, 55, 56, 57, 58, 59, 60, 61, 62, 63, 64, 65, 66, 67, 68] rfl (by decide +kernel)
set_option maxRecDepth 20000 in
theorem gX4_about_X4_rowsOf : GoodIn wsX4_about (wsV RX4 229 RX4 yX4_rowsOf wsX4_rowsOf) := goodIn_app (goodIn_of _ (by decide +kernel)) ggX4_about_X4_rowsOf
theorem dX4_about_0 : decode cX4_about 0 = .ok (.aload_n 0, 1) := by decide +kernel
theorem dX4_about_1 : decode cX4_about 1 = .ok (.aload_n 0, 1) := by decide +kernel
theorem dX4_about_2 : decode cX4_about 2 = .ok (.iload_n 1, 1) := by decide +kernel
theorem dX4_about_3 : decode cX4_about 3 = .ok (.invokevirtual 105, 3) := by decide +kernel
theorem dX4_about_6 : decode cX4_about 6 = .ok (.ifCond .eq 16, 3) := by decide +kernel
theorem dX4_about_9 : decode cX4_about 9 = .ok (.iload_n 2, 1) := by decide +kernel
theorem dX4_about_10 : decode cX4_about 10 = .ok (.ifCond .lt 12, 3) := by decide +kernel
theorem dX4_about_13 : decode cX4_about 13 = .ok (.iload_n 2, 1) := by decide +kernel
theorem dX4_about_14 : decode cX4_about 14 = .ok (.iconst 3, 1) := by decide +kernel
theorem dX4_about_15 : decode cX4_about 15 = .ok (.if_icmp .gt 7, 3) := by decide +kernel
theorem dX4_about_18 : decode cX4_about 18 = .ok (.iconst 1, 1) := by decide +kernel
theorem dX4_about_19 : decode cX4_about 19 = .ok (.goto 4, 3) := by decide +kernel
theorem dX4_about_22 : decode cX4_about 22 = .ok (.iconst 0, 1) := by decide +kernel
theorem dX4_about_23 : decode cX4_about 23 = .ok (.iconst 1, 1) := by decide +kernel
theorem dX4_about_24 : decode cX4_about 24 = .ok (.iconst 1, 1) := by decide +kernel
theorem dX4_about_25 : decode cX4_about 25 = .ok (.invokevirtual 101, 3) := by decide +kernel
theorem dX4_about_28 : decode cX4_about 28 = .ok (.ifCond .ne 5, 3) := by decide +kernel
theorem dX4_about_31 : decode cX4_about 31 = .ok (.iconst 0, 1) := by decide +kernel
theorem dX4_about_32 : decode cX4_about 32 = .ok (.ireturn, 1) := by decide +kernel
theorem dX4_about_33 : decode cX4_about 33 = .ok (.aload_n 0, 1) := by decide +kernel
theorem dX4_about_34 : decode cX4_about 34 = .ok (.invokevirtual 200, 3) := by decide +kernel
theorem dX4_about_37 : decode cX4_about 37 = .ok (.iload_n 2, 1) := by decide +kernel
theorem dX4_about_38 : decode cX4_about 38 = .ok (.ifCond .ne 12, 3) := by decide +kernel
theorem dX4_about_41 : decode cX4_about 41 = .ok (.aload_n 0, 1) := by decide +kernel
theorem dX4_about_42 : decode cX4_about 42 = .ok (.getfield 81, 3) := by decide +kernel
theorem dX4_about_45 : decode cX4_about 45 = .ok (.iload_n 1, 1) := by decide +kernel
theorem dX4_about_46 : decode cX4_about 46 = .ok (.iaload, 1) := by decide +kernel
theorem dX4_about_47 : decode cX4_about 47 = .ok (.goto 44, 3) := by decide +kernel
theorem dX4_about_50 : decode cX4_about 50 = .ok (.iload_n 2, 1) := by decide +kernel
theorem dX4_about_51 : decode cX4_about 51 = .ok (.iconst 1, 1) := by decide +kernel
theorem dX4_about_52 : decode cX4_about 52 = .ok (.if_icmp .ne 20, 3) := by decide +kernel
theorem dX4_about_55 : decode cX4_about 55 = .ok (.aload_n 0, 1) := by decide +kernel
theorem dX4_about_56 : decode cX4_about 56 = .ok (.getfield 13, 3) := by decide +kernel
theorem dX4_about_59 : decode cX4_about 59 = .ok (.iload_n 1, 1) := by decide +kernel
theorem dX4_about_60 : decode cX4_about 60 = .ok (.baload, 1) := by decide +kernel
theorem dX4_about_61 : decode cX4_about 61 = .ok (.ifCond .eq 7, 3) := by decide +kernel
theorem dX4_about_64 : decode cX4_about 64 = .ok (.iconst 1, 1) := by decide +kernel
theorem dX4_about_65 : decode cX4_about 65 = .ok (.goto 26, 3) := by decide +kernel
theorem dX4_about_68 : decode cX4_about 68 = .ok (.iconst 0, 1) := by decide +kernel
theorem dX4_about_69 : decode cX4_about 69 = .ok (.goto 22, 3) := by decide +kernel
theorem dX4_about_72 : decode cX4_about 72 = .ok (.iload_n 2, 1) := by decide +kernel
theorem dX4_about_73 : decode cX4_about 73 = .ok (.iconst 2, 1) := by decide +kernel
theorem dX4_about_74 : decode cX4_about 74 = .ok (.if_icmp .ne 12, 3) := by decide +kernel
theorem dX4_about_77 : decode cX4_about 77 = .ok (.aload_n 0, 1) := by decide +kernel
theorem dX4_about_78 : decode cX4_about 78 = .ok (.getfield 17, 3) := by decide +kernel
theorem dX4_about_81 : decode cX4_about 81 = .ok (.iload_n 1, 1) := by decide +kernel
theorem dX4_about_82 : decode cX4_about 82 = .ok (.iaload, 1) := by decide +kernel
theorem dX4_about_83 : decode cX4_about 83 = .ok (.goto 8, 3) := by decide +kernel
theorem dX4_about_86 : decode cX4_about 86 = .ok (.aload_n 0, 1) := by decide +kernel
theorem dX4_about_87 : decode cX4_about 87 = .ok (.iload_n 1, 1) := by decide +kernel
theorem dX4_about_88 : decode cX4_about 88 = .ok (.invokevirtual 229, 3) := by decide +kernel
theorem dX4_about_91 : decode cX4_about 91 = .ok (.ireturn, 1) := by decide +kernel
set_option maxRecDepth 20000 in
theorem ggX4_ofRow_X4_goes : GoodIn wsX4_ofRow wsX4_goes := goodIn_r _ [7, 8, 41, 42, 43, 44, 45, 46, 47, 48, 49, 50, 51, 52, 53, 54, 55, 56, 57, 58, 59, 60, 61, 62, 63, 64, 65, 66, 67, 68, 69, 70, 71, 72, 73, 74, 75] rfl (by decide +kernel)
set_option maxRecDepth 20000 in
theorem gX4_ofRow_X4_goes : GoodIn wsX4_ofRow (wsV RX4 101 RX4 yX4_goes wsX4_goes) := goodIn_app (goodIn_of _ (by decide +kernel)) ggX4_ofRow_X4_goes
set_option maxRecDepth 20000 in
theorem ggX4_ofRow_X4_speed : GoodIn wsX4_ofRow wsX4_speed := goodIn_r _ [12, 13, 14, 15, 16, 17, 6, 18, 19, 20, 41, 42, 43, 44, 45, 46, 47, 48, 49, 50, 51, 52, 53, 54, 55, 56, 57, 58, 59, 60, 61, 62, 63, 64, 65, 66, 67, 68, 69, 70, 71, 72, 73, 74, 75] rfl (by decide +kernel)
set_option maxRecDepth 20000 in
theorem gX4_ofRow_X4_speed : GoodIn wsX4_ofRow (wsV RX4 182 RX4 yX4_speed wsX4_speed) := goodIn_app (goodIn_of _ (by decide +kernel)) ggX4_ofRow_X4_speed
set_option maxRecDepth 20000 in
theorem ggX4_ofRow_X4_stiffness : GoodIn wsX4_ofRow wsX4_stiffness := goodIn_r _ [24, 19, 13, 25, 26, 27, 14, 28, 29, 30, 31, 6, 32, 20, 33, 34, 35, 36, 37, 38, 39, 40, 41, 42, 43, 44, 45, 46, 47, 48, 49, 50, 51, 52, 53, 54, 55, 56, 57, 58, 59, 60, 61, 62, 63, 64, 65, 66, 67, 68, 69, 70, 71, 72, 73, 74, 75] rfl (by decide +kernel)
set_option maxRecDepth 20000 in
theorem gX4_ofRow_X4_stiffness : GoodIn wsX4_ofRow (wsV RX4 203 RX4 yX4_stiffness wsX4_stiffness) := goodIn_app (goodIn_of _ (by decide +kernel)) ggX4_ofRow_X4_stiffness
theorem dX4_ofRow_0 : decode cX4_ofRow 0 = .ok (.aload_n 0, 1) := by decide +kernel
theorem dX4_ofRow_1 : decode cX4_ofRow 1 = .ok (.iload_n 1, 1) := by decide +kernel
theorem dX4_ofRow_2 : decode cX4_ofRow 2 = .ok (.ifCond .lt 24, 3) := by decide +kernel
theorem dX4_ofRow_5 : decode cX4_ofRow 5 = .ok (.iload_n 1, 1) := by decide +kernel
theorem dX4_ofRow_6 : decode cX4_ofRow 6 = .ok (.aload_n 0, 1) := by decide +kernel
theorem dX4_ofRow_7 : decode cX4_ofRow 7 = .ok (.getfield 129, 3) := by decide +kernel
theorem dX4_ofRow_10 : decode cX4_ofRow 10 = .ok (.if_icmp .ge 16, 3) := by decide +kernel
theorem dX4_ofRow_13 : decode cX4_ofRow 13 = .ok (.iload_n 2, 1) := by decide +kernel
theorem dX4_ofRow_14 : decode cX4_ofRow 14 = .ok (.ifCond .lt 12, 3) := by decide +kernel
theorem dX4_ofRow_17 : decode cX4_ofRow 17 = .ok (.iload_n 2, 1) := by decide +kernel
theorem dX4_ofRow_18 : decode cX4_ofRow 18 = .ok (.iconst 2, 1) := by decide +kernel
theorem dX4_ofRow_19 : decode cX4_ofRow 19 = .ok (.if_icmp .gt 7, 3) := by decide +kernel
theorem dX4_ofRow_22 : decode cX4_ofRow 22 = .ok (.iconst 1, 1) := by decide +kernel
theorem dX4_ofRow_23 : decode cX4_ofRow 23 = .ok (.goto 4, 3) := by decide +kernel
theorem dX4_ofRow_26 : decode cX4_ofRow 26 = .ok (.iconst 0, 1) := by decide +kernel
theorem dX4_ofRow_27 : decode cX4_ofRow 27 = .ok (.iconst 1, 1) := by decide +kernel
theorem dX4_ofRow_28 : decode cX4_ofRow 28 = .ok (.iconst 1, 1) := by decide +kernel
theorem dX4_ofRow_29 : decode cX4_ofRow 29 = .ok (.invokevirtual 101, 3) := by decide +kernel
theorem dX4_ofRow_32 : decode cX4_ofRow 32 = .ok (.ifCond .ne 5, 3) := by decide +kernel
theorem dX4_ofRow_35 : decode cX4_ofRow 35 = .ok (.fconst 0, 1) := by decide +kernel
theorem dX4_ofRow_36 : decode cX4_ofRow 36 = .ok (.freturn, 1) := by decide +kernel
theorem dX4_ofRow_37 : decode cX4_ofRow 37 = .ok (.iload_n 2, 1) := by decide +kernel
theorem dX4_ofRow_38 : decode cX4_ofRow 38 = .ok (.ifCond .ne 12, 3) := by decide +kernel
theorem dX4_ofRow_41 : decode cX4_ofRow 41 = .ok (.aload_n 0, 1) := by decide +kernel
theorem dX4_ofRow_42 : decode cX4_ofRow 42 = .ok (.getfield 54, 3) := by decide +kernel
theorem dX4_ofRow_45 : decode cX4_ofRow 45 = .ok (.iload_n 1, 1) := by decide +kernel
theorem dX4_ofRow_46 : decode cX4_ofRow 46 = .ok (.faload, 1) := by decide +kernel
theorem dX4_ofRow_47 : decode cX4_ofRow 47 = .ok (.goto 21, 3) := by decide +kernel
theorem dX4_ofRow_50 : decode cX4_ofRow 50 = .ok (.iload_n 2, 1) := by decide +kernel
theorem dX4_ofRow_51 : decode cX4_ofRow 51 = .ok (.iconst 1, 1) := by decide +kernel
theorem dX4_ofRow_52 : decode cX4_ofRow 52 = .ok (.if_icmp .ne 11, 3) := by decide +kernel
theorem dX4_ofRow_55 : decode cX4_ofRow 55 = .ok (.aload_n 0, 1) := by decide +kernel
theorem dX4_ofRow_56 : decode cX4_ofRow 56 = .ok (.iload_n 1, 1) := by decide +kernel
theorem dX4_ofRow_57 : decode cX4_ofRow 57 = .ok (.invokevirtual 182, 3) := by decide +kernel
theorem dX4_ofRow_60 : decode cX4_ofRow 60 = .ok (.goto 8, 3) := by decide +kernel
theorem dX4_ofRow_63 : decode cX4_ofRow 63 = .ok (.aload_n 0, 1) := by decide +kernel
theorem dX4_ofRow_64 : decode cX4_ofRow 64 = .ok (.iload_n 1, 1) := by decide +kernel
theorem dX4_ofRow_65 : decode cX4_ofRow 65 = .ok (.invokevirtual 203, 3) := by decide +kernel
theorem dX4_ofRow_68 : decode cX4_ofRow 68 = .ok (.freturn, 1) := by decide +kernel
set_option maxRecDepth 20000 in
theorem ggX4_deadRows_X4_stiffness : GoodIn wsX4_deadRows wsX4_stiffness := goodIn_r _ [6, 7, 8, 9, 10, 11, 12, 13, 14, 15, 16, 5, 17, 18, 19, 20, 21, 22, 23, 24, 25, 26, 32, 33, 34, 35, 36, 37, 38, 39, 40, 41, 42, 43, 44, 45, 46, 47, 48, 49, 50, 51, 52, 53, 54, 55, 56, 57, 58, 59, 60, 61, 62, 63, 64, 65, 66] rfl (by decide +kernel)
set_option maxRecDepth 20000 in
theorem gX4_deadRows_X4_stiffness : GoodIn wsX4_deadRows (wsV RX4 203 RX4 yX4_stiffness wsX4_stiffness) := goodIn_app (goodIn_of _ (by decide +kernel)) ggX4_deadRows_X4_stiffness
set_option maxRecDepth 20000 in
theorem ggX4_deadRows_X4_dead : GoodIn wsX4_deadRows wsX4_dead := goodIn_r _ [30, 31, 8, 12, 19, 20, 21, 5, 22, 18, 32, 33, 34, 35, 36, 37, 38, 39, 40, 41, 42, 43, 44, 45, 46, 47, 48, 49, 50, 51, 52, 53, 54, 55, 56, 57, 58, 59, 60, 61, 62, 63, 64, 65, 66] rfl (by decide +kernel)
set_option maxRecDepth 20000 in
theorem gX4_deadRows_X4_dead : GoodIn wsX4_deadRows (wsV RX4 209 RX4 yX4_dead wsX4_dead) := goodIn_app (goodIn_of _ (by decide +kernel)) ggX4_deadRows_X4_dead
theorem dX4_deadRows_0 : decode cX4_deadRows 0 = .ok (.iconst 0, 1) := by decide +kernel
theorem dX4_deadRows_1 : decode cX4_deadRows 1 = .ok (.istore_n 1, 1) := by decide +kernel
theorem dX4_deadRows_2 : decode cX4_deadRows 2 = .ok (.iconst 0, 1) := by decide +kernel
theorem dX4_deadRows_3 : decode cX4_deadRows 3 = .ok (.istore_n 2, 1) := by decide +kernel
theorem dX4_deadRows_4 : decode cX4_deadRows 4 = .ok (.iload_n 2, 1) := by decide +kernel
theorem dX4_deadRows_5 : decode cX4_deadRows 5 = .ok (.aload_n 0, 1) := by decide +kernel
theorem dX4_deadRows_6 : decode cX4_deadRows 6 = .ok (.getfield 129, 3) := by decide +kernel
theorem dX4_deadRows_9 : decode cX4_deadRows 9 = .ok (.if_icmp .ge 30, 3) := by decide +kernel
theorem dX4_deadRows_12 : decode cX4_deadRows 12 = .ok (.aload_n 0, 1) := by decide +kernel
theorem dX4_deadRows_13 : decode cX4_deadRows 13 = .ok (.iload_n 2, 1) := by decide +kernel
theorem dX4_deadRows_14 : decode cX4_deadRows 14 = .ok (.aload_n 0, 1) := by decide +kernel
theorem dX4_deadRows_15 : decode cX4_deadRows 15 = .ok (.iload_n 2, 1) := by decide +kernel
theorem dX4_deadRows_16 : decode cX4_deadRows 16 = .ok (.invokevirtual 203, 3) := by decide +kernel
theorem dX4_deadRows_19 : decode cX4_deadRows 19 = .ok (.invokevirtual 209, 3) := by decide +kernel
theorem dX4_deadRows_22 : decode cX4_deadRows 22 = .ok (.ifCond .eq 9, 3) := by decide +kernel
theorem dX4_deadRows_25 : decode cX4_deadRows 25 = .ok (.iload_n 1, 1) := by decide +kernel
theorem dX4_deadRows_26 : decode cX4_deadRows 26 = .ok (.iconst 1, 1) := by decide +kernel
theorem dX4_deadRows_27 : decode cX4_deadRows 27 = .ok (.iadd, 1) := by decide +kernel
theorem dX4_deadRows_28 : decode cX4_deadRows 28 = .ok (.goto 4, 3) := by decide +kernel
theorem dX4_deadRows_31 : decode cX4_deadRows 31 = .ok (.iload_n 1, 1) := by decide +kernel
theorem dX4_deadRows_32 : decode cX4_deadRows 32 = .ok (.istore_n 1, 1) := by decide +kernel
theorem dX4_deadRows_33 : decode cX4_deadRows 33 = .ok (.iinc 2 1, 3) := by decide +kernel
theorem dX4_deadRows_36 : decode cX4_deadRows 36 = .ok (.goto (-32), 3) := by decide +kernel
theorem dX4_deadRows_39 : decode cX4_deadRows 39 = .ok (.iload_n 1, 1) := by decide +kernel
theorem dX4_deadRows_40 : decode cX4_deadRows 40 = .ok (.ireturn, 1) := by decide +kernel
set_option maxRecDepth 20000 in
theorem ggX4_count_X4_goes : GoodIn wsX4_count wsX4_goes := goodIn_r _ [10, 11, 56, 57, 58, 59, 60, 61, 62, 63, 64, 65, 66, 67, 68, 69, 70, 71, 72, 73, 74, 75, 76, 77, 78, 79, 80, 81, 82, 83, 84, 85, 86, 87, 88, 89, 90] rfl (by decide +kernel)
set_option maxRecDepth 20000 in
theorem gX4_count_X4_goes : GoodIn wsX4_count (wsV RX4 101 RX4 yX4_goes wsX4_goes) := goodIn_app (goodIn_of _ (by decide +kernel)) ggX4_count_X4_goes
set_option maxRecDepth 20000 in
theorem ggX4_count_X4_sleeping : GoodIn wsX4_count wsX4_sleeping := goodIn_r _ [15, 4, 16, 17, 18, 19, 9, 20, 1, 21, 3, 22, 23, 24, 2, 25, 26, 27, 28, 29, 56, 57, 58, 59, 60, 61, 62, 63, 64, 65, 66, 67, 68, 69, 70, 71, 72, 73, 74, 75, 76, 77, 78, 79, 80, 81, 82, 83, 84, 85, 86, 87, 88, 89, 90] rfl (by decide +kernel)
set_option maxRecDepth 20000 in
theorem gX4_count_X4_sleeping : GoodIn wsX4_count (wsV RX4 225 RX4 yX4_sleeping wsX4_sleeping) := goodIn_app (goodIn_of _ (by decide +kernel)) ggX4_count_X4_sleeping
set_option maxRecDepth 20000 in
theorem ggX4_count_X4_deadRows : GoodIn wsX4_count wsX4_deadRows := goodIn_r _ [33, 3, 34, 35, 36, 9, 37, 38, 22, 39, 40, 41, 23, 42, 43, 44, 45, 46, 29, 25, 26, 27, 28, 47, 48, 49, 50, 51, 52, 53, 54, 55, 56, 57, 58, 59, 60, 61, 62, 63, 64, 65, 66, 67, 68, 69, 70, 71, 72, 73, 74, 75, 76, 77, 78, 79, 80, 81, 82, 83, 84, 85, 86, 87, 88, 89, 90] rfl (by decide +kernel)
set_option maxRecDepth 20000 in
theorem gX4_count_X4_deadRows : GoodIn wsX4_count (wsV RX4 233 RX4 yX4_deadRows wsX4_deadRows) := goodIn_app (goodIn_of _ (by decide +kernel)) ggX4_count_X4_deadRows
theorem dX4_count_0 : decode cX4_count 0 = .ok (.aload_n 0, 1) := by decide +kernel
theorem dX4_count_1 : decode cX4_count 1 = .ok (.iload_n 1, 1) := by decide +kernel
theorem dX4_count_2 : decode cX4_count 2 = .ok (.ifCond .lt 13, 3) := by decide +kernel
theorem dX4_count_5 : decode cX4_count 5 = .ok (.iload_n 1, 1) := by decide +kernel
theorem dX4_count_6 : decode cX4_count 6 = .ok (.bipush 6, 2) := by decide +kernel
theorem dX4_count_8 : decode cX4_count 8 = .ok (.if_icmp .gt 7, 3) := by decide +kernel
theorem dX4_count_11 : decode cX4_count 11 = .ok (.iconst 1, 1) := by decide +kernel
theorem dX4_count_12 : decode cX4_count 12 = .ok (.goto 4, 3) := by decide +kernel
theorem dX4_count_15 : decode cX4_count 15 = .ok (.iconst 0, 1) := by decide +kernel
theorem dX4_count_16 : decode cX4_count 16 = .ok (.iconst 1, 1) := by decide +kernel
theorem dX4_count_17 : decode cX4_count 17 = .ok (.iconst 1, 1) := by decide +kernel
theorem dX4_count_18 : decode cX4_count 18 = .ok (.invokevirtual 101, 3) := by decide +kernel
theorem dX4_count_21 : decode cX4_count 21 = .ok (.ifCond .ne 5, 3) := by decide +kernel
theorem dX4_count_24 : decode cX4_count 24 = .ok (.iconst 0, 1) := by decide +kernel
theorem dX4_count_25 : decode cX4_count 25 = .ok (.ireturn, 1) := by decide +kernel
theorem dX4_count_26 : decode cX4_count 26 = .ok (.iconst 0, 1) := by decide +kernel
theorem dX4_count_27 : decode cX4_count 27 = .ok (.istore_n 2, 1) := by decide +kernel
theorem dX4_count_28 : decode cX4_count 28 = .ok (.iconst 0, 1) := by decide +kernel
theorem dX4_count_29 : decode cX4_count 29 = .ok (.istore_n 3, 1) := by decide +kernel
theorem dX4_count_30 : decode cX4_count 30 = .ok (.iload_n 3, 1) := by decide +kernel
theorem dX4_count_31 : decode cX4_count 31 = .ok (.aload_n 0, 1) := by decide +kernel
theorem dX4_count_32 : decode cX4_count 32 = .ok (.getfield 93, 3) := by decide +kernel
theorem dX4_count_35 : decode cX4_count 35 = .ok (.if_icmp .ge 26, 3) := by decide +kernel
theorem dX4_count_38 : decode cX4_count 38 = .ok (.aload_n 0, 1) := by decide +kernel
theorem dX4_count_39 : decode cX4_count 39 = .ok (.getfield 13, 3) := by decide +kernel
theorem dX4_count_42 : decode cX4_count 42 = .ok (.iload_n 3, 1) := by decide +kernel
theorem dX4_count_43 : decode cX4_count 43 = .ok (.baload, 1) := by decide +kernel
theorem dX4_count_44 : decode cX4_count 44 = .ok (.ifCond .eq 9, 3) := by decide +kernel
theorem dX4_count_47 : decode cX4_count 47 = .ok (.iload_n 2, 1) := by decide +kernel
theorem dX4_count_48 : decode cX4_count 48 = .ok (.iconst 1, 1) := by decide +kernel
theorem dX4_count_49 : decode cX4_count 49 = .ok (.iadd, 1) := by decide +kernel
theorem dX4_count_50 : decode cX4_count 50 = .ok (.goto 4, 3) := by decide +kernel
theorem dX4_count_53 : decode cX4_count 53 = .ok (.iload_n 2, 1) := by decide +kernel
theorem dX4_count_54 : decode cX4_count 54 = .ok (.istore_n 2, 1) := by decide +kernel
theorem dX4_count_55 : decode cX4_count 55 = .ok (.iinc 3 1, 3) := by decide +kernel
theorem dX4_count_58 : decode cX4_count 58 = .ok (.goto (-28), 3) := by decide +kernel
theorem dX4_count_61 : decode cX4_count 61 = .ok (.aload_n 0, 1) := by decide +kernel
theorem dX4_count_62 : decode cX4_count 62 = .ok (.invokevirtual 225, 3) := by decide +kernel
theorem dX4_count_65 : decode cX4_count 65 = .ok (.istore_n 3, 1) := by decide +kernel
theorem dX4_count_66 : decode cX4_count 66 = .ok (.iload_n 1, 1) := by decide +kernel
theorem dX4_count_67 : decode cX4_count 67 = .ok (.tableswitch 61 0 5 #[37, 42, 47, 52, 54, 56], 37) := by decide +kernel
theorem dX4_count_104 : decode cX4_count 104 = .ok (.aload_n 0, 1) := by decide +kernel
theorem dX4_count_105 : decode cX4_count 105 = .ok (.getfield 93, 3) := by decide +kernel
theorem dX4_count_108 : decode cX4_count 108 = .ok (.ireturn, 1) := by decide +kernel
theorem dX4_count_109 : decode cX4_count 109 = .ok (.aload_n 0, 1) := by decide +kernel
theorem dX4_count_110 : decode cX4_count 110 = .ok (.getfield 129, 3) := by decide +kernel
theorem dX4_count_113 : decode cX4_count 113 = .ok (.ireturn, 1) := by decide +kernel
theorem dX4_count_114 : decode cX4_count 114 = .ok (.aload_n 0, 1) := by decide +kernel
theorem dX4_count_115 : decode cX4_count 115 = .ok (.getfield 189, 3) := by decide +kernel
theorem dX4_count_118 : decode cX4_count 118 = .ok (.ireturn, 1) := by decide +kernel
theorem dX4_count_119 : decode cX4_count 119 = .ok (.iload_n 3, 1) := by decide +kernel
theorem dX4_count_120 : decode cX4_count 120 = .ok (.ireturn, 1) := by decide +kernel
theorem dX4_count_121 : decode cX4_count 121 = .ok (.iload_n 2, 1) := by decide +kernel
theorem dX4_count_122 : decode cX4_count 122 = .ok (.ireturn, 1) := by decide +kernel
theorem dX4_count_123 : decode cX4_count 123 = .ok (.aload_n 0, 1) := by decide +kernel
theorem dX4_count_124 : decode cX4_count 124 = .ok (.getfield 219, 3) := by decide +kernel
theorem dX4_count_127 : decode cX4_count 127 = .ok (.ireturn, 1) := by decide +kernel
theorem dX4_count_128 : decode cX4_count 128 = .ok (.aload_n 0, 1) := by decide +kernel
theorem dX4_count_129 : decode cX4_count 129 = .ok (.invokevirtual 233, 3) := by decide +kernel
theorem dX4_count_132 : decode cX4_count 132 = .ok (.ireturn, 1) := by decide +kernel
set_option maxRecDepth 20000 in
theorem ggX4_motion_X4_movable : GoodIn wsX4_motion wsX4_movable := goodIn_r _ [7, 8, 13, 14, 15, 16, 17, 18, 19, 20, 21, 22, 23, 24, 25, 26, 27, 28, 29, 30, 31, 32, 33, 34, 35, 36, 37, 38, 39, 40, 41, 42, 43, 44, 45, 46, 47] rfl (by decide +kernel)
set_option maxRecDepth 20000 in
theorem gX4_motion_X4_movable : GoodIn wsX4_motion (wsV RX4 119 RX4 yX4_movable wsX4_movable) := goodIn_app (goodIn_of _ (by decide +kernel)) ggX4_motion_X4_movable
set_option maxRecDepth 20000 in
theorem ggX4_motion_X4_square : GoodIn wsX4_motion wsX4_square := goodIn_r _ [12, 8, 13, 14, 15, 16, 17, 18, 19, 20, 21, 22, 23, 24, 25, 26, 27, 28, 29, 30, 31, 32, 33, 34, 35, 36, 37, 38, 39, 40, 41, 42, 43, 44, 45, 46, 47] rfl (by decide +kernel)
set_option maxRecDepth 20000 in
theorem gX4_motion_X4_square : GoodIn wsX4_motion (wsV RX4 197 RX4 yX4_square wsX4_square) := goodIn_app (goodIn_of _ (by decide +kernel)) ggX4_motion_X4_square
theorem dX4_motion_0 : decode cX4_motion 0 = .ok (.aload_n 0, 1) := by decide +kernel
theorem dX4_motion_1 : decode cX4_motion 1 = .ok (.iconst 0, 1) := by decide +kernel
theorem dX4_motion_2 : decode cX4_motion 2 = .ok (.putfield 90, 3) := by decide +kernel
theorem dX4_motion_5 : decode cX4_motion 5 = .ok (.fconst 0, 1) := by decide +kernel
theorem dX4_motion_6 : decode cX4_motion 6 = .ok (.fstore_n 1, 1) := by decide +kernel
theorem dX4_motion_7 : decode cX4_motion 7 = .ok (.iconst 0, 1) := by decide +kernel
theorem dX4_motion_8 : decode cX4_motion 8 = .ok (.istore_n 2, 1) := by decide +kernel
theorem dX4_motion_9 : decode cX4_motion 9 = .ok (.iload_n 2, 1) := by decide +kernel
theorem dX4_motion_10 : decode cX4_motion 10 = .ok (.aload_n 0, 1) := by decide +kernel
theorem dX4_motion_11 : decode cX4_motion 11 = .ok (.getfield 93, 3) := by decide +kernel
theorem dX4_motion_14 : decode cX4_motion 14 = .ok (.if_icmp .ge 29, 3) := by decide +kernel
theorem dX4_motion_17 : decode cX4_motion 17 = .ok (.aload_n 0, 1) := by decide +kernel
theorem dX4_motion_18 : decode cX4_motion 18 = .ok (.iload_n 2, 1) := by decide +kernel
theorem dX4_motion_19 : decode cX4_motion 19 = .ok (.invokevirtual 119, 3) := by decide +kernel
theorem dX4_motion_22 : decode cX4_motion 22 = .ok (.ifCond .eq 13, 3) := by decide +kernel
theorem dX4_motion_25 : decode cX4_motion 25 = .ok (.fload_n 1, 1) := by decide +kernel
theorem dX4_motion_26 : decode cX4_motion 26 = .ok (.aload_n 0, 1) := by decide +kernel
theorem dX4_motion_27 : decode cX4_motion 27 = .ok (.iload_n 2, 1) := by decide +kernel
theorem dX4_motion_28 : decode cX4_motion 28 = .ok (.invokevirtual 197, 3) := by decide +kernel
theorem dX4_motion_31 : decode cX4_motion 31 = .ok (.fadd, 1) := by decide +kernel
theorem dX4_motion_32 : decode cX4_motion 32 = .ok (.goto 4, 3) := by decide +kernel
theorem dX4_motion_35 : decode cX4_motion 35 = .ok (.fload_n 1, 1) := by decide +kernel
theorem dX4_motion_36 : decode cX4_motion 36 = .ok (.fstore_n 1, 1) := by decide +kernel
theorem dX4_motion_37 : decode cX4_motion 37 = .ok (.iinc 2 1, 3) := by decide +kernel
theorem dX4_motion_40 : decode cX4_motion 40 = .ok (.goto (-31), 3) := by decide +kernel
theorem dX4_motion_43 : decode cX4_motion 43 = .ok (.fload_n 1, 1) := by decide +kernel
theorem dX4_motion_44 : decode cX4_motion 44 = .ok (.freturn, 1) := by decide +kernel
theorem dJ9_max_7cf53_0 : decode cJ9_max_7cf53 0 = .ok (.iload_n 0, 1) := by decide +kernel
theorem dJ9_max_7cf53_1 : decode cJ9_max_7cf53 1 = .ok (.iload_n 1, 1) := by decide +kernel
theorem dJ9_max_7cf53_2 : decode cJ9_max_7cf53 2 = .ok (.if_icmp .lt 7, 3) := by decide +kernel
theorem dJ9_max_7cf53_5 : decode cJ9_max_7cf53 5 = .ok (.iload_n 0, 1) := by decide +kernel
theorem dJ9_max_7cf53_6 : decode cJ9_max_7cf53 6 = .ok (.goto 4, 3) := by decide +kernel
theorem dJ9_max_7cf53_9 : decode cJ9_max_7cf53 9 = .ok (.iload_n 1, 1) := by decide +kernel
theorem dJ9_max_7cf53_10 : decode cJ9_max_7cf53 10 = .ok (.ireturn, 1) := by decide +kernel
theorem dJ9_min_7cf53_0 : decode cJ9_min_7cf53 0 = .ok (.iload_n 0, 1) := by decide +kernel
theorem dJ9_min_7cf53_1 : decode cJ9_min_7cf53 1 = .ok (.iload_n 1, 1) := by decide +kernel
theorem dJ9_min_7cf53_2 : decode cJ9_min_7cf53 2 = .ok (.if_icmp .gt 7, 3) := by decide +kernel
theorem dJ9_min_7cf53_5 : decode cJ9_min_7cf53 5 = .ok (.iload_n 0, 1) := by decide +kernel
theorem dJ9_min_7cf53_6 : decode cJ9_min_7cf53 6 = .ok (.goto 4, 3) := by decide +kernel
theorem dJ9_min_7cf53_9 : decode cJ9_min_7cf53 9 = .ok (.iload_n 1, 1) := by decide +kernel
theorem dJ9_min_7cf53_10 : decode cJ9_min_7cf53 10 = .ok (.ireturn, 1) := by decide +kernel
theorem dJxa1e45_init_da8c8_0 : decode cJxa1e45_init_da8c8 0 = .ok (.aload_n 0, 1) := by decide +kernel
theorem dJxa1e45_init_da8c8_1 : decode cJxa1e45_init_da8c8 1 = .ok (.invokespecial 1, 3) := by decide +kernel
theorem dJxa1e45_init_da8c8_4 : decode cJxa1e45_init_da8c8 4 = .ok (.return_, 1) := by decide +kernel
set_option maxRecDepth 20000 in
theorem ggJxc12de_init_da8c8_Jxa1e45_init_da8c8 : GoodIn wsJxc12de_init_da8c8 wsJxa1e45_init_da8c8 := goodIn_r _ [5, 6, 7, 8] rfl (by decide +kernel)
set_option maxRecDepth 20000 in
theorem gJxc12de_init_da8c8_Jxa1e45_init_da8c8 : GoodIn wsJxc12de_init_da8c8 (wsJxa1e45_init_da8c8) := ggJxc12de_init_da8c8_Jxa1e45_init_da8c8
theorem dJxc12de_init_da8c8_0 : decode cJxc12de_init_da8c8 0 = .ok (.aload_n 0, 1) := by decide +kernel
theorem dJxc12de_init_da8c8_1 : decode cJxc12de_init_da8c8 1 = .ok (.invokespecial 1, 3) := by decide +kernel
theorem dJxc12de_init_da8c8_4 : decode cJxc12de_init_da8c8 4 = .ok (.aload_n 0, 1) := by decide +kernel
theorem dJxc12de_init_da8c8_5 : decode cJxc12de_init_da8c8 5 = .ok (.iconst 0, 1) := by decide +kernel
theorem dJxc12de_init_da8c8_6 : decode cJxc12de_init_da8c8 6 = .ok (.putfield 7, 3) := by decide +kernel
theorem dJxc12de_init_da8c8_9 : decode cJxc12de_init_da8c8 9 = .ok (.return_, 1) := by decide +kernel
set_option maxRecDepth 20000 in
theorem ggJx4a65c_init_da8c8_Jxc12de_init_da8c8 : GoodIn wsJx4a65c_init_da8c8 wsJxc12de_init_da8c8 := goodIn_r _ [6, 7, 8, 9, 10, 11, 12, 13, 14, 15, 16, 17] rfl (by decide +kernel)
set_option maxRecDepth 20000 in
theorem gJx4a65c_init_da8c8_Jxc12de_init_da8c8 : GoodIn wsJx4a65c_init_da8c8 (wsJxc12de_init_da8c8) := ggJx4a65c_init_da8c8_Jxc12de_init_da8c8
theorem dJx4a65c_init_da8c8_0 : decode cJx4a65c_init_da8c8 0 = .ok (.aload_n 0, 1) := by decide +kernel
theorem dJx4a65c_init_da8c8_1 : decode cJx4a65c_init_da8c8 1 = .ok (.invokespecial 1, 3) := by decide +kernel
theorem dJx4a65c_init_da8c8_4 : decode cJx4a65c_init_da8c8 4 = .ok (.aload_n 0, 1) := by decide +kernel
theorem dJx4a65c_init_da8c8_5 : decode cJx4a65c_init_da8c8 5 = .ok (.getstatic 39, 3) := by decide +kernel
theorem dJx4a65c_init_da8c8_8 : decode cJx4a65c_init_da8c8 8 = .ok (.putfield 9, 3) := by decide +kernel
theorem dJx4a65c_init_da8c8_11 : decode cJx4a65c_init_da8c8 11 = .ok (.return_, 1) := by decide +kernel
set_option maxRecDepth 20000 in
theorem ggJx4a65c_grow_92f84_J8_newLength_cabcc : GoodIn wsJx4a65c_grow_92f84 wsJ8_newLength_cabcc := goodIn_r _ [11, 12, 4, 5, 6, 13, 14, 15, 10, 16] rfl (by decide +kernel)
set_option maxRecDepth 20000 in
theorem gJx4a65c_grow_92f84_J8_newLength_cabcc : GoodIn wsJx4a65c_grow_92f84 (va_wsS RJx4a65c 73 yJ8_newLength_cabcc wsJ8_newLength_cabcc) := goodIn_app (goodIn_of _ (by decide +kernel)) ggJx4a65c_grow_92f84_J8_newLength_cabcc
set_option maxRecDepth 20000 in
theorem ggJx4a65c_grow_92f84_J7_copyOf_1904c : GoodIn wsJx4a65c_grow_92f84 wsJ7_copyOf_1904c := goodIn_r _ [20, 21, 22, 23, 24, 25, 26, 19, 27, 28, 29, 30, 31, 5, 32, 33, 34, 35, 36] rfl (by decide +kernel)
set_option maxRecDepth 20000 in
theorem gJx4a65c_grow_92f84_J7_copyOf_1904c : GoodIn wsJx4a65c_grow_92f84 (va_wsS RJx4a65c 66 yJ7_copyOf_1904c wsJ7_copyOf_1904c) := goodIn_app (goodIn_of _ (by decide +kernel)) ggJx4a65c_grow_92f84_J7_copyOf_1904c
theorem dJx4a65c_grow_92f84_0 : decode cJx4a65c_grow_92f84 0 = .ok (.aload_n 0, 1) := by decide +kernel
theorem dJx4a65c_grow_92f84_1 : decode cJx4a65c_grow_92f84 1 = .ok (.getfield 9, 3) := by decide +kernel
theorem dJx4a65c_grow_92f84_4 : decode cJx4a65c_grow_92f84 4 = .ok (.arraylength, 1) := by decide +kernel
theorem dJx4a65c_grow_92f84_5 : decode cJx4a65c_grow_92f84 5 = .ok (.istore_n 2, 1) := by decide +kernel
theorem dJx4a65c_grow_92f84_6 : decode cJx4a65c_grow_92f84 6 = .ok (.iload_n 2, 1) := by decide +kernel
theorem dJx4a65c_grow_92f84_7 : decode cJx4a65c_grow_92f84 7 = .ok (.ifCond .gt 13, 3) := by decide +kernel
theorem dJx4a65c_grow_92f84_10 : decode cJx4a65c_grow_92f84 10 = .ok (.aload_n 0, 1) := by decide +kernel
theorem dJx4a65c_grow_92f84_11 : decode cJx4a65c_grow_92f84 11 = .ok (.getfield 9, 3) := by decide +kernel
theorem dJx4a65c_grow_92f84_14 : decode cJx4a65c_grow_92f84 14 = .ok (.getstatic 39, 3) := by decide +kernel
theorem dJx4a65c_grow_92f84_17 : decode cJx4a65c_grow_92f84 17 = .ok (.if_acmp .eq 28, 3) := by decide +kernel
theorem dJx4a65c_grow_92f84_20 : decode cJx4a65c_grow_92f84 20 = .ok (.iload_n 2, 1) := by decide +kernel
theorem dJx4a65c_grow_92f84_21 : decode cJx4a65c_grow_92f84 21 = .ok (.iload_n 1, 1) := by decide +kernel
theorem dJx4a65c_grow_92f84_22 : decode cJx4a65c_grow_92f84 22 = .ok (.iload_n 2, 1) := by decide +kernel
theorem dJx4a65c_grow_92f84_23 : decode cJx4a65c_grow_92f84 23 = .ok (.isub, 1) := by decide +kernel
theorem dJx4a65c_grow_92f84_24 : decode cJx4a65c_grow_92f84 24 = .ok (.iload_n 2, 1) := by decide +kernel
theorem dJx4a65c_grow_92f84_25 : decode cJx4a65c_grow_92f84 25 = .ok (.iconst 1, 1) := by decide +kernel
theorem dJx4a65c_grow_92f84_26 : decode cJx4a65c_grow_92f84 26 = .ok (.ishr, 1) := by decide +kernel
theorem dJx4a65c_grow_92f84_27 : decode cJx4a65c_grow_92f84 27 = .ok (.invokestatic 73, 3) := by decide +kernel
theorem dJx4a65c_grow_92f84_30 : decode cJx4a65c_grow_92f84 30 = .ok (.istore_n 3, 1) := by decide +kernel
theorem dJx4a65c_grow_92f84_31 : decode cJx4a65c_grow_92f84 31 = .ok (.aload_n 0, 1) := by decide +kernel
theorem dJx4a65c_grow_92f84_32 : decode cJx4a65c_grow_92f84 32 = .ok (.aload_n 0, 1) := by decide +kernel
theorem dJx4a65c_grow_92f84_33 : decode cJx4a65c_grow_92f84 33 = .ok (.getfield 9, 3) := by decide +kernel
theorem dJx4a65c_grow_92f84_36 : decode cJx4a65c_grow_92f84 36 = .ok (.iload_n 3, 1) := by decide +kernel
theorem dJx4a65c_grow_92f84_37 : decode cJx4a65c_grow_92f84 37 = .ok (.invokestatic 66, 3) := by decide +kernel
theorem dJx4a65c_grow_92f84_40 : decode cJx4a65c_grow_92f84 40 = .ok (.dup_x1, 1) := by decide +kernel
theorem dJx4a65c_grow_92f84_41 : decode cJx4a65c_grow_92f84 41 = .ok (.putfield 9, 3) := by decide +kernel
theorem dJx4a65c_grow_92f84_44 : decode cJx4a65c_grow_92f84 44 = .ok (.areturn, 1) := by decide +kernel
theorem dJx4a65c_grow_92f84_45 : decode cJx4a65c_grow_92f84 45 = .ok (.aload_n 0, 1) := by decide +kernel
theorem dJx4a65c_grow_92f84_46 : decode cJx4a65c_grow_92f84 46 = .ok (.bipush 10, 2) := by decide +kernel
theorem dJx4a65c_grow_92f84_48 : decode cJx4a65c_grow_92f84 48 = .ok (.iload_n 1, 1) := by decide +kernel
theorem dJx4a65c_grow_92f84_49 : decode cJx4a65c_grow_92f84 49 = .ok (.invokestatic 79, 3) := by decide +kernel
theorem dJx4a65c_grow_92f84_52 : decode cJx4a65c_grow_92f84 52 = .ok (.anewarray 7, 3) := by decide +kernel
theorem dJx4a65c_grow_92f84_55 : decode cJx4a65c_grow_92f84 55 = .ok (.dup_x1, 1) := by decide +kernel
theorem dJx4a65c_grow_92f84_56 : decode cJx4a65c_grow_92f84 56 = .ok (.putfield 9, 3) := by decide +kernel
theorem dJx4a65c_grow_92f84_59 : decode cJx4a65c_grow_92f84 59 = .ok (.areturn, 1) := by decide +kernel
set_option maxRecDepth 20000 in
theorem ggJx4a65c_grow_d5877_Jx4a65c_grow_92f84 : GoodIn wsJx4a65c_grow_d5877 wsJx4a65c_grow_92f84 := goodIn_r _ [6, 7, 8, 9, 10, 11, 12, 13, 14, 15, 16, 17, 18, 19, 20, 21, 22, 23, 24, 25, 26, 27, 28, 29, 30, 31, 32, 33, 34, 35, 36, 37, 38, 39, 40, 41, 42, 43, 44, 45] rfl (by decide +kernel)
set_option maxRecDepth 20000 in
theorem gJx4a65c_grow_d5877_Jx4a65c_grow_92f84 : GoodIn wsJx4a65c_grow_d5877 (wsV RJx4a65c 69 RJx4a65c yJx4a65c_grow_92f84 wsJx4a65c_grow_92f84) := goodIn_app (goodIn_of _ (by decide +kernel)) ggJx4a65c_grow_d5877_Jx4a65c_grow_92f84
theorem dJx4a65c_grow_d5877_0 : decode cJx4a65c_grow_d5877 0 = .ok (.aload_n 0, 1) := by decide +kernel
theorem dJx4a65c_grow_d5877_1 : decode cJx4a65c_grow_d5877 1 = .ok (.aload_n 0, 1) := by decide +kernel
theorem dJx4a65c_grow_d5877_2 : decode cJx4a65c_grow_d5877 2 = .ok (.getfield 48, 3) := by decide +kernel
theorem dJx4a65c_grow_d5877_5 : decode cJx4a65c_grow_d5877 5 = .ok (.iconst 1, 1) := by decide +kernel
theorem dJx4a65c_grow_d5877_6 : decode cJx4a65c_grow_d5877 6 = .ok (.iadd, 1) := by decide +kernel
theorem dJx4a65c_grow_d5877_7 : decode cJx4a65c_grow_d5877 7 = .ok (.invokevirtual 69, 3) := by decide +kernel
theorem dJx4a65c_grow_d5877_10 : decode cJx4a65c_grow_d5877 10 = .ok (.areturn, 1) := by decide +kernel
theorem dJx4a65c_size_8abf5_0 : decode cJx4a65c_size_8abf5 0 = .ok (.aload_n 0, 1) := by decide +kernel
theorem dJx4a65c_size_8abf5_1 : decode cJx4a65c_size_8abf5 1 = .ok (.getfield 48, 3) := by decide +kernel
theorem dJx4a65c_size_8abf5_4 : decode cJx4a65c_size_8abf5 4 = .ok (.ireturn, 1) := by decide +kernel
theorem dJx4a65c_elementData_915e3_0 : decode cJx4a65c_elementData_915e3 0 = .ok (.aload_n 0, 1) := by decide +kernel
theorem dJx4a65c_elementData_915e3_1 : decode cJx4a65c_elementData_915e3 1 = .ok (.getfield 9, 3) := by decide +kernel
theorem dJx4a65c_elementData_915e3_4 : decode cJx4a65c_elementData_915e3 4 = .ok (.iload_n 1, 1) := by decide +kernel
theorem dJx4a65c_elementData_915e3_5 : decode cJx4a65c_elementData_915e3 5 = .ok (.aaload, 1) := by decide +kernel
theorem dJx4a65c_elementData_915e3_6 : decode cJx4a65c_elementData_915e3 6 = .ok (.areturn, 1) := by decide +kernel
set_option maxRecDepth 20000 in
theorem ggJx4a65c_get_915e3_J15_checkIndex_7cf53 : GoodIn wsJx4a65c_get_915e3 wsJ15_checkIndex_7cf53 := goodIn_r _ [5, 6, 7, 8, 9] rfl (by decide +kernel)
set_option maxRecDepth 20000 in
theorem gJx4a65c_get_915e3_J15_checkIndex_7cf53 : GoodIn wsJx4a65c_get_915e3 (va_wsS RJx4a65c 118 yJ15_checkIndex_7cf53 wsJ15_checkIndex_7cf53) := goodIn_app (goodIn_of _ (by decide +kernel)) ggJx4a65c_get_915e3_J15_checkIndex_7cf53
set_option maxRecDepth 20000 in
theorem ggJx4a65c_get_915e3_Jx4a65c_elementData_915e3 : GoodIn wsJx4a65c_get_915e3 wsJx4a65c_elementData_915e3 := goodIn_r _ [14, 15, 16, 17, 18] rfl (by decide +kernel)
set_option maxRecDepth 20000 in
theorem gJx4a65c_get_915e3_Jx4a65c_elementData_915e3 : GoodIn wsJx4a65c_get_915e3 (wsV RJx4a65c 123 RJx4a65c yJx4a65c_elementData_915e3 wsJx4a65c_elementData_915e3) := goodIn_app (goodIn_of _ (by decide +kernel)) ggJx4a65c_get_915e3_Jx4a65c_elementData_915e3
theorem dJx4a65c_get_915e3_0 : decode cJx4a65c_get_915e3 0 = .ok (.iload_n 1, 1) := by decide +kernel
theorem dJx4a65c_get_915e3_1 : decode cJx4a65c_get_915e3 1 = .ok (.aload_n 0, 1) := by decide +kernel
theorem dJx4a65c_get_915e3_2 : decode cJx4a65c_get_915e3 2 = .ok (.getfield 48, 3) := by decide +kernel
theorem dJx4a65c_get_915e3_5 : decode cJx4a65c_get_915e3 5 = .ok (.invokestatic 118, 3) := by decide +kernel
theorem dJx4a65c_get_915e3_8 : decode cJx4a65c_get_915e3 8 = .ok (.pop, 1) := by decide +kernel
theorem dJx4a65c_get_915e3_9 : decode cJx4a65c_get_915e3 9 = .ok (.aload_n 0, 1) := by decide +kernel
theorem dJx4a65c_get_915e3_10 : decode cJx4a65c_get_915e3 10 = .ok (.iload_n 1, 1) := by decide +kernel
theorem dJx4a65c_get_915e3_11 : decode cJx4a65c_get_915e3 11 = .ok (.invokevirtual 123, 3) := by decide +kernel
theorem dJx4a65c_get_915e3_14 : decode cJx4a65c_get_915e3 14 = .ok (.areturn, 1) := by decide +kernel
set_option maxRecDepth 20000 in
theorem ggJx4a65c_add_72be8_Jx4a65c_grow_d5877 : GoodIn wsJx4a65c_add_72be8 wsJx4a65c_grow_d5877 := goodIn_r _ [6, 1, 7, 8, 9, 5, 10, 11, 12, 13, 14, 15, 16, 17, 18, 19, 20, 21, 22, 23, 24, 25, 26, 27, 28, 29, 30, 31, 32, 33, 34, 35, 36, 37, 38, 39, 40, 41, 42, 43, 44, 45, 46, 47, 48, 49] rfl (by decide +kernel)
set_option maxRecDepth 20000 in
theorem gJx4a65c_add_72be8_Jx4a65c_grow_d5877 : GoodIn wsJx4a65c_add_72be8 (wsV RJx4a65c 129 RJx4a65c yJx4a65c_grow_d5877 wsJx4a65c_grow_d5877) := goodIn_app (goodIn_of _ (by decide +kernel)) ggJx4a65c_add_72be8_Jx4a65c_grow_d5877
theorem dJx4a65c_add_72be8_0 : decode cJx4a65c_add_72be8 0 = .ok (.iload_n 3, 1) := by decide +kernel
theorem dJx4a65c_add_72be8_1 : decode cJx4a65c_add_72be8 1 = .ok (.aload_n 2, 1) := by decide +kernel
theorem dJx4a65c_add_72be8_2 : decode cJx4a65c_add_72be8 2 = .ok (.arraylength, 1) := by decide +kernel
theorem dJx4a65c_add_72be8_3 : decode cJx4a65c_add_72be8 3 = .ok (.if_icmp .ne 8, 3) := by decide +kernel
theorem dJx4a65c_add_72be8_6 : decode cJx4a65c_add_72be8 6 = .ok (.aload_n 0, 1) := by decide +kernel
theorem dJx4a65c_add_72be8_7 : decode cJx4a65c_add_72be8 7 = .ok (.invokevirtual 129, 3) := by decide +kernel
theorem dJx4a65c_add_72be8_10 : decode cJx4a65c_add_72be8 10 = .ok (.astore_n 2, 1) := by decide +kernel
theorem dJx4a65c_add_72be8_11 : decode cJx4a65c_add_72be8 11 = .ok (.aload_n 2, 1) := by decide +kernel
theorem dJx4a65c_add_72be8_12 : decode cJx4a65c_add_72be8 12 = .ok (.iload_n 3, 1) := by decide +kernel
theorem dJx4a65c_add_72be8_13 : decode cJx4a65c_add_72be8 13 = .ok (.aload_n 1, 1) := by decide +kernel
theorem dJx4a65c_add_72be8_14 : decode cJx4a65c_add_72be8 14 = .ok (.aastore, 1) := by decide +kernel
theorem dJx4a65c_add_72be8_15 : decode cJx4a65c_add_72be8 15 = .ok (.aload_n 0, 1) := by decide +kernel
theorem dJx4a65c_add_72be8_16 : decode cJx4a65c_add_72be8 16 = .ok (.iload_n 3, 1) := by decide +kernel
theorem dJx4a65c_add_72be8_17 : decode cJx4a65c_add_72be8 17 = .ok (.iconst 1, 1) := by decide +kernel
theorem dJx4a65c_add_72be8_18 : decode cJx4a65c_add_72be8 18 = .ok (.iadd, 1) := by decide +kernel
theorem dJx4a65c_add_72be8_19 : decode cJx4a65c_add_72be8 19 = .ok (.putfield 48, 3) := by decide +kernel
theorem dJx4a65c_add_72be8_22 : decode cJx4a65c_add_72be8 22 = .ok (.return_, 1) := by decide +kernel
set_option maxRecDepth 20000 in
theorem ggJx4a65c_add_9ea2d_Jx4a65c_add_72be8 : GoodIn wsJx4a65c_add_9ea2d wsJx4a65c_add_72be8 := goodIn_r _ [9, 4, 10, 11, 12, 8, 13, 14, 15, 16, 17, 3, 18, 19, 20, 21, 22, 23, 24, 25, 26, 27, 28, 29, 30, 31, 32, 33, 34, 35, 36, 37, 38, 39, 40, 41, 42, 43, 44, 45, 46, 47, 48, 49, 50, 51, 52, 53, 54, 55] rfl (by decide +kernel)
set_option maxRecDepth 20000 in
theorem gJx4a65c_add_9ea2d_Jx4a65c_add_72be8 : GoodIn wsJx4a65c_add_9ea2d (wsV RJx4a65c 131 RJx4a65c yJx4a65c_add_72be8 wsJx4a65c_add_72be8) := goodIn_app (goodIn_of _ (by decide +kernel)) ggJx4a65c_add_9ea2d_Jx4a65c_add_72be8
theorem dJx4a65c_add_9ea2d_0 : decode cJx4a65c_add_9ea2d 0 = .ok (.aload_n 0, 1) := by decide +kernel
theorem dJx4a65c_add_9ea2d_1 : decode cJx4a65c_add_9ea2d 1 = .ok (.dup, 1) := by decide +kernel
theorem dJx4a65c_add_9ea2d_2 : decode cJx4a65c_add_9ea2d 2 = .ok (.getfield 63, 3) := by decide +kernel
theorem dJx4a65c_add_9ea2d_5 : decode cJx4a65c_add_9ea2d 5 = .ok (.iconst 1, 1) := by decide +kernel
theorem dJx4a65c_add_9ea2d_6 : decode cJx4a65c_add_9ea2d 6 = .ok (.iadd, 1) := by decide +kernel
theorem dJx4a65c_add_9ea2d_7 : decode cJx4a65c_add_9ea2d 7 = .ok (.putfield 63, 3) := by decide +kernel
theorem dJx4a65c_add_9ea2d_10 : decode cJx4a65c_add_9ea2d 10 = .ok (.aload_n 0, 1) := by decide +kernel
theorem dJx4a65c_add_9ea2d_11 : decode cJx4a65c_add_9ea2d 11 = .ok (.aload_n 1, 1) := by decide +kernel
theorem dJx4a65c_add_9ea2d_12 : decode cJx4a65c_add_9ea2d 12 = .ok (.aload_n 0, 1) := by decide +kernel
theorem dJx4a65c_add_9ea2d_13 : decode cJx4a65c_add_9ea2d 13 = .ok (.getfield 9, 3) := by decide +kernel
theorem dJx4a65c_add_9ea2d_16 : decode cJx4a65c_add_9ea2d 16 = .ok (.aload_n 0, 1) := by decide +kernel
theorem dJx4a65c_add_9ea2d_17 : decode cJx4a65c_add_9ea2d 17 = .ok (.getfield 48, 3) := by decide +kernel
theorem dJx4a65c_add_9ea2d_20 : decode cJx4a65c_add_9ea2d 20 = .ok (.invokevirtual 131, 3) := by decide +kernel
theorem dJx4a65c_add_9ea2d_23 : decode cJx4a65c_add_9ea2d 23 = .ok (.iconst 1, 1) := by decide +kernel
theorem dJx4a65c_add_9ea2d_24 : decode cJx4a65c_add_9ea2d 24 = .ok (.ireturn, 1) := by decide +kernel
theorem dJx4a65c_clear_da8c8_0 : decode cJx4a65c_clear_da8c8 0 = .ok (.aload_n 0, 1) := by decide +kernel
theorem dJx4a65c_clear_da8c8_1 : decode cJx4a65c_clear_da8c8 1 = .ok (.dup, 1) := by decide +kernel
theorem dJx4a65c_clear_da8c8_2 : decode cJx4a65c_clear_da8c8 2 = .ok (.getfield 63, 3) := by decide +kernel
theorem dJx4a65c_clear_da8c8_5 : decode cJx4a65c_clear_da8c8 5 = .ok (.iconst 1, 1) := by decide +kernel
theorem dJx4a65c_clear_da8c8_6 : decode cJx4a65c_clear_da8c8 6 = .ok (.iadd, 1) := by decide +kernel
theorem dJx4a65c_clear_da8c8_7 : decode cJx4a65c_clear_da8c8 7 = .ok (.putfield 63, 3) := by decide +kernel
theorem dJx4a65c_clear_da8c8_10 : decode cJx4a65c_clear_da8c8 10 = .ok (.aload_n 0, 1) := by decide +kernel
theorem dJx4a65c_clear_da8c8_11 : decode cJx4a65c_clear_da8c8 11 = .ok (.getfield 9, 3) := by decide +kernel
theorem dJx4a65c_clear_da8c8_14 : decode cJx4a65c_clear_da8c8 14 = .ok (.astore_n 1, 1) := by decide +kernel
theorem dJx4a65c_clear_da8c8_15 : decode cJx4a65c_clear_da8c8 15 = .ok (.aload_n 0, 1) := by decide +kernel
theorem dJx4a65c_clear_da8c8_16 : decode cJx4a65c_clear_da8c8 16 = .ok (.getfield 48, 3) := by decide +kernel
theorem dJx4a65c_clear_da8c8_19 : decode cJx4a65c_clear_da8c8 19 = .ok (.istore_n 2, 1) := by decide +kernel
theorem dJx4a65c_clear_da8c8_20 : decode cJx4a65c_clear_da8c8 20 = .ok (.aload_n 0, 1) := by decide +kernel
theorem dJx4a65c_clear_da8c8_21 : decode cJx4a65c_clear_da8c8 21 = .ok (.iconst 0, 1) := by decide +kernel
theorem dJx4a65c_clear_da8c8_22 : decode cJx4a65c_clear_da8c8 22 = .ok (.dup_x1, 1) := by decide +kernel
theorem dJx4a65c_clear_da8c8_23 : decode cJx4a65c_clear_da8c8 23 = .ok (.putfield 48, 3) := by decide +kernel
theorem dJx4a65c_clear_da8c8_26 : decode cJx4a65c_clear_da8c8 26 = .ok (.istore_n 3, 1) := by decide +kernel
theorem dJx4a65c_clear_da8c8_27 : decode cJx4a65c_clear_da8c8 27 = .ok (.iload_n 3, 1) := by decide +kernel
theorem dJx4a65c_clear_da8c8_28 : decode cJx4a65c_clear_da8c8 28 = .ok (.iload_n 2, 1) := by decide +kernel
theorem dJx4a65c_clear_da8c8_29 : decode cJx4a65c_clear_da8c8 29 = .ok (.if_icmp .ge 13, 3) := by decide +kernel
theorem dJx4a65c_clear_da8c8_32 : decode cJx4a65c_clear_da8c8 32 = .ok (.aload_n 1, 1) := by decide +kernel
theorem dJx4a65c_clear_da8c8_33 : decode cJx4a65c_clear_da8c8 33 = .ok (.iload_n 3, 1) := by decide +kernel
theorem dJx4a65c_clear_da8c8_34 : decode cJx4a65c_clear_da8c8 34 = .ok (.aconst_null, 1) := by decide +kernel
theorem dJx4a65c_clear_da8c8_35 : decode cJx4a65c_clear_da8c8 35 = .ok (.aastore, 1) := by decide +kernel
theorem dJx4a65c_clear_da8c8_36 : decode cJx4a65c_clear_da8c8 36 = .ok (.iinc 3 1, 3) := by decide +kernel
theorem dJx4a65c_clear_da8c8_39 : decode cJx4a65c_clear_da8c8 39 = .ok (.goto (-12), 3) := by decide +kernel
theorem dJx4a65c_clear_da8c8_42 : decode cJx4a65c_clear_da8c8 42 = .ok (.return_, 1) := by decide +kernel
set_option maxRecDepth 20000 in
theorem ggJ7_copyOf_1904c_J7_copyOf_6403c : GoodIn wsJ7_copyOf_1904c wsJ7_copyOf_6403c := goodIn_r _ [8, 9, 10, 11, 12, 13, 14, 15, 16, 17, 18] rfl (by decide +kernel)
set_option maxRecDepth 20000 in
theorem gJ7_copyOf_1904c_J7_copyOf_6403c : GoodIn wsJ7_copyOf_1904c (va_wsS RJ7 300 yJ7_copyOf_6403c wsJ7_copyOf_6403c) := goodIn_app (goodIn_of _ (by decide +kernel)) ggJ7_copyOf_1904c_J7_copyOf_6403c
theorem dJ7_copyOf_1904c_0 : decode cJ7_copyOf_1904c 0 = .ok (.aload_n 0, 1) := by decide +kernel
theorem dJ7_copyOf_1904c_1 : decode cJ7_copyOf_1904c 1 = .ok (.iload_n 1, 1) := by decide +kernel
theorem dJ7_copyOf_1904c_2 : decode cJ7_copyOf_1904c 2 = .ok (.aload_n 0, 1) := by decide +kernel
theorem dJ7_copyOf_1904c_3 : decode cJ7_copyOf_1904c 3 = .ok (.invokevirtual 86, 3) := by decide +kernel
theorem dJ7_copyOf_1904c_6 : decode cJ7_copyOf_1904c 6 = .ok (.invokestatic 300, 3) := by decide +kernel
theorem dJ7_copyOf_1904c_9 : decode cJ7_copyOf_1904c 9 = .ok (.areturn, 1) := by decide +kernel
theorem dJ7_copyOf_6403c_0 : decode cJ7_copyOf_6403c 0 = .ok (.aload_n 2, 1) := by decide +kernel
theorem dJ7_copyOf_6403c_1 : decode cJ7_copyOf_6403c 1 = .ok (.ldc 110, 2) := by decide +kernel
theorem dJ7_copyOf_6403c_3 : decode cJ7_copyOf_6403c 3 = .ok (.if_acmp .ne 10, 3) := by decide +kernel
theorem dJ7_copyOf_6403c_6 : decode cJ7_copyOf_6403c 6 = .ok (.iload_n 1, 1) := by decide +kernel
theorem dJ7_copyOf_6403c_7 : decode cJ7_copyOf_6403c 7 = .ok (.anewarray 2, 3) := by decide +kernel
theorem dJ7_copyOf_6403c_10 : decode cJ7_copyOf_6403c 10 = .ok (.goto 14, 3) := by decide +kernel
theorem dJ7_copyOf_6403c_13 : decode cJ7_copyOf_6403c 13 = .ok (.aload_n 2, 1) := by decide +kernel
theorem dJ7_copyOf_6403c_14 : decode cJ7_copyOf_6403c 14 = .ok (.invokevirtual 90, 3) := by decide +kernel
theorem dJ7_copyOf_6403c_17 : decode cJ7_copyOf_6403c 17 = .ok (.iload_n 1, 1) := by decide +kernel
theorem dJ7_copyOf_6403c_18 : decode cJ7_copyOf_6403c 18 = .ok (.invokestatic 95, 3) := by decide +kernel
theorem dJ7_copyOf_6403c_21 : decode cJ7_copyOf_6403c 21 = .ok (.checkcast 110, 3) := by decide +kernel
theorem dJ7_copyOf_6403c_24 : decode cJ7_copyOf_6403c 24 = .ok (.astore_n 3, 1) := by decide +kernel
theorem dJ7_copyOf_6403c_25 : decode cJ7_copyOf_6403c 25 = .ok (.aload_n 0, 1) := by decide +kernel
theorem dJ7_copyOf_6403c_26 : decode cJ7_copyOf_6403c 26 = .ok (.iconst 0, 1) := by decide +kernel
theorem dJ7_copyOf_6403c_27 : decode cJ7_copyOf_6403c 27 = .ok (.aload_n 3, 1) := by decide +kernel
theorem dJ7_copyOf_6403c_28 : decode cJ7_copyOf_6403c 28 = .ok (.iconst 0, 1) := by decide +kernel
theorem dJ7_copyOf_6403c_29 : decode cJ7_copyOf_6403c 29 = .ok (.aload_n 0, 1) := by decide +kernel
theorem dJ7_copyOf_6403c_30 : decode cJ7_copyOf_6403c 30 = .ok (.arraylength, 1) := by decide +kernel
theorem dJ7_copyOf_6403c_31 : decode cJ7_copyOf_6403c 31 = .ok (.iload_n 1, 1) := by decide +kernel
theorem dJ7_copyOf_6403c_32 : decode cJ7_copyOf_6403c 32 = .ok (.invokestatic 304, 3) := by decide +kernel
theorem dJ7_copyOf_6403c_35 : decode cJ7_copyOf_6403c 35 = .ok (.invokestatic 150, 3) := by decide +kernel
theorem dJ7_copyOf_6403c_38 : decode cJ7_copyOf_6403c 38 = .ok (.aload_n 3, 1) := by decide +kernel
theorem dJ7_copyOf_6403c_39 : decode cJ7_copyOf_6403c 39 = .ok (.areturn, 1) := by decide +kernel
set_option maxRecDepth 20000 in
theorem ggJ15_checkIndex_7cf53_J3_checkIndex_8e157 : GoodIn wsJ15_checkIndex_7cf53 wsJ3_checkIndex_8e157 := goodIn_r _ [4] rfl (by decide +kernel)
set_option maxRecDepth 20000 in
theorem gJ15_checkIndex_7cf53_J3_checkIndex_8e157 : GoodIn wsJ15_checkIndex_7cf53 (va_wsS RJ15 105 yJ3_checkIndex_8e157 wsJ3_checkIndex_8e157) := goodIn_app (goodIn_of _ (by decide +kernel)) ggJ15_checkIndex_7cf53_J3_checkIndex_8e157
theorem dJ15_checkIndex_7cf53_0 : decode cJ15_checkIndex_7cf53 0 = .ok (.iload_n 0, 1) := by decide +kernel
theorem dJ15_checkIndex_7cf53_1 : decode cJ15_checkIndex_7cf53 1 = .ok (.iload_n 1, 1) := by decide +kernel
theorem dJ15_checkIndex_7cf53_2 : decode cJ15_checkIndex_7cf53 2 = .ok (.aconst_null, 1) := by decide +kernel
theorem dJ15_checkIndex_7cf53_3 : decode cJ15_checkIndex_7cf53 3 = .ok (.invokestatic 105, 3) := by decide +kernel
theorem dJ15_checkIndex_7cf53_6 : decode cJ15_checkIndex_7cf53 6 = .ok (.ireturn, 1) := by decide +kernel
set_option maxRecDepth 20000 in
theorem ggJ8_newLength_cabcc_J8_hugeLength_7cf53 : GoodIn wsJ8_newLength_cabcc wsJ8_hugeLength_7cf53 := goodIn_r _ [9, 5] rfl (by decide +kernel)
set_option maxRecDepth 20000 in
theorem gJ8_newLength_cabcc_J8_hugeLength_7cf53 : GoodIn wsJ8_newLength_cabcc (va_wsS RJ8 201 yJ8_hugeLength_7cf53 wsJ8_hugeLength_7cf53) := goodIn_app (goodIn_of _ (by decide +kernel)) ggJ8_newLength_cabcc_J8_hugeLength_7cf53
theorem dJ8_newLength_cabcc_0 : decode cJ8_newLength_cabcc 0 = .ok (.iload_n 0, 1) := by decide +kernel
theorem dJ8_newLength_cabcc_1 : decode cJ8_newLength_cabcc 1 = .ok (.iload_n 1, 1) := by decide +kernel
theorem dJ8_newLength_cabcc_2 : decode cJ8_newLength_cabcc 2 = .ok (.iload_n 2, 1) := by decide +kernel
theorem dJ8_newLength_cabcc_3 : decode cJ8_newLength_cabcc 3 = .ok (.invokestatic 194, 3) := by decide +kernel
theorem dJ8_newLength_cabcc_6 : decode cJ8_newLength_cabcc 6 = .ok (.iadd, 1) := by decide +kernel
theorem dJ8_newLength_cabcc_7 : decode cJ8_newLength_cabcc 7 = .ok (.istore_n 3, 1) := by decide +kernel
theorem dJ8_newLength_cabcc_8 : decode cJ8_newLength_cabcc 8 = .ok (.iconst 0, 1) := by decide +kernel
theorem dJ8_newLength_cabcc_9 : decode cJ8_newLength_cabcc 9 = .ok (.iload_n 3, 1) := by decide +kernel
theorem dJ8_newLength_cabcc_10 : decode cJ8_newLength_cabcc 10 = .ok (.if_icmp .ge 11, 3) := by decide +kernel
theorem dJ8_newLength_cabcc_13 : decode cJ8_newLength_cabcc 13 = .ok (.iload_n 3, 1) := by decide +kernel
theorem dJ8_newLength_cabcc_14 : decode cJ8_newLength_cabcc 14 = .ok (.ldc 200, 2) := by decide +kernel
theorem dJ8_newLength_cabcc_16 : decode cJ8_newLength_cabcc 16 = .ok (.if_icmp .gt 5, 3) := by decide +kernel
theorem dJ8_newLength_cabcc_19 : decode cJ8_newLength_cabcc 19 = .ok (.iload_n 3, 1) := by decide +kernel
theorem dJ8_newLength_cabcc_20 : decode cJ8_newLength_cabcc 20 = .ok (.ireturn, 1) := by decide +kernel
theorem dJ8_newLength_cabcc_21 : decode cJ8_newLength_cabcc 21 = .ok (.iload_n 0, 1) := by decide +kernel
theorem dJ8_newLength_cabcc_22 : decode cJ8_newLength_cabcc 22 = .ok (.iload_n 1, 1) := by decide +kernel
theorem dJ8_newLength_cabcc_23 : decode cJ8_newLength_cabcc 23 = .ok (.invokestatic 201, 3) := by decide +kernel
theorem dJ8_newLength_cabcc_26 : decode cJ8_newLength_cabcc 26 = .ok (.ireturn, 1) := by decide +kernel
theorem dJ8_hugeLength_7cf53_0 : decode cJ8_hugeLength_7cf53 0 = .ok (.iload_n 0, 1) := by decide +kernel
theorem dJ8_hugeLength_7cf53_1 : decode cJ8_hugeLength_7cf53 1 = .ok (.iload_n 1, 1) := by decide +kernel
theorem dJ8_hugeLength_7cf53_2 : decode cJ8_hugeLength_7cf53 2 = .ok (.iadd, 1) := by decide +kernel
theorem dJ8_hugeLength_7cf53_3 : decode cJ8_hugeLength_7cf53 3 = .ok (.istore_n 2, 1) := by decide +kernel
theorem dJ8_hugeLength_7cf53_4 : decode cJ8_hugeLength_7cf53 4 = .ok (.iload_n 2, 1) := by decide +kernel
theorem dJ8_hugeLength_7cf53_5 : decode cJ8_hugeLength_7cf53 5 = .ok (.ifCond .ge 44, 3) := by decide +kernel
theorem dJ8_hugeLength_7cf53_8 : decode cJ8_hugeLength_7cf53 8 = .ok (.new 204, 3) := by decide +kernel
theorem dJ8_hugeLength_7cf53_11 : decode cJ8_hugeLength_7cf53 11 = .ok (.dup, 1) := by decide +kernel
theorem dJ8_hugeLength_7cf53_12 : decode cJ8_hugeLength_7cf53 12 = .ok (.new 89, 3) := by decide +kernel
theorem dJ8_hugeLength_7cf53_15 : decode cJ8_hugeLength_7cf53 15 = .ok (.dup, 1) := by decide +kernel
theorem dJ8_hugeLength_7cf53_16 : decode cJ8_hugeLength_7cf53 16 = .ok (.invokespecial 91, 3) := by decide +kernel
theorem dJ8_hugeLength_7cf53_19 : decode cJ8_hugeLength_7cf53 19 = .ok (.ldc 206, 2) := by decide +kernel
theorem dJ8_hugeLength_7cf53_21 : decode cJ8_hugeLength_7cf53 21 = .ok (.invokevirtual 94, 3) := by decide +kernel
theorem dJ8_hugeLength_7cf53_24 : decode cJ8_hugeLength_7cf53 24 = .ok (.iload_n 0, 1) := by decide +kernel
theorem dJ8_hugeLength_7cf53_25 : decode cJ8_hugeLength_7cf53 25 = .ok (.invokevirtual 98, 3) := by decide +kernel
theorem dJ8_hugeLength_7cf53_28 : decode cJ8_hugeLength_7cf53 28 = .ok (.ldc 208, 2) := by decide +kernel
theorem dJ8_hugeLength_7cf53_30 : decode cJ8_hugeLength_7cf53 30 = .ok (.invokevirtual 94, 3) := by decide +kernel
theorem dJ8_hugeLength_7cf53_33 : decode cJ8_hugeLength_7cf53 33 = .ok (.iload_n 1, 1) := by decide +kernel
theorem dJ8_hugeLength_7cf53_34 : decode cJ8_hugeLength_7cf53 34 = .ok (.invokevirtual 98, 3) := by decide +kernel
theorem dJ8_hugeLength_7cf53_37 : decode cJ8_hugeLength_7cf53 37 = .ok (.ldc 210, 2) := by decide +kernel
theorem dJ8_hugeLength_7cf53_39 : decode cJ8_hugeLength_7cf53 39 = .ok (.invokevirtual 94, 3) := by decide +kernel
theorem dJ8_hugeLength_7cf53_42 : decode cJ8_hugeLength_7cf53 42 = .ok (.invokevirtual 101, 3) := by decide +kernel
theorem dJ8_hugeLength_7cf53_45 : decode cJ8_hugeLength_7cf53 45 = .ok (.invokespecial 212, 3) := by decide +kernel
theorem dJ8_hugeLength_7cf53_48 : decode cJ8_hugeLength_7cf53 48 = .ok (.athrow, 1) := by decide +kernel
theorem dJ8_hugeLength_7cf53_49 : decode cJ8_hugeLength_7cf53 49 = .ok (.iload_n 2, 1) := by decide +kernel
theorem dJ8_hugeLength_7cf53_50 : decode cJ8_hugeLength_7cf53 50 = .ok (.ldc 200, 2) := by decide +kernel
theorem dJ8_hugeLength_7cf53_52 : decode cJ8_hugeLength_7cf53 52 = .ok (.if_icmp .gt 6, 3) := by decide +kernel
theorem dJ8_hugeLength_7cf53_55 : decode cJ8_hugeLength_7cf53 55 = .ok (.ldc 200, 2) := by decide +kernel
theorem dJ8_hugeLength_7cf53_57 : decode cJ8_hugeLength_7cf53 57 = .ok (.ireturn, 1) := by decide +kernel
theorem dJ8_hugeLength_7cf53_58 : decode cJ8_hugeLength_7cf53 58 = .ok (.iload_n 2, 1) := by decide +kernel
theorem dJ8_hugeLength_7cf53_59 : decode cJ8_hugeLength_7cf53 59 = .ok (.ireturn, 1) := by decide +kernel
theorem dJ3_checkIndex_8e157_0 : decode cJ3_checkIndex_8e157 0 = .ok (.iload_n 0, 1) := by decide +kernel
theorem dJ3_checkIndex_8e157_1 : decode cJ3_checkIndex_8e157 1 = .ok (.ifCond .lt 8, 3) := by decide +kernel
theorem dJ3_checkIndex_8e157_4 : decode cJ3_checkIndex_8e157 4 = .ok (.iload_n 0, 1) := by decide +kernel
theorem dJ3_checkIndex_8e157_5 : decode cJ3_checkIndex_8e157 5 = .ok (.iload_n 1, 1) := by decide +kernel
theorem dJ3_checkIndex_8e157_6 : decode cJ3_checkIndex_8e157 6 = .ok (.if_icmp .lt 10, 3) := by decide +kernel
theorem dJ3_checkIndex_8e157_9 : decode cJ3_checkIndex_8e157 9 = .ok (.aload_n 2, 1) := by decide +kernel
theorem dJ3_checkIndex_8e157_10 : decode cJ3_checkIndex_8e157 10 = .ok (.iload_n 0, 1) := by decide +kernel
theorem dJ3_checkIndex_8e157_11 : decode cJ3_checkIndex_8e157 11 = .ok (.iload_n 1, 1) := by decide +kernel
theorem dJ3_checkIndex_8e157_12 : decode cJ3_checkIndex_8e157 12 = .ok (.invokestatic 95, 3) := by decide +kernel
theorem dJ3_checkIndex_8e157_15 : decode cJ3_checkIndex_8e157 15 = .ok (.athrow, 1) := by decide +kernel
theorem dJ3_checkIndex_8e157_16 : decode cJ3_checkIndex_8e157 16 = .ok (.iload_n 0, 1) := by decide +kernel
theorem dJ3_checkIndex_8e157_17 : decode cJ3_checkIndex_8e157 17 = .ok (.ireturn, 1) := by decide +kernel
set_option maxRecDepth 20000 in
theorem ggL_body_X3_body : GoodIn wsL_body wsX3_body := goodIn_ca (goodIn_ca (goodIn_r _ [7, 8, 9, 10, 11, 12, 13, 14, 15, 16, 17, 18, 6, 19, 20, 21, 22, 23, 24, 25, 26, 27, 28, 29, 30, 31, 32, 33, 34, 35, 36, 37, 38, 39, 40, 41, 42, 43, 44, 45, 46, 47, 48, 49, 50, 51, 52, 53, 54, 55, 56, 57, 58, 59, 60, 61, 62, 63, 64, 65, 66, 67, 68, 69, 70, 71, 72, 73, 74, 75, 76, 77, 78, 79, 80, 81, 82, 83, 84, 85, 86, 87, 88, 89, 90, 91, 92, 93, 94, 95, 96, 97, 98, 99, 100, 101, 102, 103, 104, 105, 106, 107, 108, 109, 110, 111, 112, 113, 114, 115, 116, 117, 118, 119, 120, 121, 122, 123, 124, 125, 126, 127, 128, 129, 130, 131, 132, 133, 134, 135, 136, 137, 138] rfl (by decide +kernel)) (goodIn_sub (fun _ h => List.mem_cons_of_mem _ (List.mem_append_left _ (List.mem_append_right _ h))) (by decide +kernel))) (goodIn_sub (fun _ h => List.mem_cons_of_mem _ (List.mem_append_right _ h)) (by decide +kernel))
set_option maxRecDepth 20000 in
theorem gL_body_X3_body : GoodIn wsL_body (wsV RL 7 RX3 yX3_body wsX3_body) := goodIn_app (goodIn_of _ (by decide +kernel)) ggL_body_X3_body
theorem dL_body_0 : decode cL_body 0 = .ok (.aload 5, 2) := by decide +kernel
theorem dL_body_2 : decode cL_body 2 = .ok (.iconst 0, 1) := by decide +kernel
theorem dL_body_3 : decode cL_body 3 = .ok (.aload_n 0, 1) := by decide +kernel
theorem dL_body_4 : decode cL_body 4 = .ok (.fload_n 1, 1) := by decide +kernel
theorem dL_body_5 : decode cL_body 5 = .ok (.fload_n 2, 1) := by decide +kernel
theorem dL_body_6 : decode cL_body 6 = .ok (.fload_n 3, 1) := by decide +kernel
theorem dL_body_7 : decode cL_body 7 = .ok (.fload 4, 2) := by decide +kernel
theorem dL_body_9 : decode cL_body 9 = .ok (.invokevirtual 7, 3) := by decide +kernel
theorem dL_body_12 : decode cL_body 12 = .ok (.i2l, 1) := by decide +kernel
theorem dL_body_13 : decode cL_body 13 = .ok (.lastore, 1) := by decide +kernel
theorem dL_body_14 : decode cL_body 14 = .ok (.goto 11, 3) := by decide +kernel
theorem dL_body_17 : decode cL_body 17 = .ok (.astore 6, 2) := by decide +kernel
theorem dL_body_19 : decode cL_body 19 = .ok (.iconst 1, 1) := by decide +kernel
theorem dL_body_20 : decode cL_body 20 = .ok (.ireturn, 1) := by decide +kernel
theorem dL_body_21 : decode cL_body 21 = .ok (.astore 6, 2) := by decide +kernel
theorem dL_body_23 : decode cL_body 23 = .ok (.iconst 2, 1) := by decide +kernel
theorem dL_body_24 : decode cL_body 24 = .ok (.ireturn, 1) := by decide +kernel
theorem dL_body_25 : decode cL_body 25 = .ok (.iconst 0, 1) := by decide +kernel
theorem dL_body_26 : decode cL_body 26 = .ok (.ireturn, 1) := by decide +kernel
set_option maxRecDepth 20000 in
theorem ggL_lean_X3_lean : GoodIn wsL_lean wsX3_lean := goodIn_ca (goodIn_ca (goodIn_r _ [7, 8, 9, 10, 11, 12, 13, 14, 15, 16, 17, 6, 18, 19, 20, 21, 22, 23, 24, 25, 26, 27, 28, 29, 30, 31, 32, 33, 34, 35, 36, 37, 38, 39, 40, 41, 42, 43, 44, 45, 46, 47, 48, 49, 50, 51, 52, 53, 54, 55, 56, 57, 58, 59, 60, 61, 62, 63, 64, 65, 66, 67, 68, 69, 70, 71, 72, 73, 74, 75, 76, 77, 78, 79, 80, 81, 82, 83, 84, 85, 86, 87, 88, 89, 90, 91, 92, 93, 94] rfl (by decide +kernel)) (goodIn_sub (fun _ h => List.mem_cons_of_mem _ (List.mem_append_left _ (List.mem_append_right _ h))) (by decide +kernel))) (goodIn_sub (fun _ h => List.mem_cons_of_mem _ (List.mem_append_right _ h)) (by decide +kernel))
set_option maxRecDepth 20000 in
theorem gL_lean_X3_lean : GoodIn wsL_lean (wsV RL 17 RX3 yX3_lean wsX3_lean) := goodIn_app (goodIn_of _ (by decide +kernel)) ggL_lean_X3_lean
theorem dL_lean_0 : decode cL_lean 0 = .ok (.aload_n 0, 1) := by decide +kernel
theorem dL_lean_1 : decode cL_lean 1 = .ok (.iload_n 1, 1) := by decide +kernel
theorem dL_lean_2 : decode cL_lean 2 = .ok (.fload_n 2, 1) := by decide +kernel
theorem dL_lean_3 : decode cL_lean 3 = .ok (.fload_n 3, 1) := by decide +kernel
theorem dL_lean_4 : decode cL_lean 4 = .ok (.fload 4, 2) := by decide +kernel
theorem dL_lean_6 : decode cL_lean 6 = .ok (.invokevirtual 17, 3) := by decide +kernel
theorem dL_lean_9 : decode cL_lean 9 = .ok (.goto 11, 3) := by decide +kernel
theorem dL_lean_12 : decode cL_lean 12 = .ok (.astore 5, 2) := by decide +kernel
theorem dL_lean_14 : decode cL_lean 14 = .ok (.iconst 1, 1) := by decide +kernel
theorem dL_lean_15 : decode cL_lean 15 = .ok (.ireturn, 1) := by decide +kernel
theorem dL_lean_16 : decode cL_lean 16 = .ok (.astore 5, 2) := by decide +kernel
theorem dL_lean_18 : decode cL_lean 18 = .ok (.iconst 2, 1) := by decide +kernel
theorem dL_lean_19 : decode cL_lean 19 = .ok (.ireturn, 1) := by decide +kernel
theorem dL_lean_20 : decode cL_lean 20 = .ok (.iconst 0, 1) := by decide +kernel
theorem dL_lean_21 : decode cL_lean 21 = .ok (.ireturn, 1) := by decide +kernel
set_option maxRecDepth 20000 in
theorem ggL_set_X3_set : GoodIn wsL_set wsX3_set := goodIn_ca (goodIn_ca (goodIn_r _ [7, 8, 9, 10, 11, 12, 13, 14, 15, 6, 16, 17, 18, 19, 20, 21, 22, 23, 24, 25, 26, 27, 28, 29, 30, 31, 32, 33, 34, 35, 36, 37, 38, 39, 40, 41, 42, 43, 44, 45, 46, 47, 48, 49, 50, 51, 52, 53, 54, 55, 56, 57, 58, 59, 60, 61, 62, 63, 64, 65, 66, 67, 68, 69, 70, 71, 72, 73, 74, 75, 76, 77, 78, 79, 80, 81, 82, 83, 84, 85, 86, 87, 88, 89, 90, 91, 92, 93, 94, 95, 96, 97, 98, 99, 100, 101, 102, 103, 104, 105, 106] rfl (by decide +kernel)) (goodIn_sub (fun _ h => List.mem_cons_of_mem _ (List.mem_append_left _ (List.mem_append_right _ h))) (by decide +kernel))) (goodIn_sub (fun _ h => List.mem_cons_of_mem _ (List.mem_append_right _ h)) (by decide +kernel))
set_option maxRecDepth 20000 in
theorem gL_set_X3_set : GoodIn wsL_set (wsV RL 23 RX3 yX3_set wsX3_set) := goodIn_app (goodIn_of _ (by decide +kernel)) ggL_set_X3_set
theorem dL_set_0 : decode cL_set 0 = .ok (.aload_n 0, 1) := by decide +kernel
theorem dL_set_1 : decode cL_set 1 = .ok (.iload_n 1, 1) := by decide +kernel
theorem dL_set_2 : decode cL_set 2 = .ok (.fload_n 2, 1) := by decide +kernel
theorem dL_set_3 : decode cL_set 3 = .ok (.fload_n 3, 1) := by decide +kernel
theorem dL_set_4 : decode cL_set 4 = .ok (.fload 4, 2) := by decide +kernel
theorem dL_set_6 : decode cL_set 6 = .ok (.fload 5, 2) := by decide +kernel
theorem dL_set_8 : decode cL_set 8 = .ok (.fload 6, 2) := by decide +kernel
theorem dL_set_10 : decode cL_set 10 = .ok (.fload 7, 2) := by decide +kernel
theorem dL_set_12 : decode cL_set 12 = .ok (.invokevirtual 23, 3) := by decide +kernel
theorem dL_set_15 : decode cL_set 15 = .ok (.goto 11, 3) := by decide +kernel
theorem dL_set_18 : decode cL_set 18 = .ok (.astore 8, 2) := by decide +kernel
theorem dL_set_20 : decode cL_set 20 = .ok (.iconst 1, 1) := by decide +kernel
theorem dL_set_21 : decode cL_set 21 = .ok (.ireturn, 1) := by decide +kernel
theorem dL_set_22 : decode cL_set 22 = .ok (.astore 8, 2) := by decide +kernel
theorem dL_set_24 : decode cL_set 24 = .ok (.iconst 2, 1) := by decide +kernel
theorem dL_set_25 : decode cL_set 25 = .ok (.ireturn, 1) := by decide +kernel
theorem dL_set_26 : decode cL_set 26 = .ok (.iconst 0, 1) := by decide +kernel
theorem dL_set_27 : decode cL_set 27 = .ok (.ireturn, 1) := by decide +kernel
set_option maxRecDepth 20000 in
theorem ggL_gain_X3_gain : GoodIn wsL_gain wsX3_gain := goodIn_ca (goodIn_ca (goodIn_r _ [7, 8, 9, 10, 11, 12, 13, 14, 15, 16, 17, 18, 19, 20, 21, 22, 6, 23, 24, 25, 26, 27, 28, 29, 30, 31, 32, 33, 34, 35, 36, 37, 38, 39, 40, 41, 42, 43, 44, 45, 46, 47, 48, 49, 50, 51, 52, 53, 54, 55, 56, 57, 58, 59, 60, 61, 62, 63, 64, 65, 66, 67, 68, 69, 70, 71, 72, 73, 74, 75, 76, 77, 78, 79, 80, 81, 82, 83, 84, 85, 86, 87, 88, 89, 90, 91, 92, 93, 94, 95, 96, 97, 98, 99, 100, 101, 102, 103, 104, 105] rfl (by decide +kernel)) (goodIn_sub (fun _ h => List.mem_cons_of_mem _ (List.mem_append_left _ (List.mem_append_right _ h))) (by decide +kernel))) (goodIn_sub (fun _ h => List.mem_cons_of_mem _ (List.mem_append_right _ h)) (by decide +kernel))
set_option maxRecDepth 20000 in
theorem gL_gain_X3_gain : GoodIn wsL_gain (wsV RL 27 RX3 yX3_gain wsX3_gain) := goodIn_app (goodIn_of _ (by decide +kernel)) ggL_gain_X3_gain
theorem dL_gain_0 : decode cL_gain 0 = .ok (.aload 6, 2) := by decide +kernel
theorem dL_gain_2 : decode cL_gain 2 = .ok (.iconst 0, 1) := by decide +kernel
theorem dL_gain_3 : decode cL_gain 3 = .ok (.aload_n 0, 1) := by decide +kernel
theorem dL_gain_4 : decode cL_gain 4 = .ok (.iload_n 1, 1) := by decide +kernel
theorem dL_gain_5 : decode cL_gain 5 = .ok (.iload_n 2, 1) := by decide +kernel
theorem dL_gain_6 : decode cL_gain 6 = .ok (.fload_n 3, 1) := by decide +kernel
theorem dL_gain_7 : decode cL_gain 7 = .ok (.fload 4, 2) := by decide +kernel
theorem dL_gain_9 : decode cL_gain 9 = .ok (.fload 5, 2) := by decide +kernel
theorem dL_gain_11 : decode cL_gain 11 = .ok (.invokevirtual 27, 3) := by decide +kernel
theorem dL_gain_14 : decode cL_gain 14 = .ok (.i2l, 1) := by decide +kernel
theorem dL_gain_15 : decode cL_gain 15 = .ok (.lastore, 1) := by decide +kernel
theorem dL_gain_16 : decode cL_gain 16 = .ok (.goto 11, 3) := by decide +kernel
theorem dL_gain_19 : decode cL_gain 19 = .ok (.astore 7, 2) := by decide +kernel
theorem dL_gain_21 : decode cL_gain 21 = .ok (.iconst 1, 1) := by decide +kernel
theorem dL_gain_22 : decode cL_gain 22 = .ok (.ireturn, 1) := by decide +kernel
theorem dL_gain_23 : decode cL_gain 23 = .ok (.astore 7, 2) := by decide +kernel
theorem dL_gain_25 : decode cL_gain 25 = .ok (.iconst 2, 1) := by decide +kernel
theorem dL_gain_26 : decode cL_gain 26 = .ok (.ireturn, 1) := by decide +kernel
theorem dL_gain_27 : decode cL_gain 27 = .ok (.iconst 0, 1) := by decide +kernel
theorem dL_gain_28 : decode cL_gain 28 = .ok (.ireturn, 1) := by decide +kernel
set_option maxRecDepth 20000 in
theorem ggL_wake_X3_wake : GoodIn wsL_wake wsX3_wake := goodIn_ca (goodIn_r _ [6, 7, 8, 9, 10, 5, 11, 12, 13, 14, 15, 16, 17, 18, 19, 20, 21, 22, 23, 24, 25, 26, 27, 28, 29, 30, 31, 32, 33, 34, 35, 36, 37, 38, 39, 40, 41, 42, 43, 44, 45, 46, 47, 48, 49, 50, 51, 52, 53, 54, 55, 56, 57, 58, 59, 60, 61, 62, 63, 64, 65, 66, 67, 68, 69, 70, 71, 72, 73, 74, 75, 76, 77, 78, 79, 80, 81, 82, 83, 84] rfl (by decide +kernel)) (goodIn_sub (fun _ h => List.mem_cons_of_mem _ (List.mem_append_right _ h)) (by decide +kernel))
set_option maxRecDepth 20000 in
theorem gL_wake_X3_wake : GoodIn wsL_wake (wsV RL 31 RX3 yX3_wake wsX3_wake) := goodIn_app (goodIn_of _ (by decide +kernel)) ggL_wake_X3_wake
theorem dL_wake_0 : decode cL_wake 0 = .ok (.aload_n 2, 1) := by decide +kernel
theorem dL_wake_1 : decode cL_wake 1 = .ok (.iconst 0, 1) := by decide +kernel
theorem dL_wake_2 : decode cL_wake 2 = .ok (.aload_n 0, 1) := by decide +kernel
theorem dL_wake_3 : decode cL_wake 3 = .ok (.iload_n 1, 1) := by decide +kernel
theorem dL_wake_4 : decode cL_wake 4 = .ok (.invokevirtual 31, 3) := by decide +kernel
theorem dL_wake_7 : decode cL_wake 7 = .ok (.ifCond .eq 7, 3) := by decide +kernel
theorem dL_wake_10 : decode cL_wake 10 = .ok (.lconst 1, 1) := by decide +kernel
theorem dL_wake_11 : decode cL_wake 11 = .ok (.goto 4, 3) := by decide +kernel
theorem dL_wake_14 : decode cL_wake 14 = .ok (.lconst 0, 1) := by decide +kernel
theorem dL_wake_15 : decode cL_wake 15 = .ok (.lastore, 1) := by decide +kernel
theorem dL_wake_16 : decode cL_wake 16 = .ok (.goto 6, 3) := by decide +kernel
theorem dL_wake_19 : decode cL_wake 19 = .ok (.astore_n 3, 1) := by decide +kernel
theorem dL_wake_20 : decode cL_wake 20 = .ok (.iconst 1, 1) := by decide +kernel
theorem dL_wake_21 : decode cL_wake 21 = .ok (.ireturn, 1) := by decide +kernel
theorem dL_wake_22 : decode cL_wake 22 = .ok (.iconst 0, 1) := by decide +kernel
theorem dL_wake_23 : decode cL_wake 23 = .ok (.ireturn, 1) := by decide +kernel
set_option maxRecDepth 20000 in
theorem ggL_vector_X3_vector : GoodIn wsL_vector wsX3_vector := goodIn_ca (goodIn_ca (goodIn_r _ [7, 8, 9, 10, 11, 12, 13, 14, 15, 16, 17, 6, 18, 19, 20, 21, 22, 23, 24, 25, 26, 27, 28, 29, 30, 31, 32, 33, 34, 35, 36, 37, 38, 39, 40, 41, 42, 43, 44, 45, 46, 47, 48] rfl (by decide +kernel)) (goodIn_sub (fun _ h => List.mem_cons_of_mem _ (List.mem_append_left _ (List.mem_append_right _ h))) (by decide +kernel))) (goodIn_sub (fun _ h => List.mem_cons_of_mem _ (List.mem_append_right _ h)) (by decide +kernel))
set_option maxRecDepth 20000 in
theorem gL_vector_X3_vector : GoodIn wsL_vector (wsV RL 35 RX3 yX3_vector wsX3_vector) := goodIn_app (goodIn_of _ (by decide +kernel)) ggL_vector_X3_vector
theorem dL_vector_0 : decode cL_vector 0 = .ok (.aload_n 0, 1) := by decide +kernel
theorem dL_vector_1 : decode cL_vector 1 = .ok (.iload_n 1, 1) := by decide +kernel
theorem dL_vector_2 : decode cL_vector 2 = .ok (.fload_n 2, 1) := by decide +kernel
theorem dL_vector_3 : decode cL_vector 3 = .ok (.fload_n 3, 1) := by decide +kernel
theorem dL_vector_4 : decode cL_vector 4 = .ok (.fload 4, 2) := by decide +kernel
theorem dL_vector_6 : decode cL_vector 6 = .ok (.invokevirtual 35, 3) := by decide +kernel
theorem dL_vector_9 : decode cL_vector 9 = .ok (.goto 11, 3) := by decide +kernel
theorem dL_vector_12 : decode cL_vector 12 = .ok (.astore 5, 2) := by decide +kernel
theorem dL_vector_14 : decode cL_vector 14 = .ok (.iconst 1, 1) := by decide +kernel
theorem dL_vector_15 : decode cL_vector 15 = .ok (.ireturn, 1) := by decide +kernel
theorem dL_vector_16 : decode cL_vector 16 = .ok (.astore 5, 2) := by decide +kernel
theorem dL_vector_18 : decode cL_vector 18 = .ok (.iconst 2, 1) := by decide +kernel
theorem dL_vector_19 : decode cL_vector 19 = .ok (.ireturn, 1) := by decide +kernel
theorem dL_vector_20 : decode cL_vector 20 = .ok (.iconst 0, 1) := by decide +kernel
theorem dL_vector_21 : decode cL_vector 21 = .ok (.ireturn, 1) := by decide +kernel
set_option maxRecDepth 20000 in
theorem ggL_row_X3_row : GoodIn wsL_row wsX3_row := goodIn_ca (goodIn_ca (goodIn_ca (goodIn_r _ [8, 9, 10, 11, 12, 13, 14, 15, 16, 17, 18, 19, 20, 21, 7, 22, 23, 24, 25, 26, 27, 28, 29, 30, 31, 32, 33, 34, 35, 36, 37, 38, 39, 40, 41, 42, 43, 44, 45, 46, 47, 48, 49, 50, 51, 52, 53, 54, 55, 56, 57, 58, 59, 60, 61, 62, 63, 64, 65, 66, 67, 68, 69, 70, 71, 72, 73, 74, 75, 76, 77, 78, 79, 80, 81, 82, 83, 84, 85, 86, 87, 88, 89, 90, 91, 92, 93, 94, 95, 96, 97, 98, 99, 100, 101, 102, 103, 104, 105, 106, 107, 108, 109, 110, 111, 112, 113, 114, 115, 116, 117, 118, 119, 120, 121, 122, 123, 124, 125, 126, 127, 128, 129, 130, 131, 132, 133, 134, 135, 136, 137, 138, 139, 140, 141, 142, 143, 144, 145, 146, 147, 148, 149, 150, 151, 152, 153, 154, 155, 156, 157, 158, 159, 160, 161, 162, 163, 164, 165, 166, 167, 168, 169, 170, 171, 172, 173, 174, 175, 176, 177, 178, 179, 180, 181, 182, 183, 184, 185, 186, 187, 188, 189, 190, 191, 192, 193, 194, 195, 196, 197, 198, 199, 200, 201, 202, 203, 204, 205, 206, 207, 208, 209, 210, 211, 212, 213, 214, 215, 216, 217, 218, 219, 220, 221, 222, 223, 224, 225, 226, 227, 228, 229, 230, 231, 232, 233, 234, 235, 236, 237, 238, 239, 240, 241, 242, 243, 244, 245, 246, 247, 248, 249, 250, 251, 252, 253, 254, 255, 256, 257, 258, 259, 260] rfl (by decide +kernel)) (goodIn_sub (fun _ h => List.mem_cons_of_mem _ (List.mem_append_left _ (List.mem_append_left _ (List.mem_append_right _ h)))) (by decide +kernel))) (goodIn_sub (fun _ h => List.mem_cons_of_mem _ (List.mem_append_left _ (List.mem_append_right _ h))) (by decide +kernel))) (goodIn_sub (fun _ h => List.mem_cons_of_mem _ (List.mem_append_right _ h)) (by decide +kernel))
set_option maxRecDepth 20000 in
theorem gL_row_X3_row : GoodIn wsL_row (wsV RL 38 RX3 yX3_row wsX3_row) := goodIn_app (goodIn_of _ (by decide +kernel)) ggL_row_X3_row
theorem dL_row_0 : decode cL_row 0 = .ok (.aload 8, 2) := by decide +kernel
theorem dL_row_2 : decode cL_row 2 = .ok (.iconst 0, 1) := by decide +kernel
theorem dL_row_3 : decode cL_row 3 = .ok (.aload_n 0, 1) := by decide +kernel
theorem dL_row_4 : decode cL_row 4 = .ok (.iload_n 1, 1) := by decide +kernel
theorem dL_row_5 : decode cL_row 5 = .ok (.iload_n 2, 1) := by decide +kernel
theorem dL_row_6 : decode cL_row 6 = .ok (.fload_n 3, 1) := by decide +kernel
theorem dL_row_7 : decode cL_row 7 = .ok (.fload 4, 2) := by decide +kernel
theorem dL_row_9 : decode cL_row 9 = .ok (.fload 5, 2) := by decide +kernel
theorem dL_row_11 : decode cL_row 11 = .ok (.fload 6, 2) := by decide +kernel
theorem dL_row_13 : decode cL_row 13 = .ok (.iload 7, 2) := by decide +kernel
theorem dL_row_15 : decode cL_row 15 = .ok (.invokevirtual 38, 3) := by decide +kernel
theorem dL_row_18 : decode cL_row 18 = .ok (.i2l, 1) := by decide +kernel
theorem dL_row_19 : decode cL_row 19 = .ok (.lastore, 1) := by decide +kernel
theorem dL_row_20 : decode cL_row 20 = .ok (.goto 15, 3) := by decide +kernel
theorem dL_row_23 : decode cL_row 23 = .ok (.astore 9, 2) := by decide +kernel
theorem dL_row_25 : decode cL_row 25 = .ok (.iconst 1, 1) := by decide +kernel
theorem dL_row_26 : decode cL_row 26 = .ok (.ireturn, 1) := by decide +kernel
theorem dL_row_27 : decode cL_row 27 = .ok (.astore 9, 2) := by decide +kernel
theorem dL_row_29 : decode cL_row 29 = .ok (.iconst 2, 1) := by decide +kernel
theorem dL_row_30 : decode cL_row 30 = .ok (.ireturn, 1) := by decide +kernel
theorem dL_row_31 : decode cL_row 31 = .ok (.astore 9, 2) := by decide +kernel
theorem dL_row_33 : decode cL_row 33 = .ok (.iconst 3, 1) := by decide +kernel
theorem dL_row_34 : decode cL_row 34 = .ok (.ireturn, 1) := by decide +kernel
theorem dL_row_35 : decode cL_row 35 = .ok (.iconst 0, 1) := by decide +kernel
theorem dL_row_36 : decode cL_row 36 = .ok (.ireturn, 1) := by decide +kernel
set_option maxRecDepth 20000 in
theorem ggL_rub_X3_rub : GoodIn wsL_rub wsX3_rub := goodIn_ca (goodIn_ca (goodIn_ca (goodIn_r _ [8, 9, 10, 11, 12, 13, 14, 15, 16, 17, 18, 19, 20, 7, 21, 22, 23, 24, 25, 26, 27, 28, 29, 30, 31, 32, 33, 34, 35, 36, 37, 38, 39, 40, 41, 42, 43, 44, 45, 46, 47, 48, 49, 50, 51, 52, 53, 54, 55, 56, 57, 58, 59, 60, 61, 62, 63, 64, 65, 66, 67, 68, 69, 70, 71, 72, 73, 74, 75, 76, 77, 78, 79, 80, 81, 82, 83, 84, 85, 86, 87, 88, 89, 90, 91, 92, 93, 94, 95, 96, 97, 98, 99, 100, 101, 102, 103, 104, 105, 106, 107, 108, 109, 110, 111, 112, 113, 114, 115, 116, 117, 118, 119, 120, 121, 122, 123, 124, 125, 126, 127, 128, 129, 130, 131, 132, 133, 134, 135, 136, 137, 138, 139, 140, 141, 142, 143, 144, 145, 146, 147, 148, 149, 150, 151, 152, 153, 154, 155, 156, 157, 158, 159, 160, 161, 162, 163, 164, 165, 166, 167, 168, 169, 170, 171, 172, 173, 174, 175, 176, 177, 178, 179, 180, 181, 182, 183, 184, 185, 186, 187, 188, 189, 190, 191, 192, 193, 194, 195, 196, 197, 198, 199, 200, 201, 202, 203, 204, 205, 206, 207, 208, 209, 210, 211, 212, 213, 214, 215, 216, 217, 218, 219, 220, 221, 222, 223, 224, 225, 226, 227, 228, 229, 230, 231, 232, 233, 234, 235, 236, 237, 238, 239, 240, 241, 242, 243, 244, 245, 246, 247, 248, 249, 250, 251, 252, 253, 254, 255, 256, 257, 258, 259, 260, 261, 262, 263] rfl (by decide +kernel)) (goodIn_sub (fun _ h => List.mem_cons_of_mem _ (List.mem_append_left _ (List.mem_append_left _ (List.mem_append_right _ h)))) (by decide +kernel))) (goodIn_sub (fun _ h => List.mem_cons_of_mem _ (List.mem_append_left _ (List.mem_append_right _ h))) (by decide +kernel))) (goodIn_sub (fun _ h => List.mem_cons_of_mem _ (List.mem_append_right _ h)) (by decide +kernel))
set_option maxRecDepth 20000 in
theorem gL_rub_X3_rub : GoodIn wsL_rub (wsV RL 42 RX3 yX3_rub wsX3_rub) := goodIn_app (goodIn_of _ (by decide +kernel)) ggL_rub_X3_rub
theorem dL_rub_0 : decode cL_rub 0 = .ok (.aload 7, 2) := by decide +kernel
theorem dL_rub_2 : decode cL_rub 2 = .ok (.iconst 0, 1) := by decide +kernel
theorem dL_rub_3 : decode cL_rub 3 = .ok (.aload_n 0, 1) := by decide +kernel
theorem dL_rub_4 : decode cL_rub 4 = .ok (.iload_n 1, 1) := by decide +kernel
theorem dL_rub_5 : decode cL_rub 5 = .ok (.iload_n 2, 1) := by decide +kernel
theorem dL_rub_6 : decode cL_rub 6 = .ok (.fload_n 3, 1) := by decide +kernel
theorem dL_rub_7 : decode cL_rub 7 = .ok (.iload 4, 2) := by decide +kernel
theorem dL_rub_9 : decode cL_rub 9 = .ok (.fload 5, 2) := by decide +kernel
theorem dL_rub_11 : decode cL_rub 11 = .ok (.iload 6, 2) := by decide +kernel
theorem dL_rub_13 : decode cL_rub 13 = .ok (.invokevirtual 42, 3) := by decide +kernel
theorem dL_rub_16 : decode cL_rub 16 = .ok (.i2l, 1) := by decide +kernel
theorem dL_rub_17 : decode cL_rub 17 = .ok (.lastore, 1) := by decide +kernel
theorem dL_rub_18 : decode cL_rub 18 = .ok (.goto 15, 3) := by decide +kernel
theorem dL_rub_21 : decode cL_rub 21 = .ok (.astore 8, 2) := by decide +kernel
theorem dL_rub_23 : decode cL_rub 23 = .ok (.iconst 1, 1) := by decide +kernel
theorem dL_rub_24 : decode cL_rub 24 = .ok (.ireturn, 1) := by decide +kernel
theorem dL_rub_25 : decode cL_rub 25 = .ok (.astore 8, 2) := by decide +kernel
theorem dL_rub_27 : decode cL_rub 27 = .ok (.iconst 2, 1) := by decide +kernel
theorem dL_rub_28 : decode cL_rub 28 = .ok (.ireturn, 1) := by decide +kernel
theorem dL_rub_29 : decode cL_rub 29 = .ok (.astore 8, 2) := by decide +kernel
theorem dL_rub_31 : decode cL_rub 31 = .ok (.iconst 3, 1) := by decide +kernel
theorem dL_rub_32 : decode cL_rub 32 = .ok (.ireturn, 1) := by decide +kernel
theorem dL_rub_33 : decode cL_rub 33 = .ok (.iconst 0, 1) := by decide +kernel
theorem dL_rub_34 : decode cL_rub 34 = .ok (.ireturn, 1) := by decide +kernel
set_option maxRecDepth 20000 in
theorem ggL_settings_X3_settings : GoodIn wsL_settings wsX3_settings := goodIn_ca (goodIn_r _ [6, 7, 8, 9, 10, 11, 12, 13, 14, 15, 5, 16, 17, 18, 19, 20, 21, 22, 23, 24, 25, 26, 27, 28, 29, 30, 31, 32] rfl (by decide +kernel)) (goodIn_sub (fun _ h => List.mem_cons_of_mem _ (List.mem_append_right _ h)) (by decide +kernel))
set_option maxRecDepth 20000 in
theorem gL_settings_X3_settings : GoodIn wsL_settings (wsV RL 46 RX3 yX3_settings wsX3_settings) := goodIn_app (goodIn_of _ (by decide +kernel)) ggL_settings_X3_settings
theorem dL_settings_0 : decode cL_settings 0 = .ok (.aload_n 0, 1) := by decide +kernel
theorem dL_settings_1 : decode cL_settings 1 = .ok (.iload_n 1, 1) := by decide +kernel
theorem dL_settings_2 : decode cL_settings 2 = .ok (.fload_n 2, 1) := by decide +kernel
theorem dL_settings_3 : decode cL_settings 3 = .ok (.fload_n 3, 1) := by decide +kernel
theorem dL_settings_4 : decode cL_settings 4 = .ok (.iload 4, 2) := by decide +kernel
theorem dL_settings_6 : decode cL_settings 6 = .ok (.invokevirtual 46, 3) := by decide +kernel
theorem dL_settings_9 : decode cL_settings 9 = .ok (.goto 7, 3) := by decide +kernel
theorem dL_settings_12 : decode cL_settings 12 = .ok (.astore 5, 2) := by decide +kernel
theorem dL_settings_14 : decode cL_settings 14 = .ok (.iconst 1, 1) := by decide +kernel
theorem dL_settings_15 : decode cL_settings 15 = .ok (.ireturn, 1) := by decide +kernel
theorem dL_settings_16 : decode cL_settings 16 = .ok (.iconst 0, 1) := by decide +kernel
theorem dL_settings_17 : decode cL_settings 17 = .ok (.ireturn, 1) := by decide +kernel
set_option maxRecDepth 20000 in
theorem ggL_workers_X3_workers : GoodIn wsL_workers wsX3_workers := goodIn_ca (goodIn_r _ [6, 7, 8, 9, 10, 11, 12, 13, 14, 15, 16, 17, 18, 19, 20, 21, 22, 23, 24, 25] rfl (by decide +kernel)) (goodIn_sub (fun _ h => List.mem_cons_of_mem _ (List.mem_append_right _ h)) (by decide +kernel))
set_option maxRecDepth 20000 in
theorem gL_workers_X3_workers : GoodIn wsL_workers (wsV RL 50 RX3 yX3_workers wsX3_workers) := goodIn_app (goodIn_of _ (by decide +kernel)) ggL_workers_X3_workers
theorem dL_workers_0 : decode cL_workers 0 = .ok (.aload_n 2, 1) := by decide +kernel
theorem dL_workers_1 : decode cL_workers 1 = .ok (.iconst 0, 1) := by decide +kernel
theorem dL_workers_2 : decode cL_workers 2 = .ok (.aload_n 0, 1) := by decide +kernel
theorem dL_workers_3 : decode cL_workers 3 = .ok (.iload_n 1, 1) := by decide +kernel
theorem dL_workers_4 : decode cL_workers 4 = .ok (.invokevirtual 50, 3) := by decide +kernel
theorem dL_workers_7 : decode cL_workers 7 = .ok (.i2l, 1) := by decide +kernel
theorem dL_workers_8 : decode cL_workers 8 = .ok (.lastore, 1) := by decide +kernel
theorem dL_workers_9 : decode cL_workers 9 = .ok (.goto 6, 3) := by decide +kernel
theorem dL_workers_12 : decode cL_workers 12 = .ok (.astore_n 3, 1) := by decide +kernel
theorem dL_workers_13 : decode cL_workers 13 = .ok (.iconst 1, 1) := by decide +kernel
theorem dL_workers_14 : decode cL_workers 14 = .ok (.ireturn, 1) := by decide +kernel
theorem dL_workers_15 : decode cL_workers 15 = .ok (.iconst 0, 1) := by decide +kernel
theorem dL_workers_16 : decode cL_workers 16 = .ok (.ireturn, 1) := by decide +kernel
set_option maxRecDepth 20000 in
theorem ggL_step_X3_step : GoodIn wsL_step wsX3_step := goodIn_ca (goodIn_r _ [6, 7, 8, 9, 10, 11, 5, 12, 13, 14, 15, 16, 17, 18, 19, 20, 21, 22, 23, 24, 25, 26, 27, 28, 29, 30, 31, 32, 33, 34, 35, 36, 37, 38, 39, 40, 41, 42, 43, 44, 45, 46, 47, 48, 49, 50, 51, 52, 53, 54, 55, 56, 57, 58, 59, 60, 61, 62, 63, 64, 65, 66, 67, 68, 69, 70, 71, 72, 73, 74, 75, 76, 77, 78, 79, 80, 81, 82, 83, 84, 85, 86, 87, 88, 89, 90, 91, 92, 93, 94, 95, 96, 97, 98, 99, 100, 101, 102, 103, 104, 105, 106, 107, 108, 109, 110, 111, 112, 113, 114, 115, 116, 117, 118, 119, 120, 121, 122, 123, 124, 125, 126, 127, 128, 129, 130, 131, 132, 133, 134, 135, 136, 137, 138, 139, 140, 141, 142, 143, 144, 145, 146, 147, 148, 149, 150, 151, 152, 153, 154, 155, 156, 157, 158, 159, 160, 161, 162, 163, 164, 165, 166, 167, 168, 169, 170, 171, 172, 173, 174, 175, 176, 177, 178, 179, 180, 181, 182, 183, 184, 185, 186, 187, 188, 189, 190, 191, 192, 193, 194, 195, 196, 197, 198, 199, 200, 201, 202, 203, 204, 205, 206, 207, 208, 209, 210, 211, 212, 213, 214, 215, 216, 217, 218, 219, 220, 221, 222, 223, 224, 225, 226, 227, 228, 229, 230, 231, 232, 233, 234, 235, 236, 237, 238, 239, 240, 241, 242, 243, 244, 245, 246, 247, 248, 249, 250, 251, 252, 253, 254, 255, 256, 257, 258, 259, 260, 261, 262, 263, 264, 265, 266, 267, 268, 269, 270, 271, 272, 273, 274, 275, 276, 277, 278, 279, 280, 281, 282, 283, 284, 285, 286] rfl (by decide +kernel)) (goodIn_sub (fun _ h => List.mem_cons_of_mem _ (List.mem_append_right _ h)) (by decide +kernel))
set_option maxRecDepth 20000 in
theorem gL_step_X3_step : GoodIn wsL_step (wsV RL 54 RX3 yX3_step wsX3_step) := goodIn_app (goodIn_of _ (by decide +kernel)) ggL_step_X3_step
theorem dL_step_0 : decode cL_step 0 = .ok (.aload_n 2, 1) := by decide +kernel
theorem dL_step_1 : decode cL_step 1 = .ok (.iconst 0, 1) := by decide +kernel
theorem dL_step_2 : decode cL_step 2 = .ok (.aload_n 0, 1) := by decide +kernel
theorem dL_step_3 : decode cL_step 3 = .ok (.iload_n 1, 1) := by decide +kernel
theorem dL_step_4 : decode cL_step 4 = .ok (.invokevirtual 54, 3) := by decide +kernel
theorem dL_step_7 : decode cL_step 7 = .ok (.i2l, 1) := by decide +kernel
theorem dL_step_8 : decode cL_step 8 = .ok (.lastore, 1) := by decide +kernel
theorem dL_step_9 : decode cL_step 9 = .ok (.goto 6, 3) := by decide +kernel
theorem dL_step_12 : decode cL_step 12 = .ok (.astore_n 3, 1) := by decide +kernel
theorem dL_step_13 : decode cL_step 13 = .ok (.iconst 1, 1) := by decide +kernel
theorem dL_step_14 : decode cL_step 14 = .ok (.ireturn, 1) := by decide +kernel
theorem dL_step_15 : decode cL_step 15 = .ok (.iconst 0, 1) := by decide +kernel
theorem dL_step_16 : decode cL_step 16 = .ok (.ireturn, 1) := by decide +kernel
set_option maxRecDepth 20000 in
theorem ggL_of_X3_of : GoodIn wsL_of wsX3_of := goodIn_ca (goodIn_r _ [6, 7, 8, 9, 10, 11, 12, 13, 14, 15, 16, 17, 18, 19, 20, 21, 22, 23, 5, 24, 25, 26, 27, 28, 29, 30, 31, 32, 33, 34, 35, 36, 37, 38, 39, 40, 41, 42, 43, 44, 45, 46, 47, 48, 49, 50, 51, 52, 53, 54, 55, 56, 57, 58, 59, 60, 61, 62, 63, 64, 65, 66, 67, 68, 69, 70, 71, 72, 73, 74, 75, 76, 77, 78, 79, 80, 81, 82, 83, 84, 85, 86, 87, 88, 89, 90, 91] rfl (by decide +kernel)) (goodIn_sub (fun _ h => List.mem_cons_of_mem _ (List.mem_append_right _ h)) (by decide +kernel))
set_option maxRecDepth 20000 in
theorem gL_of_X3_of : GoodIn wsL_of (wsV RL 57 RX3 yX3_of wsX3_of) := goodIn_app (goodIn_of _ (by decide +kernel)) ggL_of_X3_of
theorem dL_of_0 : decode cL_of 0 = .ok (.aload_n 3, 1) := by decide +kernel
theorem dL_of_1 : decode cL_of 1 = .ok (.iconst 0, 1) := by decide +kernel
theorem dL_of_2 : decode cL_of 2 = .ok (.aload_n 0, 1) := by decide +kernel
theorem dL_of_3 : decode cL_of 3 = .ok (.iload_n 1, 1) := by decide +kernel
theorem dL_of_4 : decode cL_of 4 = .ok (.iload_n 2, 1) := by decide +kernel
theorem dL_of_5 : decode cL_of 5 = .ok (.invokevirtual 57, 3) := by decide +kernel
theorem dL_of_8 : decode cL_of 8 = .ok (.f2d, 1) := by decide +kernel
theorem dL_of_9 : decode cL_of 9 = .ok (.dastore, 1) := by decide +kernel
theorem dL_of_10 : decode cL_of 10 = .ok (.goto 7, 3) := by decide +kernel
theorem dL_of_13 : decode cL_of 13 = .ok (.astore 4, 2) := by decide +kernel
theorem dL_of_15 : decode cL_of 15 = .ok (.iconst 1, 1) := by decide +kernel
theorem dL_of_16 : decode cL_of 16 = .ok (.ireturn, 1) := by decide +kernel
theorem dL_of_17 : decode cL_of 17 = .ok (.iconst 0, 1) := by decide +kernel
theorem dL_of_18 : decode cL_of 18 = .ok (.ireturn, 1) := by decide +kernel
set_option maxRecDepth 20000 in
theorem ggL_about_X3_about : GoodIn wsL_about wsX3_about := goodIn_ca (goodIn_r _ [6, 7, 8, 9, 10, 11, 12, 13, 14, 15, 5, 16, 17, 18, 19, 20, 21, 22, 23, 24, 25, 26, 27, 28, 29, 30, 31, 32, 33, 34, 35, 36, 37, 38, 39, 40, 41, 42, 43, 44, 45, 46, 47, 48, 49, 50, 51, 52, 53, 54, 55, 56, 57, 58, 59, 60, 61, 62, 63, 64, 65, 66, 67, 68, 69, 70, 71, 72, 73, 74, 75, 76, 77, 78, 79, 80, 81, 82, 83, 84, 85, 86, 87, 88, 89, 90, 91, 92] rfl (by decide +kernel)) (goodIn_sub (fun _ h => List.mem_cons_of_mem _ (List.mem_append_right _ h)) (by decide +kernel))
set_option maxRecDepth 20000 in
theorem gL_about_X3_about : GoodIn wsL_about (wsV RL 61 RX3 yX3_about wsX3_about) := goodIn_app (goodIn_of _ (by decide +kernel)) ggL_about_X3_about
theorem dL_about_0 : decode cL_about 0 = .ok (.aload_n 3, 1) := by decide +kernel
theorem dL_about_1 : decode cL_about 1 = .ok (.iconst 0, 1) := by decide +kernel
theorem dL_about_2 : decode cL_about 2 = .ok (.aload_n 0, 1) := by decide +kernel
theorem dL_about_3 : decode cL_about 3 = .ok (.iload_n 1, 1) := by decide +kernel
theorem dL_about_4 : decode cL_about 4 = .ok (.iload_n 2, 1) := by decide +kernel
theorem dL_about_5 : decode cL_about 5 = .ok (.invokevirtual 61, 3) := by decide +kernel
theorem dL_about_8 : decode cL_about 8 = .ok (.i2l, 1) := by decide +kernel
theorem dL_about_9 : decode cL_about 9 = .ok (.lastore, 1) := by decide +kernel
theorem dL_about_10 : decode cL_about 10 = .ok (.goto 7, 3) := by decide +kernel
theorem dL_about_13 : decode cL_about 13 = .ok (.astore 4, 2) := by decide +kernel
theorem dL_about_15 : decode cL_about 15 = .ok (.iconst 1, 1) := by decide +kernel
theorem dL_about_16 : decode cL_about 16 = .ok (.ireturn, 1) := by decide +kernel
theorem dL_about_17 : decode cL_about 17 = .ok (.iconst 0, 1) := by decide +kernel
theorem dL_about_18 : decode cL_about 18 = .ok (.ireturn, 1) := by decide +kernel
set_option maxRecDepth 20000 in
theorem ggL_ofRow_X3_ofRow : GoodIn wsL_ofRow wsX3_ofRow := goodIn_ca (goodIn_r _ [6, 7, 8, 9, 10, 11, 12, 13, 5, 14, 15, 16, 17, 18, 19, 20, 21, 22, 23, 24, 25, 26, 27, 28, 29, 30, 31, 32, 33, 34, 35, 36, 37, 38, 39, 40, 41, 42, 43, 44, 45, 46, 47, 48, 49, 50, 51, 52, 53, 54, 55, 56, 57, 58, 59, 60, 61, 62, 63, 64, 65, 66, 67, 68, 69, 70, 71, 72, 73, 74, 75, 76, 77, 78, 79, 80, 81, 82, 83, 84, 85, 86, 87, 88, 89, 90, 91, 92, 93, 94, 95, 96, 97, 98, 99, 100, 101, 102, 103, 104, 105, 106, 107, 108, 109, 110, 111, 112, 113, 114, 115, 116, 117, 118, 119, 120, 121, 122, 123, 124, 125, 126, 127, 128, 129, 130, 131, 132, 133, 134, 135, 136, 137, 138, 139, 140, 141, 142, 143, 144, 145, 146, 147, 148, 149, 150] rfl (by decide +kernel)) (goodIn_sub (fun _ h => List.mem_cons_of_mem _ (List.mem_append_right _ h)) (by decide +kernel))
set_option maxRecDepth 20000 in
theorem gL_ofRow_X3_ofRow : GoodIn wsL_ofRow (wsV RL 65 RX3 yX3_ofRow wsX3_ofRow) := goodIn_app (goodIn_of _ (by decide +kernel)) ggL_ofRow_X3_ofRow
theorem dL_ofRow_0 : decode cL_ofRow 0 = .ok (.aload_n 3, 1) := by decide +kernel
theorem dL_ofRow_1 : decode cL_ofRow 1 = .ok (.iconst 0, 1) := by decide +kernel
theorem dL_ofRow_2 : decode cL_ofRow 2 = .ok (.aload_n 0, 1) := by decide +kernel
theorem dL_ofRow_3 : decode cL_ofRow 3 = .ok (.iload_n 1, 1) := by decide +kernel
theorem dL_ofRow_4 : decode cL_ofRow 4 = .ok (.iload_n 2, 1) := by decide +kernel
theorem dL_ofRow_5 : decode cL_ofRow 5 = .ok (.invokevirtual 65, 3) := by decide +kernel
theorem dL_ofRow_8 : decode cL_ofRow 8 = .ok (.f2d, 1) := by decide +kernel
theorem dL_ofRow_9 : decode cL_ofRow 9 = .ok (.dastore, 1) := by decide +kernel
theorem dL_ofRow_10 : decode cL_ofRow 10 = .ok (.goto 7, 3) := by decide +kernel
theorem dL_ofRow_13 : decode cL_ofRow 13 = .ok (.astore 4, 2) := by decide +kernel
theorem dL_ofRow_15 : decode cL_ofRow 15 = .ok (.iconst 1, 1) := by decide +kernel
theorem dL_ofRow_16 : decode cL_ofRow 16 = .ok (.ireturn, 1) := by decide +kernel
theorem dL_ofRow_17 : decode cL_ofRow 17 = .ok (.iconst 0, 1) := by decide +kernel
theorem dL_ofRow_18 : decode cL_ofRow 18 = .ok (.ireturn, 1) := by decide +kernel
set_option maxRecDepth 20000 in
theorem ggL_count_X3_count : GoodIn wsL_count wsX3_count := goodIn_ca (goodIn_r _ [6, 7, 8, 9, 10, 11, 12, 13, 14, 15, 16, 17, 18, 19, 20, 21, 5, 22, 23, 24, 25, 26, 27, 28, 29, 30, 31, 32, 33, 34, 35, 36, 37, 38, 39, 40, 41, 42, 43, 44, 45, 46, 47, 48, 49, 50, 51, 52, 53, 54, 55, 56, 57, 58, 59, 60, 61, 62, 63, 64, 65, 66, 67, 68, 69, 70, 71, 72, 73, 74, 75, 76, 77, 78, 79, 80, 81, 82, 83, 84, 85, 86, 87, 88, 89, 90, 91, 92, 93, 94, 95, 96, 97, 98, 99, 100, 101, 102, 103, 104, 105, 106, 107, 108, 109, 110, 111, 112, 113, 114, 115, 116, 117, 118, 119, 120, 121, 122, 123, 124, 125, 126, 127, 128, 129, 130, 131, 132, 133, 134, 135, 136, 137, 138, 139, 140, 141, 142, 143, 144, 145, 146, 147, 148, 149, 150, 151, 152, 153, 154, 155, 156, 157, 158, 159, 160, 161, 162, 163, 164, 165, 166, 167, 168, 169, 170, 171, 172, 173, 174, 175, 176, 177, 178, 179, 180] rfl (by decide +kernel)) (goodIn_sub (fun _ h => List.mem_cons_of_mem _ (List.mem_append_right _ h)) (by decide +kernel))
set_option maxRecDepth 20000 in
theorem gL_count_X3_count : GoodIn wsL_count (wsV RL 68 RX3 yX3_count wsX3_count) := goodIn_app (goodIn_of _ (by decide +kernel)) ggL_count_X3_count
theorem dL_count_0 : decode cL_count 0 = .ok (.aload_n 2, 1) := by decide +kernel
theorem dL_count_1 : decode cL_count 1 = .ok (.iconst 0, 1) := by decide +kernel
theorem dL_count_2 : decode cL_count 2 = .ok (.aload_n 0, 1) := by decide +kernel
theorem dL_count_3 : decode cL_count 3 = .ok (.iload_n 1, 1) := by decide +kernel
theorem dL_count_4 : decode cL_count 4 = .ok (.invokevirtual 68, 3) := by decide +kernel
theorem dL_count_7 : decode cL_count 7 = .ok (.i2l, 1) := by decide +kernel
theorem dL_count_8 : decode cL_count 8 = .ok (.lastore, 1) := by decide +kernel
theorem dL_count_9 : decode cL_count 9 = .ok (.goto 6, 3) := by decide +kernel
theorem dL_count_12 : decode cL_count 12 = .ok (.astore_n 3, 1) := by decide +kernel
theorem dL_count_13 : decode cL_count 13 = .ok (.iconst 1, 1) := by decide +kernel
theorem dL_count_14 : decode cL_count 14 = .ok (.ireturn, 1) := by decide +kernel
theorem dL_count_15 : decode cL_count 15 = .ok (.iconst 0, 1) := by decide +kernel
theorem dL_count_16 : decode cL_count 16 = .ok (.ireturn, 1) := by decide +kernel
set_option maxRecDepth 20000 in
theorem ggL_law_X3_init : GoodIn wsL_law wsX3_init := goodIn_r _ [11, 12, 13, 14, 15, 16, 17, 18, 19, 20, 21, 22, 23, 24, 25, 26, 27, 28, 29, 30, 31, 32, 33, 34, 35, 36, 37, 38, 39, 40, 41, 42, 43, 44, 45, 46, 47, 48, 49, 50, 51, 52, 53, 54, 55, 56, 57, 58, 858, 859, 860, 807, 808, 809, 810, 811, 812, 813, 814, 815, 816, 817, 818, 819, 820, 821, 822, 861, 862, 863] rfl (by decide +kernel)
set_option maxRecDepth 20000 in
theorem gL_law_X3_init : GoodIn wsL_law (wsX3_init) := ggL_law_X3_init
set_option maxRecDepth 20000 in
theorem ggL_law_X4_init : GoodIn wsL_law wsX4_init := goodIn_r _ [61, 62, 13, 14, 63, 64, 37, 65, 35, 66, 67, 68, 69, 70, 71, 72, 73, 74, 75, 76, 77, 78, 79, 80, 81, 82, 83, 84, 85, 86, 87, 88, 89, 823, 824, 825, 826, 827, 828, 829, 830, 831, 832, 833, 834, 835, 836, 837, 838, 839, 840, 841, 842, 843, 844, 845, 846, 847, 848, 849, 850, 851, 852, 853, 854, 855, 856, 857] rfl (by decide +kernel)
set_option maxRecDepth 20000 in
theorem gL_law_X4_init : GoodIn wsL_law (wsX4_init) := ggL_law_X4_init
set_option maxRecDepth 20000 in
theorem ggL_law_L_body : GoodIn wsL_law wsL_body := goodIn_ca (goodIn_ca (goodIn_r _ [93, 94, 95, 96, 97, 98, 2, 99, 100, 101, 102, 103, 104, 18, 105, 106, 107, 108, 109, 110, 111, 112, 113, 17, 114, 115, 116, 117, 118, 119, 13, 14, 120, 22, 23, 121, 122, 123, 124, 125, 126, 127, 128, 129, 56, 57, 58, 130, 131, 132, 133, 134, 135, 45, 136, 137, 138, 139, 140, 141, 142, 143, 144, 145, 146, 147, 44, 148, 149, 150, 151, 152, 153, 154, 155, 156, 157, 158, 159, 160, 161, 162, 163, 164, 165, 166, 167, 168, 169, 170, 171, 172, 173, 174, 175, 176, 177, 178, 179, 180, 181, 807, 808, 809, 810, 811, 812, 813, 814, 815, 816, 817, 818, 819, 820, 821, 822, 864, 865, 866, 867, 868, 869, 870, 871, 872, 873, 874, 875, 876, 877, 878, 879, 858, 859, 860, 861, 862, 863] rfl (by decide +kernel)) (goodIn_sub (fun _ h => List.mem_append_left _ (List.mem_append_left _ (List.mem_append_right _ h))) (by decide +kernel))) (goodIn_sub (fun _ h => List.mem_append_left _ (List.mem_append_right _ h)) (by decide +kernel))
set_option maxRecDepth 20000 in
theorem gL_law_L_body : GoodIn wsL_law (va_wsS RL 76 yL_body wsL_body) := goodIn_app (goodIn_of _ (by decide +kernel)) ggL_law_L_body
set_option maxRecDepth 20000 in
theorem ggL_law_X4_body : GoodIn wsL_law wsX4_body := goodIn_r _ [185, 186, 187, 64, 65, 66, 188, 189, 5, 190, 191, 192, 193, 194, 195, 823, 824, 825, 826, 827, 828, 829, 830, 831, 832, 833, 834, 835, 836, 837, 838, 839, 840, 841, 842, 843, 844, 845, 846, 847, 848, 849, 850, 851, 852, 853, 854, 855, 856, 857] rfl (by decide +kernel)
set_option maxRecDepth 20000 in
theorem gL_law_X4_body : GoodIn wsL_law (wsV RL 81 RX4 yX4_body wsX4_body) := goodIn_app (goodIn_of _ (by decide +kernel)) ggL_law_X4_body
set_option maxRecDepth 20000 in
theorem ggL_law_L_lean : GoodIn wsL_law wsL_lean := goodIn_ca (goodIn_ca (goodIn_r _ [198, 199, 94, 200, 201, 202, 2, 203, 100, 101, 204, 205, 206, 207, 208, 209, 210, 211, 212, 213, 214, 18, 215, 216, 217, 218, 219, 111, 112, 113, 17, 114, 115, 220, 221, 222, 223, 224, 225, 226, 227, 228, 229, 230, 231, 232, 233, 234, 235, 45, 108, 109, 110, 236, 237, 238, 107, 239, 240, 241, 864, 865, 866, 867, 868, 869, 870, 871, 872, 873, 874, 875, 876, 877, 878, 879, 807, 808, 809, 810, 811, 812, 813, 814, 815, 816, 817, 818, 819, 820, 821, 822, 858, 859, 860] rfl (by decide +kernel)) (goodIn_sub (fun _ h => List.mem_append_left _ (List.mem_append_left _ (List.mem_append_right _ h))) (by decide +kernel))) (goodIn_sub (fun _ h => List.mem_append_right _ h) (by decide +kernel))
set_option maxRecDepth 20000 in
theorem gL_law_L_lean : GoodIn wsL_law (va_wsS RL 82 yL_lean wsL_lean) := goodIn_app (goodIn_of _ (by decide +kernel)) ggL_law_L_lean
set_option maxRecDepth 20000 in
theorem ggL_law_X4_lean : GoodIn wsL_law wsX4_lean := goodIn_r _ [245, 246, 247, 64, 248, 249, 250, 5, 251, 187, 188, 189, 190, 191, 192, 193, 194, 195, 252, 253, 254, 255, 65, 66, 823, 824, 825, 826, 827, 828, 829, 830, 831, 832, 833, 834, 835, 836, 837, 838, 839, 840, 841, 842, 843, 844, 845, 846, 847, 848, 849, 850, 851, 852, 853, 854, 855, 856, 857] rfl (by decide +kernel)
set_option maxRecDepth 20000 in
theorem gL_law_X4_lean : GoodIn wsL_law (wsV RL 85 RX4 yX4_lean wsX4_lean) := goodIn_app (goodIn_of _ (by decide +kernel)) ggL_law_X4_lean
set_option maxRecDepth 20000 in
theorem ggL_law_L_set : GoodIn wsL_law wsL_set := goodIn_ca (goodIn_ca (goodIn_r _ [258, 199, 94, 259, 260, 261, 2, 262, 100, 101, 263, 264, 265, 209, 210, 211, 212, 213, 214, 18, 215, 216, 217, 218, 219, 111, 112, 113, 17, 114, 115, 220, 221, 222, 223, 224, 225, 226, 227, 228, 229, 230, 231, 232, 233, 234, 235, 45, 266, 267, 268, 108, 109, 110, 269, 270, 271, 23, 272, 273, 274, 275, 236, 237, 238, 107, 239, 240, 241, 864, 865, 866, 867, 868, 869, 870, 871, 872, 873, 874, 875, 876, 877, 878, 879, 807, 808, 809, 810, 811, 812, 813, 814, 815, 816, 817, 818, 819, 820, 821, 822, 858, 859, 860, 861, 862, 863] rfl (by decide +kernel)) (goodIn_sub (fun _ h => List.mem_append_left _ (List.mem_append_left _ (List.mem_append_right _ h))) (by decide +kernel))) (goodIn_sub (fun _ h => List.mem_append_right _ h) (by decide +kernel))
set_option maxRecDepth 20000 in
theorem gL_law_L_set : GoodIn wsL_law (va_wsS RL 86 yL_set wsL_set) := goodIn_app (goodIn_of _ (by decide +kernel)) ggL_law_L_set
set_option maxRecDepth 20000 in
theorem ggL_law_X4_set : GoodIn wsL_law wsX4_set := goodIn_r _ [279, 280, 281, 64, 188, 189, 5, 190, 248, 249, 250, 251, 187, 191, 192, 193, 194, 195, 252, 253, 254, 255, 65, 66, 823, 824, 825, 826, 827, 828, 829, 830, 831, 832, 833, 834, 835, 836, 837, 838, 839, 840, 841, 842, 843, 844, 845, 846, 847, 848, 849, 850, 851, 852, 853, 854, 855, 856, 857] rfl (by decide +kernel)
set_option maxRecDepth 20000 in
theorem gL_law_X4_set : GoodIn wsL_law (wsV RL 89 RX4 yX4_set wsX4_set) := goodIn_app (goodIn_of _ (by decide +kernel)) ggL_law_X4_set
set_option maxRecDepth 20000 in
theorem ggL_law_X4_thrown : GoodIn wsL_law wsX4_thrown := goodIn_r _ [285, 195, 823, 824, 825, 826, 827, 828, 829, 830, 831, 832, 833, 834, 835, 836, 837, 838, 839, 840, 841, 842, 843, 844, 845, 846, 847, 848, 849, 850, 851, 852, 853, 854, 855, 856, 857] rfl (by decide +kernel)
set_option maxRecDepth 20000 in
theorem gL_law_X4_thrown : GoodIn wsL_law (wsV RL 90 RX4 yX4_thrown wsX4_thrown) := goodIn_app (goodIn_of _ (by decide +kernel)) ggL_law_X4_thrown
set_option maxRecDepth 20000 in
theorem ggL_law_L_gain : GoodIn wsL_law wsL_gain := goodIn_ca (goodIn_ca (goodIn_r _ [288, 199, 94, 289, 290, 291, 2, 292, 213, 214, 100, 101, 293, 18, 215, 294, 264, 295, 296, 297, 216, 217, 218, 219, 111, 112, 113, 17, 114, 115, 266, 267, 268, 108, 109, 110, 220, 221, 222, 223, 224, 225, 226, 227, 228, 229, 230, 231, 232, 233, 234, 235, 45, 269, 270, 271, 23, 272, 273, 274, 275, 236, 237, 238, 107, 239, 240, 241, 807, 808, 809, 810, 811, 812, 813, 814, 815, 816, 817, 818, 819, 820, 821, 822, 864, 865, 866, 867, 868, 869, 870, 871, 872, 873, 874, 875, 876, 877, 878, 879, 861, 862, 863, 858, 859, 860] rfl (by decide +kernel)) (goodIn_sub (fun _ h => List.mem_append_right _ h) (by decide +kernel))) (goodIn_sub (fun _ h => List.mem_append_left _ (List.mem_append_left _ (List.mem_append_right _ h))) (by decide +kernel))
set_option maxRecDepth 20000 in
theorem gL_law_L_gain : GoodIn wsL_law (va_wsS RL 94 yL_gain wsL_gain) := goodIn_app (goodIn_of _ (by decide +kernel)) ggL_law_L_gain
set_option maxRecDepth 20000 in
theorem ggL_law_X4_gain : GoodIn wsL_law wsX4_gain := goodIn_r _ [301, 302, 303, 64, 248, 249, 250, 5, 251, 187, 188, 189, 190, 191, 192, 193, 194, 195, 304, 305, 306, 307, 252, 253, 254, 255, 65, 66, 823, 824, 825, 826, 827, 828, 829, 830, 831, 832, 833, 834, 835, 836, 837, 838, 839, 840, 841, 842, 843, 844, 845, 846, 847, 848, 849, 850, 851, 852, 853, 854, 855, 856, 857] rfl (by decide +kernel)
set_option maxRecDepth 20000 in
theorem gL_law_X4_gain : GoodIn wsL_law (wsV RL 97 RX4 yX4_gain wsX4_gain) := goodIn_app (goodIn_of _ (by decide +kernel)) ggL_law_X4_gain
set_option maxRecDepth 20000 in
theorem ggL_law_L_wake : GoodIn wsL_law wsL_wake := goodIn_ca (goodIn_r _ [310, 199, 311, 312, 313, 2, 314, 315, 209, 210, 211, 212, 213, 214, 18, 215, 216, 217, 218, 219, 111, 112, 113, 17, 114, 115, 220, 221, 222, 223, 224, 225, 226, 227, 228, 229, 230, 231, 232, 233, 234, 235, 45, 236, 237, 238, 107, 239, 240, 241, 864, 865, 866, 867, 868, 869, 870, 871, 872, 873, 874, 875, 876, 877, 878, 879, 807, 808, 809, 810, 811, 812, 813, 814, 815, 816, 817, 818, 819, 820, 821, 822, 858, 859, 860] rfl (by decide +kernel)) (goodIn_sub (fun _ h => List.mem_append_right _ h) (by decide +kernel))
set_option maxRecDepth 20000 in
theorem gL_law_L_wake : GoodIn wsL_law (va_wsS RL 98 yL_wake wsL_wake) := goodIn_app (goodIn_of _ (by decide +kernel)) ggL_law_L_wake
set_option maxRecDepth 20000 in
theorem ggL_law_X4_wake : GoodIn wsL_law wsX4_wake := goodIn_r _ [319, 65, 248, 249, 250, 5, 251, 187, 191, 192, 193, 194, 195, 252, 253, 254, 255, 66, 823, 824, 825, 826, 827, 828, 829, 830, 831, 832, 833, 834, 835, 836, 837, 838, 839, 840, 841, 842, 843, 844, 845, 846, 847, 848, 849, 850, 851, 852, 853, 854, 855, 856, 857] rfl (by decide +kernel)
set_option maxRecDepth 20000 in
theorem gL_law_X4_wake : GoodIn wsL_law (wsV RL 101 RX4 yX4_wake wsX4_wake) := goodIn_app (goodIn_of _ (by decide +kernel)) ggL_law_X4_wake
set_option maxRecDepth 20000 in
theorem ggL_law_L_vector : GoodIn wsL_law wsL_vector := goodIn_ca (goodIn_ca (goodIn_r _ [322, 199, 94, 323, 324, 325, 2, 326, 213, 214, 100, 101, 293, 24, 25, 26, 266, 267, 268, 108, 109, 110, 269, 270, 271, 23, 272, 273, 274, 275, 807, 808, 809, 810, 811, 812, 813, 814, 815, 816, 817, 818, 819, 820, 821, 822, 861, 862, 863] rfl (by decide +kernel)) (goodIn_sub (fun _ h => List.mem_append_right _ h) (by decide +kernel))) (goodIn_sub (fun _ h => List.mem_append_left _ (List.mem_append_left _ (List.mem_append_right _ h))) (by decide +kernel))
set_option maxRecDepth 20000 in
theorem gL_law_L_vector : GoodIn wsL_law (va_wsS RL 102 yL_vector wsL_vector) := goodIn_app (goodIn_of _ (by decide +kernel)) ggL_law_L_vector
set_option maxRecDepth 20000 in
theorem ggL_law_X4_vector : GoodIn wsL_law wsX4_vector := goodIn_r _ [330, 302, 303, 67, 188, 189, 5, 190, 191, 192, 193, 194, 195, 823, 824, 825, 826, 827, 828, 829, 830, 831, 832, 833, 834, 835, 836, 837, 838, 839, 840, 841, 842, 843, 844, 845, 846, 847, 848, 849, 850, 851, 852, 853, 854, 855, 856, 857] rfl (by decide +kernel)
set_option maxRecDepth 20000 in
theorem gL_law_X4_vector : GoodIn wsL_law (wsV RL 104 RX4 yX4_vector wsX4_vector) := goodIn_app (goodIn_of _ (by decide +kernel)) ggL_law_X4_vector
set_option maxRecDepth 20000 in
theorem ggL_law_L_row : GoodIn wsL_law wsL_row := goodIn_ca (goodIn_ca (goodIn_ca (goodIn_r _ [333, 199, 94, 95, 334, 335, 336, 2, 337, 100, 101, 338, 263, 293, 339, 340, 341, 342, 343, 344, 345, 346, 347, 213, 214, 216, 217, 218, 219, 18, 111, 112, 113, 17, 114, 115, 108, 109, 110, 348, 349, 350, 351, 102, 103, 19, 352, 353, 354, 355, 39, 356, 357, 24, 25, 26, 358, 359, 209, 210, 211, 212, 215, 220, 221, 222, 223, 224, 225, 226, 227, 228, 229, 230, 231, 232, 233, 234, 235, 45, 360, 361, 362, 363, 364, 365, 366, 367, 13, 14, 368, 22, 23, 369, 370, 371, 372, 373, 374, 375, 376, 377, 378, 56, 57, 58, 379, 270, 271, 272, 273, 274, 275, 380, 381, 382, 383, 384, 385, 386, 387, 388, 20, 389, 390, 391, 392, 393, 394, 395, 396, 397, 398, 399, 400, 401, 402, 403, 404, 405, 406, 407, 408, 409, 107, 410, 124, 411, 412, 413, 414, 415, 130, 131, 132, 133, 134, 135, 136, 137, 138, 139, 140, 141, 142, 143, 144, 145, 146, 147, 44, 148, 149, 150, 151, 152, 153, 154, 155, 156, 157, 158, 159, 160, 161, 162, 163, 164, 165, 166, 167, 168, 169, 170, 171, 172, 173, 174, 175, 176, 177, 178, 179, 180, 181, 880, 881, 882, 883, 884, 885, 886, 887, 888, 889, 890, 891, 892, 893, 894, 895, 896, 897, 807, 808, 809, 810, 811, 812, 813, 814, 815, 816, 817, 818, 819, 820, 821, 822, 858, 859, 860, 861, 862, 863, 864, 865, 866, 867, 868, 869, 870, 871, 872, 873, 874, 875, 876, 877, 878, 879] rfl (by decide +kernel)) (goodIn_sub (fun _ h => List.mem_append_left _ (List.mem_append_left _ (List.mem_append_right _ h))) (by decide +kernel))) (goodIn_sub (fun _ h => List.mem_append_right _ h) (by decide +kernel))) (goodIn_sub (fun _ h => List.mem_append_left _ (List.mem_append_right _ h)) (by decide +kernel))
set_option maxRecDepth 20000 in
theorem gL_law_L_row : GoodIn wsL_law (va_wsS RL 105 yL_row wsL_row) := goodIn_app (goodIn_of _ (by decide +kernel)) ggL_law_L_row
set_option maxRecDepth 20000 in
theorem ggL_law_X4_row : GoodIn wsL_law wsX4_row := goodIn_r _ [419, 280, 281, 303, 420, 421, 422, 72, 73, 74, 75, 76, 188, 189, 5, 190, 423, 424, 425, 426, 248, 249, 250, 251, 187, 191, 192, 193, 194, 195, 427, 428, 429, 430, 68, 69, 71, 77, 70, 67, 78, 431, 432, 433, 434, 435, 80, 81, 436, 437, 438, 439, 440, 441, 442, 823, 824, 825, 826, 827, 828, 829, 830, 831, 832, 833, 834, 835, 836, 837, 838, 839, 840, 841, 842, 843, 844, 845, 846, 847, 848, 849, 850, 851, 852, 853, 854, 855, 856, 857] rfl (by decide +kernel)
set_option maxRecDepth 20000 in
theorem gL_law_X4_row : GoodIn wsL_law (wsV RL 108 RX4 yX4_row wsX4_row) := goodIn_app (goodIn_of _ (by decide +kernel)) ggL_law_X4_row
set_option maxRecDepth 20000 in
theorem ggL_law_L_rub : GoodIn wsL_law wsL_rub := goodIn_ca (goodIn_ca (goodIn_ca (goodIn_r _ [445, 199, 94, 95, 446, 447, 448, 2, 449, 100, 101, 338, 263, 450, 451, 452, 453, 454, 344, 345, 346, 347, 213, 214, 216, 217, 218, 219, 18, 111, 112, 113, 17, 114, 115, 455, 456, 457, 458, 19, 389, 220, 221, 222, 223, 224, 225, 226, 227, 228, 229, 230, 231, 232, 233, 234, 235, 45, 108, 109, 110, 209, 210, 211, 212, 215, 360, 361, 362, 363, 348, 349, 350, 351, 102, 103, 352, 353, 354, 355, 39, 356, 357, 24, 25, 26, 358, 359, 364, 365, 366, 367, 13, 14, 368, 22, 23, 369, 370, 371, 372, 373, 374, 375, 376, 377, 378, 56, 57, 58, 379, 270, 271, 272, 273, 274, 275, 380, 381, 382, 383, 384, 385, 386, 387, 388, 20, 390, 391, 392, 393, 394, 395, 396, 397, 398, 399, 400, 401, 402, 403, 404, 405, 406, 407, 408, 409, 107, 410, 124, 411, 412, 413, 414, 415, 130, 131, 132, 133, 134, 135, 136, 137, 138, 139, 140, 141, 142, 143, 144, 145, 146, 147, 44, 148, 149, 150, 151, 152, 153, 154, 155, 156, 157, 158, 159, 160, 161, 162, 163, 164, 165, 166, 167, 168, 169, 170, 171, 172, 173, 174, 175, 176, 177, 178, 179, 180, 181, 880, 881, 882, 883, 884, 885, 886, 887, 888, 889, 890, 891, 892, 893, 894, 895, 896, 897, 807, 808, 809, 810, 811, 812, 813, 814, 815, 816, 817, 818, 819, 820, 821, 822, 858, 859, 860, 861, 862, 863, 864, 865, 866, 867, 868, 869, 870, 871, 872, 873, 874, 875, 876, 877, 878, 879] rfl (by decide +kernel)) (goodIn_sub (fun _ h => List.mem_append_left _ (List.mem_append_left _ (List.mem_append_right _ h))) (by decide +kernel))) (goodIn_sub (fun _ h => List.mem_append_right _ h) (by decide +kernel))) (goodIn_sub (fun _ h => List.mem_append_left _ (List.mem_append_right _ h)) (by decide +kernel))
set_option maxRecDepth 20000 in
theorem gL_law_L_rub : GoodIn wsL_law (va_wsS RL 109 yL_rub wsL_rub) := goodIn_app (goodIn_of _ (by decide +kernel)) ggL_law_L_rub
set_option maxRecDepth 20000 in
theorem ggL_law_X4_rub : GoodIn wsL_law wsX4_rub := goodIn_r _ [462, 422, 280, 281, 463, 76, 68, 69, 72, 75, 188, 189, 5, 190, 423, 424, 425, 426, 248, 249, 250, 251, 187, 191, 192, 193, 194, 195, 427, 428, 429, 430, 71, 77, 70, 67, 78, 431, 432, 433, 434, 435, 80, 81, 436, 437, 438, 439, 73, 74, 440, 441, 442, 823, 824, 825, 826, 827, 828, 829, 830, 831, 832, 833, 834, 835, 836, 837, 838, 839, 840, 841, 842, 843, 844, 845, 846, 847, 848, 849, 850, 851, 852, 853, 854, 855, 856, 857] rfl (by decide +kernel)
set_option maxRecDepth 20000 in
theorem gL_law_X4_rub : GoodIn wsL_law (wsV RL 112 RX4 yX4_rub wsX4_rub) := goodIn_app (goodIn_of _ (by decide +kernel)) ggL_law_X4_rub
set_option maxRecDepth 20000 in
theorem ggL_law_X3_clear : GoodIn wsL_law wsX3_clear := goodIn_r _ [467, 19, 20, 18, 215, 111, 112, 113, 17, 114, 115, 468, 469, 470, 471, 134, 135, 45, 220, 221, 222, 223, 224, 225, 226, 227, 228, 229, 230, 231, 232, 233, 234, 235, 472, 473, 474, 107, 475, 411, 476, 807, 808, 809, 810, 811, 812, 813, 814, 815, 816, 817, 818, 819, 820, 821, 822, 858, 859, 860, 864, 865, 866, 867, 868, 869, 870, 871, 872, 873, 874, 875, 876, 877, 878, 879] rfl (by decide +kernel)
set_option maxRecDepth 20000 in
theorem gL_law_X3_clear : GoodIn wsL_law (wsV RL 113 RX3 yX3_clear wsX3_clear) := goodIn_app (goodIn_of _ (by decide +kernel)) ggL_law_X3_clear
set_option maxRecDepth 20000 in
theorem ggL_law_X4_clear : GoodIn wsL_law wsX4_clear := goodIn_r _ [480, 195, 435, 422, 77, 80, 81, 78, 823, 824, 825, 826, 827, 828, 829, 830, 831, 832, 833, 834, 835, 836, 837, 838, 839, 840, 841, 842, 843, 844, 845, 846, 847, 848, 849, 850, 851, 852, 853, 854, 855, 856, 857] rfl (by decide +kernel)
set_option maxRecDepth 20000 in
theorem gL_law_X4_clear : GoodIn wsL_law (wsV RL 116 RX4 yX4_clear wsX4_clear) := goodIn_app (goodIn_of _ (by decide +kernel)) ggL_law_X4_clear
set_option maxRecDepth 20000 in
theorem ggL_law_L_settings : GoodIn wsL_law wsL_settings := goodIn_ca (goodIn_r _ [483, 94, 484, 485, 486, 2, 487, 100, 101, 293, 27, 28, 30, 31, 108, 109, 110, 807, 808, 809, 810, 811, 812, 813, 814, 815, 816, 817, 818, 819, 820, 821, 822] rfl (by decide +kernel)) (goodIn_sub (fun _ h => List.mem_append_left _ (List.mem_append_left _ (List.mem_append_right _ h))) (by decide +kernel))
set_option maxRecDepth 20000 in
theorem gL_law_L_settings : GoodIn wsL_law (va_wsS RL 117 yL_settings wsL_settings) := goodIn_app (goodIn_of _ (by decide +kernel)) ggL_law_L_settings
set_option maxRecDepth 20000 in
theorem ggL_law_X4_settings : GoodIn wsL_law wsX4_settings := goodIn_r _ [491, 303, 82, 83, 85, 492, 188, 189, 5, 190, 191, 192, 193, 194, 195, 823, 824, 825, 826, 827, 828, 829, 830, 831, 832, 833, 834, 835, 836, 837, 838, 839, 840, 841, 842, 843, 844, 845, 846, 847, 848, 849, 850, 851, 852, 853, 854, 855, 856, 857] rfl (by decide +kernel)
set_option maxRecDepth 20000 in
theorem gL_law_X4_settings : GoodIn wsL_law (wsV RL 120 RX4 yX4_settings wsX4_settings) := goodIn_app (goodIn_of _ (by decide +kernel)) ggL_law_X4_settings
set_option maxRecDepth 20000 in
theorem ggL_law_L_workers : GoodIn wsL_law wsL_workers := goodIn_ca (goodIn_r _ [495, 94, 496, 497, 498, 2, 499, 100, 101, 32, 807, 808, 809, 810, 811, 812, 813, 814, 815, 816, 817, 818, 819, 820, 821, 822] rfl (by decide +kernel)) (goodIn_sub (fun _ h => List.mem_append_left _ (List.mem_append_left _ (List.mem_append_right _ h))) (by decide +kernel))
set_option maxRecDepth 20000 in
theorem gL_law_L_workers : GoodIn wsL_law (va_wsS RL 121 yL_workers wsL_workers) := goodIn_app (goodIn_of _ (by decide +kernel)) ggL_law_L_workers
set_option maxRecDepth 20000 in
theorem ggL_law_X4_workers : GoodIn wsL_law wsX4_workers := goodIn_r _ [503, 86, 191, 192, 193, 5, 194, 195, 823, 824, 825, 826, 827, 828, 829, 830, 831, 832, 833, 834, 835, 836, 837, 838, 839, 840, 841, 842, 843, 844, 845, 846, 847, 848, 849, 850, 851, 852, 853, 854, 855, 856, 857] rfl (by decide +kernel)
set_option maxRecDepth 20000 in
theorem gL_law_X4_workers : GoodIn wsL_law (wsV RL 123 RX4 yX4_workers wsX4_workers) := goodIn_app (goodIn_of _ (by decide +kernel)) ggL_law_X4_workers
set_option maxRecDepth 20000 in
theorem ggL_law_L_step : GoodIn wsL_law wsL_step := goodIn_ca (goodIn_r _ [506, 94, 507, 508, 509, 2, 510, 100, 101, 511, 512, 513, 514, 34, 18, 215, 294, 515, 111, 112, 113, 17, 114, 115, 220, 221, 222, 223, 224, 225, 226, 227, 228, 229, 230, 231, 232, 233, 234, 235, 45, 516, 413, 414, 107, 415, 411, 517, 518, 519, 520, 19, 389, 521, 522, 523, 357, 524, 374, 370, 372, 375, 371, 373, 369, 525, 526, 406, 527, 528, 529, 530, 531, 532, 129, 126, 533, 534, 535, 536, 537, 127, 538, 128, 539, 270, 271, 23, 272, 273, 274, 275, 540, 541, 542, 543, 125, 544, 545, 546, 547, 548, 549, 550, 551, 32, 31, 33, 552, 553, 554, 555, 36, 315, 556, 557, 558, 559, 560, 561, 562, 563, 564, 565, 566, 567, 236, 237, 238, 239, 240, 241, 568, 569, 570, 571, 572, 573, 574, 575, 40, 576, 577, 578, 579, 580, 581, 582, 583, 584, 585, 28, 27, 586, 587, 588, 589, 398, 590, 391, 392, 393, 394, 395, 396, 397, 399, 400, 591, 592, 593, 594, 595, 596, 597, 598, 599, 600, 601, 602, 603, 604, 605, 606, 607, 608, 609, 610, 611, 612, 613, 614, 615, 616, 617, 618, 30, 619, 620, 621, 622, 121, 623, 122, 624, 625, 626, 627, 628, 629, 630, 631, 632, 633, 634, 635, 636, 38, 637, 638, 639, 640, 641, 642, 643, 644, 645, 646, 647, 648, 649, 807, 808, 809, 810, 811, 812, 813, 814, 815, 816, 817, 818, 819, 820, 821, 822, 864, 865, 866, 867, 868, 869, 870, 871, 872, 873, 874, 875, 876, 877, 878, 879, 858, 859, 860, 880, 881, 882, 883, 884, 885, 886, 887, 888, 889, 890, 891, 892, 893, 894, 895, 896, 897, 861, 862, 863] rfl (by decide +kernel)) (goodIn_sub (fun _ h => List.mem_append_left _ (List.mem_append_left _ (List.mem_append_right _ h))) (by decide +kernel))
set_option maxRecDepth 20000 in
theorem gL_law_L_step : GoodIn wsL_law (va_wsS RL 124 yL_step wsL_step) := goodIn_app (goodIn_of _ (by decide +kernel)) ggL_law_L_step
set_option maxRecDepth 20000 in
theorem ggL_law_X4_step : GoodIn wsL_law wsX4_step := goodIn_r _ [653, 654, 191, 192, 193, 5, 194, 195, 655, 656, 657, 658, 187, 65, 422, 79, 78, 83, 82, 659, 660, 661, 662, 663, 88, 68, 69, 87, 89, 304, 305, 306, 307, 64, 664, 665, 666, 667, 252, 253, 254, 255, 66, 668, 669, 670, 671, 70, 672, 673, 674, 72, 675, 676, 677, 678, 679, 680, 681, 682, 683, 684, 685, 686, 687, 688, 689, 690, 691, 436, 437, 438, 439, 76, 73, 74, 75, 440, 441, 442, 692, 693, 694, 695, 696, 697, 698, 699, 700, 701, 702, 703, 704, 705, 706, 707, 71, 708, 709, 710, 711, 712, 713, 714, 715, 716, 717, 718, 719, 720, 721, 85, 492, 722, 723, 724, 725, 726, 727, 728, 729, 823, 824, 825, 826, 827, 828, 829, 830, 831, 832, 833, 834, 835, 836, 837, 838, 839, 840, 841, 842, 843, 844, 845, 846, 847, 848, 849, 850, 851, 852, 853, 854, 855, 856, 857] rfl (by decide +kernel)
set_option maxRecDepth 20000 in
theorem gL_law_X4_step : GoodIn wsL_law (wsV RL 126 RX4 yX4_step wsX4_step) := goodIn_app (goodIn_of _ (by decide +kernel)) ggL_law_X4_step
set_option maxRecDepth 20000 in
theorem ggL_law_L_of : GoodIn wsL_law wsL_of := goodIn_ca (goodIn_r _ [732, 199, 733, 734, 735, 2, 736, 213, 214, 264, 295, 296, 297, 265, 737, 738, 739, 740, 206, 207, 208, 209, 210, 211, 212, 18, 215, 216, 217, 218, 219, 111, 112, 113, 17, 114, 115, 220, 221, 222, 223, 224, 225, 226, 227, 228, 229, 230, 231, 232, 233, 234, 235, 45, 864, 865, 866, 867, 868, 869, 870, 871, 872, 873, 874, 875, 876, 877, 878, 879, 861, 862, 863, 807, 808, 809, 810, 811, 812, 813, 814, 815, 816, 817, 818, 819, 820, 821, 822, 858, 859, 860] rfl (by decide +kernel)) (goodIn_sub (fun _ h => List.mem_append_right _ h) (by decide +kernel))
set_option maxRecDepth 20000 in
theorem gL_law_L_of : GoodIn wsL_law (va_wsS RL 127 yL_of wsL_of) := goodIn_app (goodIn_of _ (by decide +kernel)) ggL_law_L_of
set_option maxRecDepth 20000 in
theorem ggL_law_X4_of : GoodIn wsL_law wsX4_of := goodIn_r _ [744, 64, 248, 249, 250, 5, 251, 187, 191, 192, 193, 194, 195, 823, 824, 825, 826, 827, 828, 829, 830, 831, 832, 833, 834, 835, 836, 837, 838, 839, 840, 841, 842, 843, 844, 845, 846, 847, 848, 849, 850, 851, 852, 853, 854, 855, 856, 857] rfl (by decide +kernel)
set_option maxRecDepth 20000 in
theorem gL_law_X4_of : GoodIn wsL_law (wsV RL 130 RX4 yX4_of wsX4_of) := goodIn_app (goodIn_of _ (by decide +kernel)) ggL_law_X4_of
set_option maxRecDepth 20000 in
theorem ggL_law_L_about : GoodIn wsL_law wsL_about := goodIn_ca (goodIn_r _ [747, 199, 748, 749, 750, 2, 751, 213, 214, 515, 315, 637, 752, 209, 210, 211, 212, 18, 215, 216, 217, 218, 219, 111, 112, 113, 17, 114, 115, 220, 221, 222, 223, 224, 225, 226, 227, 228, 229, 230, 231, 232, 233, 234, 235, 45, 511, 512, 513, 514, 34, 294, 516, 413, 414, 107, 415, 411, 864, 865, 866, 867, 868, 869, 870, 871, 872, 873, 874, 875, 876, 877, 878, 879, 807, 808, 809, 810, 811, 812, 813, 814, 815, 816, 817, 818, 819, 820, 821, 822, 858, 859, 860] rfl (by decide +kernel)) (goodIn_sub (fun _ h => List.mem_append_right _ h) (by decide +kernel))
set_option maxRecDepth 20000 in
theorem gL_law_L_about : GoodIn wsL_law (va_wsS RL 131 yL_about wsL_about) := goodIn_app (goodIn_of _ (by decide +kernel)) ggL_law_L_about
set_option maxRecDepth 20000 in
theorem ggL_law_X4_about : GoodIn wsL_law wsX4_about := goodIn_r _ [756, 87, 65, 66, 248, 249, 250, 5, 251, 187, 191, 192, 193, 194, 195, 660, 661, 662, 663, 88, 422, 68, 69, 654, 89, 304, 305, 306, 307, 64, 757, 758, 759, 760, 823, 824, 825, 826, 827, 828, 829, 830, 831, 832, 833, 834, 835, 836, 837, 838, 839, 840, 841, 842, 843, 844, 845, 846, 847, 848, 849, 850, 851, 852, 853, 854, 855, 856, 857] rfl (by decide +kernel)
set_option maxRecDepth 20000 in
theorem gL_law_X4_about : GoodIn wsL_law (wsV RL 134 RX4 yX4_about wsX4_about) := goodIn_app (goodIn_of _ (by decide +kernel)) ggL_law_X4_about
set_option maxRecDepth 20000 in
theorem ggL_law_L_ofRow : GoodIn wsL_law wsL_ofRow := goodIn_ca (goodIn_r _ [763, 199, 764, 765, 766, 2, 767, 213, 214, 384, 768, 455, 456, 457, 458, 19, 389, 111, 112, 113, 17, 114, 115, 220, 221, 222, 223, 224, 225, 226, 227, 228, 229, 230, 231, 232, 233, 234, 235, 45, 769, 612, 613, 357, 614, 375, 369, 595, 371, 597, 374, 370, 544, 545, 546, 23, 547, 273, 274, 275, 521, 522, 523, 524, 372, 373, 525, 526, 406, 527, 528, 529, 530, 531, 107, 532, 129, 126, 533, 534, 535, 536, 537, 127, 538, 128, 539, 270, 271, 272, 540, 541, 542, 543, 125, 880, 881, 882, 883, 884, 885, 886, 887, 888, 889, 890, 891, 892, 893, 894, 895, 896, 897, 807, 808, 809, 810, 811, 812, 813, 814, 815, 816, 817, 818, 819, 820, 821, 822, 858, 859, 860, 864, 865, 866, 867, 868, 869, 870, 871, 872, 873, 874, 875, 876, 877, 878, 879, 861, 862, 863] rfl (by decide +kernel)) (goodIn_sub (fun _ h => List.mem_append_right _ h) (by decide +kernel))
set_option maxRecDepth 20000 in
theorem gL_law_L_ofRow : GoodIn wsL_law (va_wsS RL 135 yL_ofRow wsL_ofRow) := goodIn_app (goodIn_of _ (by decide +kernel)) ggL_law_L_ofRow
set_option maxRecDepth 20000 in
theorem ggL_law_X4_ofRow : GoodIn wsL_law wsX4_ofRow := goodIn_r _ [773, 422, 78, 191, 192, 193, 5, 194, 195, 708, 709, 710, 711, 68, 69, 712, 713, 714, 715, 70, 64, 668, 669, 670, 671, 672, 673, 674, 72, 675, 676, 677, 678, 304, 305, 306, 307, 679, 680, 681, 682, 823, 824, 825, 826, 827, 828, 829, 830, 831, 832, 833, 834, 835, 836, 837, 838, 839, 840, 841, 842, 843, 844, 845, 846, 847, 848, 849, 850, 851, 852, 853, 854, 855, 856, 857] rfl (by decide +kernel)
set_option maxRecDepth 20000 in
theorem gL_law_X4_ofRow : GoodIn wsL_law (wsV RL 137 RX4 yX4_ofRow wsX4_ofRow) := goodIn_app (goodIn_of _ (by decide +kernel)) ggL_law_X4_ofRow
set_option maxRecDepth 20000 in
theorem ggL_law_L_count : GoodIn wsL_law wsL_count := goodIn_ca (goodIn_r _ [776, 199, 777, 778, 779, 2, 780, 213, 214, 18, 19, 34, 33, 111, 112, 113, 17, 114, 115, 511, 512, 513, 514, 215, 294, 515, 220, 221, 222, 223, 224, 225, 226, 227, 228, 229, 230, 231, 232, 233, 234, 235, 45, 516, 413, 414, 107, 415, 411, 552, 553, 554, 555, 36, 315, 556, 557, 558, 559, 646, 647, 648, 649, 781, 782, 783, 784, 785, 786, 787, 788, 389, 789, 517, 518, 519, 520, 521, 522, 523, 357, 524, 374, 370, 372, 375, 371, 373, 369, 525, 526, 406, 527, 528, 529, 530, 531, 532, 129, 126, 533, 534, 535, 536, 537, 127, 538, 128, 539, 270, 271, 23, 272, 273, 274, 275, 540, 541, 542, 543, 125, 544, 545, 546, 547, 807, 808, 809, 810, 811, 812, 813, 814, 815, 816, 817, 818, 819, 820, 821, 822, 858, 859, 860, 864, 865, 866, 867, 868, 869, 870, 871, 872, 873, 874, 875, 876, 877, 878, 879, 880, 881, 882, 883, 884, 885, 886, 887, 888, 889, 890, 891, 892, 893, 894, 895, 896, 897, 861, 862, 863] rfl (by decide +kernel)) (goodIn_sub (fun _ h => List.mem_append_right _ h) (by decide +kernel))
set_option maxRecDepth 20000 in
theorem gL_law_L_count : GoodIn wsL_law (va_wsS RL 138 yL_count wsL_count) := goodIn_app (goodIn_of _ (by decide +kernel)) ggL_law_L_count
set_option maxRecDepth 20000 in
theorem ggL_law_X4_count : GoodIn wsL_law wsX4_count := goodIn_r _ [793, 187, 65, 422, 654, 659, 191, 192, 193, 5, 194, 195, 726, 727, 728, 729, 89, 660, 661, 662, 663, 88, 68, 69, 87, 304, 305, 306, 307, 64, 794, 795, 796, 797, 668, 669, 670, 671, 70, 672, 673, 674, 72, 675, 676, 677, 678, 679, 680, 681, 682, 687, 688, 689, 690, 691, 823, 824, 825, 826, 827, 828, 829, 830, 831, 832, 833, 834, 835, 836, 837, 838, 839, 840, 841, 842, 843, 844, 845, 846, 847, 848, 849, 850, 851, 852, 853, 854, 855, 856, 857] rfl (by decide +kernel)
set_option maxRecDepth 20000 in
theorem gL_law_X4_count : GoodIn wsL_law (wsV RL 140 RX4 yX4_count wsX4_count) := goodIn_app (goodIn_of _ (by decide +kernel)) ggL_law_X4_count
set_option maxRecDepth 20000 in
theorem ggL_law_X3_motion : GoodIn wsL_law wsX3_motion := goodIn_r _ [801, 18, 215, 294, 111, 112, 113, 17, 114, 115, 220, 221, 222, 223, 224, 225, 226, 227, 228, 229, 230, 231, 232, 233, 234, 235, 45, 802, 629, 630, 107, 631, 121, 122, 632, 545, 546, 23, 547, 273, 274, 275, 807, 808, 809, 810, 811, 812, 813, 814, 815, 816, 817, 818, 819, 820, 821, 822, 864, 865, 866, 867, 868, 869, 870, 871, 872, 873, 874, 875, 876, 877, 878, 879, 858, 859, 860, 861, 862, 863] rfl (by decide +kernel)
set_option maxRecDepth 20000 in
theorem gL_law_X3_motion : GoodIn wsL_law (wsV RL 141 RX3 yX3_motion wsX3_motion) := goodIn_app (goodIn_of _ (by decide +kernel)) ggL_law_X3_motion
set_option maxRecDepth 20000 in
theorem ggL_law_X4_motion : GoodIn wsL_law wsX4_motion := goodIn_r _ [806, 195, 187, 304, 305, 306, 5, 307, 64, 722, 723, 724, 725, 823, 824, 825, 826, 827, 828, 829, 830, 831, 832, 833, 834, 835, 836, 837, 838, 839, 840, 841, 842, 843, 844, 845, 846, 847, 848, 849, 850, 851, 852, 853, 854, 855, 856, 857] rfl (by decide +kernel)
set_option maxRecDepth 20000 in
theorem gL_law_X4_motion : GoodIn wsL_law (wsV RL 145 RX4 yX4_motion wsX4_motion) := goodIn_app (goodIn_of _ (by decide +kernel)) ggL_law_X4_motion
theorem dL_law_0 : decode cL_law 0 = .ok (.new 8, 3) := by decide +kernel
theorem dL_law_3 : decode cL_law 3 = .ok (.dup, 1) := by decide +kernel
theorem dL_law_4 : decode cL_law 4 = .ok (.invokespecial 71, 3) := by decide +kernel
theorem dL_law_7 : decode cL_law 7 = .ok (.astore_n 1, 1) := by decide +kernel
theorem dL_law_8 : decode cL_law 8 = .ok (.new 72, 3) := by decide +kernel
theorem dL_law_11 : decode cL_law 11 = .ok (.dup, 1) := by decide +kernel
theorem dL_law_12 : decode cL_law 12 = .ok (.invokespecial 74, 3) := by decide +kernel
theorem dL_law_15 : decode cL_law 15 = .ok (.astore_n 2, 1) := by decide +kernel
theorem dL_law_16 : decode cL_law 16 = .ok (.iconst 1, 1) := by decide +kernel
theorem dL_law_17 : decode cL_law 17 = .ok (.newarray .long, 2) := by decide +kernel
theorem dL_law_19 : decode cL_law 19 = .ok (.astore_n 3, 1) := by decide +kernel
theorem dL_law_20 : decode cL_law 20 = .ok (.iconst 1, 1) := by decide +kernel
theorem dL_law_21 : decode cL_law 21 = .ok (.newarray .double, 2) := by decide +kernel
theorem dL_law_23 : decode cL_law 23 = .ok (.astore 4, 2) := by decide +kernel
theorem dL_law_25 : decode cL_law 25 = .ok (.iconst 0, 1) := by decide +kernel
theorem dL_law_26 : decode cL_law 26 = .ok (.istore 5, 2) := by decide +kernel
theorem dL_law_28 : decode cL_law 28 = .ok (.iload 5, 2) := by decide +kernel
theorem dL_law_30 : decode cL_law 30 = .ok (.aload_n 0, 1) := by decide +kernel
theorem dL_law_31 : decode cL_law 31 = .ok (.arraylength, 1) := by decide +kernel
theorem dL_law_32 : decode cL_law 32 = .ok (.bipush 8, 2) := by decide +kernel
theorem dL_law_34 : decode cL_law 34 = .ok (.isub, 1) := by decide +kernel
theorem dL_law_35 : decode cL_law 35 = .ok (.if_icmp .gt 1208, 3) := by decide +kernel
theorem dL_law_38 : decode cL_law 38 = .ok (.aload_n 0, 1) := by decide +kernel
theorem dL_law_39 : decode cL_law 39 = .ok (.iload 5, 2) := by decide +kernel
theorem dL_law_41 : decode cL_law 41 = .ok (.iaload, 1) := by decide +kernel
theorem dL_law_42 : decode cL_law 42 = .ok (.bipush 31, 2) := by decide +kernel
theorem dL_law_44 : decode cL_law 44 = .ok (.iand, 1) := by decide +kernel
theorem dL_law_45 : decode cL_law 45 = .ok (.tableswitch 1192 0 16 #[83, 179, 264, 424, 524, 552, 637, 773, 879, 892, 969, 997, 1025, 1066, 1106, 1147, 1175], 83) := by decide +kernel
theorem dL_law_128 : decode cL_law 128 = .ok (.aload_n 1, 1) := by decide +kernel
theorem dL_law_129 : decode cL_law 129 = .ok (.aload_n 0, 1) := by decide +kernel
theorem dL_law_130 : decode cL_law 130 = .ok (.iload 5, 2) := by decide +kernel
theorem dL_law_132 : decode cL_law 132 = .ok (.iconst 1, 1) := by decide +kernel
theorem dL_law_133 : decode cL_law 133 = .ok (.iadd, 1) := by decide +kernel
theorem dL_law_134 : decode cL_law 134 = .ok (.iaload, 1) := by decide +kernel
theorem dL_law_135 : decode cL_law 135 = .ok (.i2f, 1) := by decide +kernel
theorem dL_law_136 : decode cL_law 136 = .ok (.ldc 75, 2) := by decide +kernel
theorem dL_law_138 : decode cL_law 138 = .ok (.fmul, 1) := by decide +kernel
theorem dL_law_139 : decode cL_law 139 = .ok (.aload_n 0, 1) := by decide +kernel
theorem dL_law_140 : decode cL_law 140 = .ok (.iload 5, 2) := by decide +kernel
theorem dL_law_142 : decode cL_law 142 = .ok (.iconst 2, 1) := by decide +kernel
theorem dL_law_143 : decode cL_law 143 = .ok (.iadd, 1) := by decide +kernel
theorem dL_law_144 : decode cL_law 144 = .ok (.iaload, 1) := by decide +kernel
theorem dL_law_145 : decode cL_law 145 = .ok (.i2f, 1) := by decide +kernel
theorem dL_law_146 : decode cL_law 146 = .ok (.ldc 75, 2) := by decide +kernel
theorem dL_law_148 : decode cL_law 148 = .ok (.fmul, 1) := by decide +kernel
theorem dL_law_149 : decode cL_law 149 = .ok (.aload_n 0, 1) := by decide +kernel
theorem dL_law_150 : decode cL_law 150 = .ok (.iload 5, 2) := by decide +kernel
theorem dL_law_152 : decode cL_law 152 = .ok (.iconst 3, 1) := by decide +kernel
theorem dL_law_153 : decode cL_law 153 = .ok (.iadd, 1) := by decide +kernel
theorem dL_law_154 : decode cL_law 154 = .ok (.iaload, 1) := by decide +kernel
theorem dL_law_155 : decode cL_law 155 = .ok (.i2f, 1) := by decide +kernel
theorem dL_law_156 : decode cL_law 156 = .ok (.ldc 75, 2) := by decide +kernel
theorem dL_law_158 : decode cL_law 158 = .ok (.fmul, 1) := by decide +kernel
theorem dL_law_159 : decode cL_law 159 = .ok (.aload_n 0, 1) := by decide +kernel
theorem dL_law_160 : decode cL_law 160 = .ok (.iload 5, 2) := by decide +kernel
theorem dL_law_162 : decode cL_law 162 = .ok (.iconst 4, 1) := by decide +kernel
theorem dL_law_163 : decode cL_law 163 = .ok (.iadd, 1) := by decide +kernel
theorem dL_law_164 : decode cL_law 164 = .ok (.iaload, 1) := by decide +kernel
theorem dL_law_165 : decode cL_law 165 = .ok (.i2f, 1) := by decide +kernel
theorem dL_law_166 : decode cL_law 166 = .ok (.ldc 75, 2) := by decide +kernel
theorem dL_law_168 : decode cL_law 168 = .ok (.fmul, 1) := by decide +kernel
theorem dL_law_169 : decode cL_law 169 = .ok (.aload_n 3, 1) := by decide +kernel
theorem dL_law_170 : decode cL_law 170 = .ok (.invokestatic 76, 3) := by decide +kernel
theorem dL_law_173 : decode cL_law 173 = .ok (.istore 6, 2) := by decide +kernel
theorem dL_law_175 : decode cL_law 175 = .ok (.aload_n 2, 1) := by decide +kernel
theorem dL_law_176 : decode cL_law 176 = .ok (.aload_n 0, 1) := by decide +kernel
theorem dL_law_177 : decode cL_law 177 = .ok (.iload 5, 2) := by decide +kernel
theorem dL_law_179 : decode cL_law 179 = .ok (.iconst 1, 1) := by decide +kernel
theorem dL_law_180 : decode cL_law 180 = .ok (.iadd, 1) := by decide +kernel
theorem dL_law_181 : decode cL_law 181 = .ok (.iaload, 1) := by decide +kernel
theorem dL_law_182 : decode cL_law 182 = .ok (.i2f, 1) := by decide +kernel
theorem dL_law_183 : decode cL_law 183 = .ok (.ldc 75, 2) := by decide +kernel
theorem dL_law_185 : decode cL_law 185 = .ok (.fmul, 1) := by decide +kernel
theorem dL_law_186 : decode cL_law 186 = .ok (.aload_n 0, 1) := by decide +kernel
theorem dL_law_187 : decode cL_law 187 = .ok (.iload 5, 2) := by decide +kernel
theorem dL_law_189 : decode cL_law 189 = .ok (.iconst 2, 1) := by decide +kernel
theorem dL_law_190 : decode cL_law 190 = .ok (.iadd, 1) := by decide +kernel
theorem dL_law_191 : decode cL_law 191 = .ok (.iaload, 1) := by decide +kernel
theorem dL_law_192 : decode cL_law 192 = .ok (.i2f, 1) := by decide +kernel
theorem dL_law_193 : decode cL_law 193 = .ok (.ldc 75, 2) := by decide +kernel
theorem dL_law_195 : decode cL_law 195 = .ok (.fmul, 1) := by decide +kernel
theorem dL_law_196 : decode cL_law 196 = .ok (.aload_n 0, 1) := by decide +kernel
theorem dL_law_197 : decode cL_law 197 = .ok (.iload 5, 2) := by decide +kernel
theorem dL_law_199 : decode cL_law 199 = .ok (.iconst 3, 1) := by decide +kernel
theorem dL_law_200 : decode cL_law 200 = .ok (.iadd, 1) := by decide +kernel
theorem dL_law_201 : decode cL_law 201 = .ok (.iaload, 1) := by decide +kernel
theorem dL_law_202 : decode cL_law 202 = .ok (.i2f, 1) := by decide +kernel
theorem dL_law_203 : decode cL_law 203 = .ok (.ldc 75, 2) := by decide +kernel
theorem dL_law_205 : decode cL_law 205 = .ok (.fmul, 1) := by decide +kernel
theorem dL_law_206 : decode cL_law 206 = .ok (.aload_n 0, 1) := by decide +kernel
theorem dL_law_207 : decode cL_law 207 = .ok (.iload 5, 2) := by decide +kernel
theorem dL_law_209 : decode cL_law 209 = .ok (.iconst 4, 1) := by decide +kernel
theorem dL_law_210 : decode cL_law 210 = .ok (.iadd, 1) := by decide +kernel
theorem dL_law_211 : decode cL_law 211 = .ok (.iaload, 1) := by decide +kernel
theorem dL_law_212 : decode cL_law 212 = .ok (.i2f, 1) := by decide +kernel
theorem dL_law_213 : decode cL_law 213 = .ok (.ldc 75, 2) := by decide +kernel
theorem dL_law_215 : decode cL_law 215 = .ok (.fmul, 1) := by decide +kernel
theorem dL_law_216 : decode cL_law 216 = .ok (.invokevirtual 81, 3) := by decide +kernel
theorem dL_law_219 : decode cL_law 219 = .ok (.istore 7, 2) := by decide +kernel
theorem dL_law_221 : decode cL_law 221 = .ok (.goto 1016, 3) := by decide +kernel
theorem dL_law_224 : decode cL_law 224 = .ok (.aload_n 1, 1) := by decide +kernel
theorem dL_law_225 : decode cL_law 225 = .ok (.aload_n 0, 1) := by decide +kernel
theorem dL_law_226 : decode cL_law 226 = .ok (.iload 5, 2) := by decide +kernel
theorem dL_law_228 : decode cL_law 228 = .ok (.iconst 1, 1) := by decide +kernel
theorem dL_law_229 : decode cL_law 229 = .ok (.iadd, 1) := by decide +kernel
theorem dL_law_230 : decode cL_law 230 = .ok (.iaload, 1) := by decide +kernel
theorem dL_law_231 : decode cL_law 231 = .ok (.aload_n 0, 1) := by decide +kernel
theorem dL_law_232 : decode cL_law 232 = .ok (.iload 5, 2) := by decide +kernel
theorem dL_law_234 : decode cL_law 234 = .ok (.iconst 2, 1) := by decide +kernel
theorem dL_law_235 : decode cL_law 235 = .ok (.iadd, 1) := by decide +kernel
theorem dL_law_236 : decode cL_law 236 = .ok (.iaload, 1) := by decide +kernel
theorem dL_law_237 : decode cL_law 237 = .ok (.i2f, 1) := by decide +kernel
theorem dL_law_238 : decode cL_law 238 = .ok (.ldc 75, 2) := by decide +kernel
theorem dL_law_240 : decode cL_law 240 = .ok (.fmul, 1) := by decide +kernel
theorem dL_law_241 : decode cL_law 241 = .ok (.aload_n 0, 1) := by decide +kernel
theorem dL_law_242 : decode cL_law 242 = .ok (.iload 5, 2) := by decide +kernel
theorem dL_law_244 : decode cL_law 244 = .ok (.iconst 3, 1) := by decide +kernel
theorem dL_law_245 : decode cL_law 245 = .ok (.iadd, 1) := by decide +kernel
theorem dL_law_246 : decode cL_law 246 = .ok (.iaload, 1) := by decide +kernel
theorem dL_law_247 : decode cL_law 247 = .ok (.i2f, 1) := by decide +kernel
theorem dL_law_248 : decode cL_law 248 = .ok (.ldc 75, 2) := by decide +kernel
theorem dL_law_250 : decode cL_law 250 = .ok (.fmul, 1) := by decide +kernel
theorem dL_law_251 : decode cL_law 251 = .ok (.aload_n 0, 1) := by decide +kernel
theorem dL_law_252 : decode cL_law 252 = .ok (.iload 5, 2) := by decide +kernel
theorem dL_law_254 : decode cL_law 254 = .ok (.iconst 4, 1) := by decide +kernel
theorem dL_law_255 : decode cL_law 255 = .ok (.iadd, 1) := by decide +kernel
theorem dL_law_256 : decode cL_law 256 = .ok (.iaload, 1) := by decide +kernel
theorem dL_law_257 : decode cL_law 257 = .ok (.i2f, 1) := by decide +kernel
theorem dL_law_258 : decode cL_law 258 = .ok (.ldc 75, 2) := by decide +kernel
theorem dL_law_260 : decode cL_law 260 = .ok (.fmul, 1) := by decide +kernel
theorem dL_law_261 : decode cL_law 261 = .ok (.invokestatic 82, 3) := by decide +kernel
theorem dL_law_264 : decode cL_law 264 = .ok (.istore 6, 2) := by decide +kernel
theorem dL_law_266 : decode cL_law 266 = .ok (.aload_n 2, 1) := by decide +kernel
theorem dL_law_267 : decode cL_law 267 = .ok (.aload_n 0, 1) := by decide +kernel
theorem dL_law_268 : decode cL_law 268 = .ok (.iload 5, 2) := by decide +kernel
theorem dL_law_270 : decode cL_law 270 = .ok (.iconst 1, 1) := by decide +kernel
theorem dL_law_271 : decode cL_law 271 = .ok (.iadd, 1) := by decide +kernel
theorem dL_law_272 : decode cL_law 272 = .ok (.iaload, 1) := by decide +kernel
theorem dL_law_273 : decode cL_law 273 = .ok (.aload_n 0, 1) := by decide +kernel
theorem dL_law_274 : decode cL_law 274 = .ok (.iload 5, 2) := by decide +kernel
theorem dL_law_276 : decode cL_law 276 = .ok (.iconst 2, 1) := by decide +kernel
theorem dL_law_277 : decode cL_law 277 = .ok (.iadd, 1) := by decide +kernel
theorem dL_law_278 : decode cL_law 278 = .ok (.iaload, 1) := by decide +kernel
theorem dL_law_279 : decode cL_law 279 = .ok (.i2f, 1) := by decide +kernel
theorem dL_law_280 : decode cL_law 280 = .ok (.ldc 75, 2) := by decide +kernel
theorem dL_law_282 : decode cL_law 282 = .ok (.fmul, 1) := by decide +kernel
theorem dL_law_283 : decode cL_law 283 = .ok (.aload_n 0, 1) := by decide +kernel
theorem dL_law_284 : decode cL_law 284 = .ok (.iload 5, 2) := by decide +kernel
theorem dL_law_286 : decode cL_law 286 = .ok (.iconst 3, 1) := by decide +kernel
theorem dL_law_287 : decode cL_law 287 = .ok (.iadd, 1) := by decide +kernel
theorem dL_law_288 : decode cL_law 288 = .ok (.iaload, 1) := by decide +kernel
theorem dL_law_289 : decode cL_law 289 = .ok (.i2f, 1) := by decide +kernel
theorem dL_law_290 : decode cL_law 290 = .ok (.ldc 75, 2) := by decide +kernel
theorem dL_law_292 : decode cL_law 292 = .ok (.fmul, 1) := by decide +kernel
theorem dL_law_293 : decode cL_law 293 = .ok (.aload_n 0, 1) := by decide +kernel
theorem dL_law_294 : decode cL_law 294 = .ok (.iload 5, 2) := by decide +kernel
theorem dL_law_296 : decode cL_law 296 = .ok (.iconst 4, 1) := by decide +kernel
theorem dL_law_297 : decode cL_law 297 = .ok (.iadd, 1) := by decide +kernel
theorem dL_law_298 : decode cL_law 298 = .ok (.iaload, 1) := by decide +kernel
theorem dL_law_299 : decode cL_law 299 = .ok (.i2f, 1) := by decide +kernel
theorem dL_law_300 : decode cL_law 300 = .ok (.ldc 75, 2) := by decide +kernel
theorem dL_law_302 : decode cL_law 302 = .ok (.fmul, 1) := by decide +kernel
theorem dL_law_303 : decode cL_law 303 = .ok (.invokevirtual 85, 3) := by decide +kernel
theorem dL_law_306 : decode cL_law 306 = .ok (.goto 931, 3) := by decide +kernel
theorem dL_law_309 : decode cL_law 309 = .ok (.aload_n 1, 1) := by decide +kernel
theorem dL_law_310 : decode cL_law 310 = .ok (.aload_n 0, 1) := by decide +kernel
theorem dL_law_311 : decode cL_law 311 = .ok (.iload 5, 2) := by decide +kernel
theorem dL_law_313 : decode cL_law 313 = .ok (.iconst 1, 1) := by decide +kernel
theorem dL_law_314 : decode cL_law 314 = .ok (.iadd, 1) := by decide +kernel
theorem dL_law_315 : decode cL_law 315 = .ok (.iaload, 1) := by decide +kernel
theorem dL_law_316 : decode cL_law 316 = .ok (.aload_n 0, 1) := by decide +kernel
theorem dL_law_317 : decode cL_law 317 = .ok (.iload 5, 2) := by decide +kernel
theorem dL_law_319 : decode cL_law 319 = .ok (.iconst 2, 1) := by decide +kernel
theorem dL_law_320 : decode cL_law 320 = .ok (.iadd, 1) := by decide +kernel
theorem dL_law_321 : decode cL_law 321 = .ok (.iaload, 1) := by decide +kernel
theorem dL_law_322 : decode cL_law 322 = .ok (.i2f, 1) := by decide +kernel
theorem dL_law_323 : decode cL_law 323 = .ok (.ldc 75, 2) := by decide +kernel
theorem dL_law_325 : decode cL_law 325 = .ok (.fmul, 1) := by decide +kernel
theorem dL_law_326 : decode cL_law 326 = .ok (.aload_n 0, 1) := by decide +kernel
theorem dL_law_327 : decode cL_law 327 = .ok (.iload 5, 2) := by decide +kernel
theorem dL_law_329 : decode cL_law 329 = .ok (.iconst 3, 1) := by decide +kernel
theorem dL_law_330 : decode cL_law 330 = .ok (.iadd, 1) := by decide +kernel
theorem dL_law_331 : decode cL_law 331 = .ok (.iaload, 1) := by decide +kernel
theorem dL_law_332 : decode cL_law 332 = .ok (.i2f, 1) := by decide +kernel
theorem dL_law_333 : decode cL_law 333 = .ok (.ldc 75, 2) := by decide +kernel
theorem dL_law_335 : decode cL_law 335 = .ok (.fmul, 1) := by decide +kernel
theorem dL_law_336 : decode cL_law 336 = .ok (.aload_n 0, 1) := by decide +kernel
theorem dL_law_337 : decode cL_law 337 = .ok (.iload 5, 2) := by decide +kernel
theorem dL_law_339 : decode cL_law 339 = .ok (.iconst 4, 1) := by decide +kernel
theorem dL_law_340 : decode cL_law 340 = .ok (.iadd, 1) := by decide +kernel
theorem dL_law_341 : decode cL_law 341 = .ok (.iaload, 1) := by decide +kernel
theorem dL_law_342 : decode cL_law 342 = .ok (.i2f, 1) := by decide +kernel
theorem dL_law_343 : decode cL_law 343 = .ok (.ldc 75, 2) := by decide +kernel
theorem dL_law_345 : decode cL_law 345 = .ok (.fmul, 1) := by decide +kernel
theorem dL_law_346 : decode cL_law 346 = .ok (.aload_n 0, 1) := by decide +kernel
theorem dL_law_347 : decode cL_law 347 = .ok (.iload 5, 2) := by decide +kernel
theorem dL_law_349 : decode cL_law 349 = .ok (.iconst 5, 1) := by decide +kernel
theorem dL_law_350 : decode cL_law 350 = .ok (.iadd, 1) := by decide +kernel
theorem dL_law_351 : decode cL_law 351 = .ok (.iaload, 1) := by decide +kernel
theorem dL_law_352 : decode cL_law 352 = .ok (.i2f, 1) := by decide +kernel
theorem dL_law_353 : decode cL_law 353 = .ok (.ldc 75, 2) := by decide +kernel
theorem dL_law_355 : decode cL_law 355 = .ok (.fmul, 1) := by decide +kernel
theorem dL_law_356 : decode cL_law 356 = .ok (.aload_n 0, 1) := by decide +kernel
theorem dL_law_357 : decode cL_law 357 = .ok (.iload 5, 2) := by decide +kernel
theorem dL_law_359 : decode cL_law 359 = .ok (.bipush 6, 2) := by decide +kernel
theorem dL_law_361 : decode cL_law 361 = .ok (.iadd, 1) := by decide +kernel
theorem dL_law_362 : decode cL_law 362 = .ok (.iaload, 1) := by decide +kernel
theorem dL_law_363 : decode cL_law 363 = .ok (.i2f, 1) := by decide +kernel
theorem dL_law_364 : decode cL_law 364 = .ok (.ldc 75, 2) := by decide +kernel
theorem dL_law_366 : decode cL_law 366 = .ok (.fmul, 1) := by decide +kernel
theorem dL_law_367 : decode cL_law 367 = .ok (.aload_n 0, 1) := by decide +kernel
theorem dL_law_368 : decode cL_law 368 = .ok (.iload 5, 2) := by decide +kernel
theorem dL_law_370 : decode cL_law 370 = .ok (.bipush 7, 2) := by decide +kernel
theorem dL_law_372 : decode cL_law 372 = .ok (.iadd, 1) := by decide +kernel
theorem dL_law_373 : decode cL_law 373 = .ok (.iaload, 1) := by decide +kernel
theorem dL_law_374 : decode cL_law 374 = .ok (.i2f, 1) := by decide +kernel
theorem dL_law_375 : decode cL_law 375 = .ok (.ldc 75, 2) := by decide +kernel
theorem dL_law_377 : decode cL_law 377 = .ok (.fmul, 1) := by decide +kernel
theorem dL_law_378 : decode cL_law 378 = .ok (.invokestatic 86, 3) := by decide +kernel
theorem dL_law_381 : decode cL_law 381 = .ok (.istore 6, 2) := by decide +kernel
theorem dL_law_383 : decode cL_law 383 = .ok (.aload_n 2, 1) := by decide +kernel
theorem dL_law_384 : decode cL_law 384 = .ok (.aload_n 0, 1) := by decide +kernel
theorem dL_law_385 : decode cL_law 385 = .ok (.iload 5, 2) := by decide +kernel
theorem dL_law_387 : decode cL_law 387 = .ok (.iconst 1, 1) := by decide +kernel
theorem dL_law_388 : decode cL_law 388 = .ok (.iadd, 1) := by decide +kernel
theorem dL_law_389 : decode cL_law 389 = .ok (.iaload, 1) := by decide +kernel
theorem dL_law_390 : decode cL_law 390 = .ok (.aload_n 0, 1) := by decide +kernel
theorem dL_law_391 : decode cL_law 391 = .ok (.iload 5, 2) := by decide +kernel
theorem dL_law_393 : decode cL_law 393 = .ok (.iconst 2, 1) := by decide +kernel
theorem dL_law_394 : decode cL_law 394 = .ok (.iadd, 1) := by decide +kernel
theorem dL_law_395 : decode cL_law 395 = .ok (.iaload, 1) := by decide +kernel
theorem dL_law_396 : decode cL_law 396 = .ok (.i2f, 1) := by decide +kernel
theorem dL_law_397 : decode cL_law 397 = .ok (.ldc 75, 2) := by decide +kernel
theorem dL_law_399 : decode cL_law 399 = .ok (.fmul, 1) := by decide +kernel
theorem dL_law_400 : decode cL_law 400 = .ok (.aload_n 0, 1) := by decide +kernel
theorem dL_law_401 : decode cL_law 401 = .ok (.iload 5, 2) := by decide +kernel
theorem dL_law_403 : decode cL_law 403 = .ok (.iconst 3, 1) := by decide +kernel
theorem dL_law_404 : decode cL_law 404 = .ok (.iadd, 1) := by decide +kernel
theorem dL_law_405 : decode cL_law 405 = .ok (.iaload, 1) := by decide +kernel
theorem dL_law_406 : decode cL_law 406 = .ok (.i2f, 1) := by decide +kernel
theorem dL_law_407 : decode cL_law 407 = .ok (.ldc 75, 2) := by decide +kernel
theorem dL_law_409 : decode cL_law 409 = .ok (.fmul, 1) := by decide +kernel
theorem dL_law_410 : decode cL_law 410 = .ok (.aload_n 0, 1) := by decide +kernel
theorem dL_law_411 : decode cL_law 411 = .ok (.iload 5, 2) := by decide +kernel
theorem dL_law_413 : decode cL_law 413 = .ok (.iconst 4, 1) := by decide +kernel
theorem dL_law_414 : decode cL_law 414 = .ok (.iadd, 1) := by decide +kernel
theorem dL_law_415 : decode cL_law 415 = .ok (.iaload, 1) := by decide +kernel
theorem dL_law_416 : decode cL_law 416 = .ok (.i2f, 1) := by decide +kernel
theorem dL_law_417 : decode cL_law 417 = .ok (.ldc 75, 2) := by decide +kernel
theorem dL_law_419 : decode cL_law 419 = .ok (.fmul, 1) := by decide +kernel
theorem dL_law_420 : decode cL_law 420 = .ok (.aload_n 0, 1) := by decide +kernel
theorem dL_law_421 : decode cL_law 421 = .ok (.iload 5, 2) := by decide +kernel
theorem dL_law_423 : decode cL_law 423 = .ok (.iconst 5, 1) := by decide +kernel
theorem dL_law_424 : decode cL_law 424 = .ok (.iadd, 1) := by decide +kernel
theorem dL_law_425 : decode cL_law 425 = .ok (.iaload, 1) := by decide +kernel
theorem dL_law_426 : decode cL_law 426 = .ok (.i2f, 1) := by decide +kernel
theorem dL_law_427 : decode cL_law 427 = .ok (.ldc 75, 2) := by decide +kernel
theorem dL_law_429 : decode cL_law 429 = .ok (.fmul, 1) := by decide +kernel
theorem dL_law_430 : decode cL_law 430 = .ok (.aload_n 0, 1) := by decide +kernel
theorem dL_law_431 : decode cL_law 431 = .ok (.iload 5, 2) := by decide +kernel
theorem dL_law_433 : decode cL_law 433 = .ok (.bipush 6, 2) := by decide +kernel
theorem dL_law_435 : decode cL_law 435 = .ok (.iadd, 1) := by decide +kernel
theorem dL_law_436 : decode cL_law 436 = .ok (.iaload, 1) := by decide +kernel
theorem dL_law_437 : decode cL_law 437 = .ok (.i2f, 1) := by decide +kernel
theorem dL_law_438 : decode cL_law 438 = .ok (.ldc 75, 2) := by decide +kernel
theorem dL_law_440 : decode cL_law 440 = .ok (.fmul, 1) := by decide +kernel
theorem dL_law_441 : decode cL_law 441 = .ok (.aload_n 0, 1) := by decide +kernel
theorem dL_law_442 : decode cL_law 442 = .ok (.iload 5, 2) := by decide +kernel
theorem dL_law_444 : decode cL_law 444 = .ok (.bipush 7, 2) := by decide +kernel
theorem dL_law_446 : decode cL_law 446 = .ok (.iadd, 1) := by decide +kernel
theorem dL_law_447 : decode cL_law 447 = .ok (.iaload, 1) := by decide +kernel
theorem dL_law_448 : decode cL_law 448 = .ok (.i2f, 1) := by decide +kernel
theorem dL_law_449 : decode cL_law 449 = .ok (.ldc 75, 2) := by decide +kernel
theorem dL_law_451 : decode cL_law 451 = .ok (.fmul, 1) := by decide +kernel
theorem dL_law_452 : decode cL_law 452 = .ok (.invokevirtual 89, 3) := by decide +kernel
theorem dL_law_455 : decode cL_law 455 = .ok (.aload_n 2, 1) := by decide +kernel
theorem dL_law_456 : decode cL_law 456 = .ok (.invokevirtual 90, 3) := by decide +kernel
theorem dL_law_459 : decode cL_law 459 = .ok (.iload 6, 2) := by decide +kernel
theorem dL_law_461 : decode cL_law 461 = .ok (.if_icmp .eq 5, 3) := by decide +kernel
theorem dL_law_464 : decode cL_law 464 = .ok (.iconst 0, 1) := by decide +kernel
theorem dL_law_465 : decode cL_law 465 = .ok (.ireturn, 1) := by decide +kernel
theorem dL_law_466 : decode cL_law 466 = .ok (.goto 771, 3) := by decide +kernel
theorem dL_law_469 : decode cL_law 469 = .ok (.aload_n 1, 1) := by decide +kernel
theorem dL_law_470 : decode cL_law 470 = .ok (.aload_n 0, 1) := by decide +kernel
theorem dL_law_471 : decode cL_law 471 = .ok (.iload 5, 2) := by decide +kernel
theorem dL_law_473 : decode cL_law 473 = .ok (.iconst 1, 1) := by decide +kernel
theorem dL_law_474 : decode cL_law 474 = .ok (.iadd, 1) := by decide +kernel
theorem dL_law_475 : decode cL_law 475 = .ok (.iaload, 1) := by decide +kernel
theorem dL_law_476 : decode cL_law 476 = .ok (.aload_n 0, 1) := by decide +kernel
theorem dL_law_477 : decode cL_law 477 = .ok (.iload 5, 2) := by decide +kernel
theorem dL_law_479 : decode cL_law 479 = .ok (.iconst 2, 1) := by decide +kernel
theorem dL_law_480 : decode cL_law 480 = .ok (.iadd, 1) := by decide +kernel
theorem dL_law_481 : decode cL_law 481 = .ok (.iaload, 1) := by decide +kernel
theorem dL_law_482 : decode cL_law 482 = .ok (.aload_n 0, 1) := by decide +kernel
theorem dL_law_483 : decode cL_law 483 = .ok (.iload 5, 2) := by decide +kernel
theorem dL_law_485 : decode cL_law 485 = .ok (.iconst 3, 1) := by decide +kernel
theorem dL_law_486 : decode cL_law 486 = .ok (.iadd, 1) := by decide +kernel
theorem dL_law_487 : decode cL_law 487 = .ok (.iaload, 1) := by decide +kernel
theorem dL_law_488 : decode cL_law 488 = .ok (.i2f, 1) := by decide +kernel
theorem dL_law_489 : decode cL_law 489 = .ok (.ldc 75, 2) := by decide +kernel
theorem dL_law_491 : decode cL_law 491 = .ok (.fmul, 1) := by decide +kernel
theorem dL_law_492 : decode cL_law 492 = .ok (.aload_n 0, 1) := by decide +kernel
theorem dL_law_493 : decode cL_law 493 = .ok (.iload 5, 2) := by decide +kernel
theorem dL_law_495 : decode cL_law 495 = .ok (.iconst 4, 1) := by decide +kernel
theorem dL_law_496 : decode cL_law 496 = .ok (.iadd, 1) := by decide +kernel
theorem dL_law_497 : decode cL_law 497 = .ok (.iaload, 1) := by decide +kernel
theorem dL_law_498 : decode cL_law 498 = .ok (.i2f, 1) := by decide +kernel
theorem dL_law_499 : decode cL_law 499 = .ok (.ldc 75, 2) := by decide +kernel
theorem dL_law_501 : decode cL_law 501 = .ok (.fmul, 1) := by decide +kernel
theorem dL_law_502 : decode cL_law 502 = .ok (.aload_n 0, 1) := by decide +kernel
theorem dL_law_503 : decode cL_law 503 = .ok (.iload 5, 2) := by decide +kernel
theorem dL_law_505 : decode cL_law 505 = .ok (.iconst 5, 1) := by decide +kernel
theorem dL_law_506 : decode cL_law 506 = .ok (.iadd, 1) := by decide +kernel
theorem dL_law_507 : decode cL_law 507 = .ok (.iaload, 1) := by decide +kernel
theorem dL_law_508 : decode cL_law 508 = .ok (.i2f, 1) := by decide +kernel
theorem dL_law_509 : decode cL_law 509 = .ok (.ldc 75, 2) := by decide +kernel
theorem dL_law_511 : decode cL_law 511 = .ok (.fmul, 1) := by decide +kernel
theorem dL_law_512 : decode cL_law 512 = .ok (.aload_n 3, 1) := by decide +kernel
theorem dL_law_513 : decode cL_law 513 = .ok (.invokestatic 94, 3) := by decide +kernel
theorem dL_law_516 : decode cL_law 516 = .ok (.istore 6, 2) := by decide +kernel
theorem dL_law_518 : decode cL_law 518 = .ok (.aload_n 2, 1) := by decide +kernel
theorem dL_law_519 : decode cL_law 519 = .ok (.aload_n 0, 1) := by decide +kernel
theorem dL_law_520 : decode cL_law 520 = .ok (.iload 5, 2) := by decide +kernel
theorem dL_law_522 : decode cL_law 522 = .ok (.iconst 1, 1) := by decide +kernel
theorem dL_law_523 : decode cL_law 523 = .ok (.iadd, 1) := by decide +kernel
theorem dL_law_524 : decode cL_law 524 = .ok (.iaload, 1) := by decide +kernel
theorem dL_law_525 : decode cL_law 525 = .ok (.aload_n 0, 1) := by decide +kernel
theorem dL_law_526 : decode cL_law 526 = .ok (.iload 5, 2) := by decide +kernel
theorem dL_law_528 : decode cL_law 528 = .ok (.iconst 2, 1) := by decide +kernel
theorem dL_law_529 : decode cL_law 529 = .ok (.iadd, 1) := by decide +kernel

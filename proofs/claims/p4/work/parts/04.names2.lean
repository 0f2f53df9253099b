theorem dX1_measure_102 : decode cX1_measure 102 = .ok (.putfield 89, 3) := by decide +kernel
theorem dX1_measure_105 : decode cX1_measure 105 = .ok (.aload_n 0, 1) := by decide +kernel
theorem dX1_measure_106 : decode cX1_measure 106 = .ok (.getfield 30, 3) := by decide +kernel
theorem dX1_measure_109 : decode cX1_measure 109 = .ok (.getfield 57, 3) := by decide +kernel
theorem dX1_measure_112 : decode cX1_measure 112 = .ok (.ifCond .ne 24, 3) := by decide +kernel
theorem dX1_measure_115 : decode cX1_measure 115 = .ok (.aload_n 0, 1) := by decide +kernel
theorem dX1_measure_116 : decode cX1_measure 116 = .ok (.getfield 34, 3) := by decide +kernel
theorem dX1_measure_119 : decode cX1_measure 119 = .ok (.ifnull 13, 3) := by decide +kernel
theorem dX1_measure_122 : decode cX1_measure 122 = .ok (.aload_n 0, 1) := by decide +kernel
theorem dX1_measure_123 : decode cX1_measure 123 = .ok (.getfield 34, 3) := by decide +kernel
theorem dX1_measure_126 : decode cX1_measure 126 = .ok (.getfield 57, 3) := by decide +kernel
theorem dX1_measure_129 : decode cX1_measure 129 = .ok (.ifCond .ne 7, 3) := by decide +kernel
theorem dX1_measure_132 : decode cX1_measure 132 = .ok (.iconst 1, 1) := by decide +kernel
theorem dX1_measure_133 : decode cX1_measure 133 = .ok (.goto 4, 3) := by decide +kernel
theorem dX1_measure_136 : decode cX1_measure 136 = .ok (.iconst 0, 1) := by decide +kernel
theorem dX1_measure_137 : decode cX1_measure 137 = .ok (.istore_n 3, 1) := by decide +kernel
theorem dX1_measure_138 : decode cX1_measure 138 = .ok (.aload_n 0, 1) := by decide +kernel
theorem dX1_measure_139 : decode cX1_measure 139 = .ok (.aload_n 0, 1) := by decide +kernel
theorem dX1_measure_140 : decode cX1_measure 140 = .ok (.getfield 89, 3) := by decide +kernel
theorem dX1_measure_143 : decode cX1_measure 143 = .ok (.ldc 92, 2) := by decide +kernel
theorem dX1_measure_145 : decode cX1_measure 145 = .ok (.fcmp .g, 1) := by decide +kernel
theorem dX1_measure_146 : decode cX1_measure 146 = .ok (.ifCond .lt 7, 3) := by decide +kernel
theorem dX1_measure_149 : decode cX1_measure 149 = .ok (.iload_n 3, 1) := by decide +kernel
theorem dX1_measure_150 : decode cX1_measure 150 = .ok (.ifCond .eq 7, 3) := by decide +kernel
theorem dX1_measure_153 : decode cX1_measure 153 = .ok (.iconst 1, 1) := by decide +kernel
theorem dX1_measure_154 : decode cX1_measure 154 = .ok (.goto 4, 3) := by decide +kernel
theorem dX1_measure_157 : decode cX1_measure 157 = .ok (.iconst 0, 1) := by decide +kernel
theorem dX1_measure_158 : decode cX1_measure 158 = .ok (.putfield 93, 3) := by decide +kernel
theorem dX1_measure_161 : decode cX1_measure 161 = .ok (.return_, 1) := by decide +kernel
set_option maxRecDepth 20000 in
theorem ggX1_held_X3_hold : GoodIn wsX1_held wsX3_hold := goodIn_r _ [8] (by decide +kernel) (by decide +kernel)
set_option maxRecDepth 20000 in
theorem gX1_held_X3_hold_n106 : GoodIn wsX1_held (wsX3_hold) := ggX1_held_X3_hold
theorem dX1_held_0 : decode cX1_held 0 = .ok (.aload_n 0, 1) := by decide +kernel
theorem dX1_held_1 : decode cX1_held 1 = .ok (.getfield 96, 3) := by decide +kernel
theorem dX1_held_4 : decode cX1_held 4 = .ok (.ifnonnull 16, 3) := by decide +kernel
theorem dX1_held_7 : decode cX1_held 7 = .ok (.fload_n 1, 1) := by decide +kernel
theorem dX1_held_8 : decode cX1_held 8 = .ok (.aload_n 0, 1) := by decide +kernel
theorem dX1_held_9 : decode cX1_held 9 = .ok (.getfield 100, 3) := by decide +kernel
theorem dX1_held_12 : decode cX1_held 12 = .ok (.aload_n 0, 1) := by decide +kernel
theorem dX1_held_13 : decode cX1_held 13 = .ok (.getfield 103, 3) := by decide +kernel
theorem dX1_held_16 : decode cX1_held 16 = .ok (.invokestatic 106, 3) := by decide +kernel
theorem dX1_held_19 : decode cX1_held 19 = .ok (.freturn, 1) := by decide +kernel
theorem dX1_held_20 : decode cX1_held 20 = .ok (.aload_n 0, 1) := by decide +kernel
theorem dX1_held_21 : decode cX1_held 21 = .ok (.getfield 110, 3) := by decide +kernel
theorem dX1_held_24 : decode cX1_held 24 = .ok (.aload_n 0, 1) := by decide +kernel
theorem dX1_held_25 : decode cX1_held 25 = .ok (.getfield 96, 3) := by decide +kernel
theorem dX1_held_28 : decode cX1_held 28 = .ok (.getfield 113, 3) := by decide +kernel
theorem dX1_held_31 : decode cX1_held 31 = .ok (.fmul, 1) := by decide +kernel
theorem dX1_held_32 : decode cX1_held 32 = .ok (.fstore_n 2, 1) := by decide +kernel
theorem dX1_held_33 : decode cX1_held 33 = .ok (.fload_n 2, 1) := by decide +kernel
theorem dX1_held_34 : decode cX1_held 34 = .ok (.fconst 0, 1) := by decide +kernel
theorem dX1_held_35 : decode cX1_held 35 = .ok (.fcmp .g, 1) := by decide +kernel
theorem dX1_held_36 : decode cX1_held 36 = .ok (.ifCond .ge 5, 3) := by decide +kernel
theorem dX1_held_39 : decode cX1_held 39 = .ok (.fconst 0, 1) := by decide +kernel
theorem dX1_held_40 : decode cX1_held 40 = .ok (.fstore_n 2, 1) := by decide +kernel
theorem dX1_held_41 : decode cX1_held 41 = .ok (.fload_n 1, 1) := by decide +kernel
theorem dX1_held_42 : decode cX1_held 42 = .ok (.fconst 0, 1) := by decide +kernel
theorem dX1_held_43 : decode cX1_held 43 = .ok (.fload_n 2, 1) := by decide +kernel
theorem dX1_held_44 : decode cX1_held 44 = .ok (.fsub, 1) := by decide +kernel
theorem dX1_held_45 : decode cX1_held 45 = .ok (.fload_n 2, 1) := by decide +kernel
theorem dX1_held_46 : decode cX1_held 46 = .ok (.invokestatic 106, 3) := by decide +kernel
theorem dX1_held_49 : decode cX1_held 49 = .ok (.freturn, 1) := by decide +kernel
set_option maxRecDepth 20000 in
theorem ggX1_begin_X1_held : GoodIn wsX1_begin wsX1_held := goodIn_r _ [7, 8, 9, 10, 11, 2, 12, 13, 14, 40, 41, 42, 43, 44, 45, 46, 47, 48, 49, 50, 51, 52, 53, 54, 55, 56, 57] (by decide +kernel) (by decide +kernel)
set_option maxRecDepth 20000 in
theorem gX1_begin_X1_held : GoodIn wsX1_begin (wsV RX1 116 RX1 yX1_held wsX1_held) := goodIn_app (goodIn_of _ (by decide +kernel)) ggX1_begin_X1_held
set_option maxRecDepth 20000 in
theorem ggX1_begin_X1_push : GoodIn wsX1_begin wsX1_push := goodIn_r _ [18, 19, 20, 21, 22, 23, 24, 25, 26, 27, 28, 29, 30, 31, 32, 33, 34, 35, 36, 37, 38, 39, 40, 41, 42, 43, 44, 45, 46, 47, 48, 49, 50, 51, 52, 53, 54, 55, 56, 57, 58, 59, 60, 61, 62, 63, 64, 65, 66, 67, 68, 69, 70, 71, 72, 73, 74, 75, 76] (by decide +kernel) (by decide +kernel)
set_option maxRecDepth 20000 in
theorem gX1_begin_X1_push : GoodIn wsX1_begin (wsV RX1 120 RX1 yX1_push wsX1_push) := goodIn_app (goodIn_of _ (by decide +kernel)) ggX1_begin_X1_push
theorem dX1_begin_0 : decode cX1_begin 0 = .ok (.aload_n 0, 1) := by decide +kernel
theorem dX1_begin_1 : decode cX1_begin 1 = .ok (.getfield 93, 3) := by decide +kernel
theorem dX1_begin_4 : decode cX1_begin 4 = .ok (.ifCond .eq 9, 3) := by decide +kernel
theorem dX1_begin_7 : decode cX1_begin 7 = .ok (.aload_n 0, 1) := by decide +kernel
theorem dX1_begin_8 : decode cX1_begin 8 = .ok (.fconst 0, 1) := by decide +kernel
theorem dX1_begin_9 : decode cX1_begin 9 = .ok (.putfield 113, 3) := by decide +kernel
theorem dX1_begin_12 : decode cX1_begin 12 = .ok (.return_, 1) := by decide +kernel
theorem dX1_begin_13 : decode cX1_begin 13 = .ok (.aload_n 0, 1) := by decide +kernel
theorem dX1_begin_14 : decode cX1_begin 14 = .ok (.aload_n 0, 1) := by decide +kernel
theorem dX1_begin_15 : decode cX1_begin 15 = .ok (.aload_n 0, 1) := by decide +kernel
theorem dX1_begin_16 : decode cX1_begin 16 = .ok (.getfield 113, 3) := by decide +kernel
theorem dX1_begin_19 : decode cX1_begin 19 = .ok (.fload_n 1, 1) := by decide +kernel
theorem dX1_begin_20 : decode cX1_begin 20 = .ok (.fmul, 1) := by decide +kernel
theorem dX1_begin_21 : decode cX1_begin 21 = .ok (.invokevirtual 116, 3) := by decide +kernel
theorem dX1_begin_24 : decode cX1_begin 24 = .ok (.putfield 113, 3) := by decide +kernel
theorem dX1_begin_27 : decode cX1_begin 27 = .ok (.aload_n 0, 1) := by decide +kernel
theorem dX1_begin_28 : decode cX1_begin 28 = .ok (.aload_n 0, 1) := by decide +kernel
theorem dX1_begin_29 : decode cX1_begin 29 = .ok (.getfield 113, 3) := by decide +kernel
theorem dX1_begin_32 : decode cX1_begin 32 = .ok (.invokevirtual 120, 3) := by decide +kernel
theorem dX1_begin_35 : decode cX1_begin 35 = .ok (.return_, 1) := by decide +kernel
set_option maxRecDepth 20000 in
theorem ggX1_solve_X1_speed : GoodIn wsX1_solve wsX1_speed := goodIn_r _ [10, 11, 12, 13, 14, 15, 16, 17, 18, 19, 20, 21, 22, 23, 24, 25, 53, 54, 55, 56, 57, 58, 59, 60, 61, 62, 63, 64, 65, 66, 67, 68, 69, 70, 71, 72, 73, 74, 75, 76, 77, 78, 79, 80, 81, 82, 83, 84, 85, 86, 87, 88, 89] (by decide +kernel) (by decide +kernel)
set_option maxRecDepth 20000 in
theorem gX1_solve_X1_speed : GoodIn wsX1_solve (wsV RX1 127 RX1 yX1_speed wsX1_speed) := goodIn_app (goodIn_of _ (by decide +kernel)) ggX1_solve_X1_speed
set_option maxRecDepth 20000 in
theorem ggX1_solve_X1_held : GoodIn wsX1_solve wsX1_held := goodIn_r _ [29, 30, 31, 32, 33, 2, 34, 35, 36, 53, 54, 55, 56, 57, 58, 59, 60, 61, 62, 63, 64, 65, 66, 67, 68, 69, 70] (by decide +kernel) (by decide +kernel)
set_option maxRecDepth 20000 in
theorem gX1_solve_X1_held : GoodIn wsX1_solve (wsV RX1 116 RX1 yX1_held wsX1_held) := goodIn_app (goodIn_of _ (by decide +kernel)) ggX1_solve_X1_held
set_option maxRecDepth 20000 in
theorem ggX1_solve_X1_push : GoodIn wsX1_solve wsX1_push := goodIn_r _ [40, 16, 41, 13, 12, 42, 15, 43, 11, 44, 45, 46, 47, 21, 48, 23, 24, 25, 49, 50, 51, 52, 53, 54, 55, 56, 57, 58, 59, 60, 61, 62, 63, 64, 65, 66, 67, 68, 69, 70, 71, 72, 73, 74, 75, 76, 77, 78, 79, 80, 81, 82, 83, 84, 85, 86, 87, 88, 89] (by decide +kernel) (by decide +kernel)
set_option maxRecDepth 20000 in
theorem gX1_solve_X1_push : GoodIn wsX1_solve (wsV RX1 120 RX1 yX1_push wsX1_push) := goodIn_app (goodIn_of _ (by decide +kernel)) ggX1_solve_X1_push
theorem dX1_solve_0 : decode cX1_solve 0 = .ok (.aload_n 0, 1) := by decide +kernel
theorem dX1_solve_1 : decode cX1_solve 1 = .ok (.getfield 93, 3) := by decide +kernel
theorem dX1_solve_4 : decode cX1_solve 4 = .ok (.ifCond .eq 4, 3) := by decide +kernel
theorem dX1_solve_7 : decode cX1_solve 7 = .ok (.return_, 1) := by decide +kernel
theorem dX1_solve_8 : decode cX1_solve 8 = .ok (.aload_n 0, 1) := by decide +kernel
theorem dX1_solve_9 : decode cX1_solve 9 = .ok (.aload_n 0, 1) := by decide +kernel
theorem dX1_solve_10 : decode cX1_solve 10 = .ok (.getfield 113, 3) := by decide +kernel
theorem dX1_solve_13 : decode cX1_solve 13 = .ok (.aload_n 0, 1) := by decide +kernel
theorem dX1_solve_14 : decode cX1_solve 14 = .ok (.getfield 124, 3) := by decide +kernel
theorem dX1_solve_17 : decode cX1_solve 17 = .ok (.aload_n 0, 1) := by decide +kernel
theorem dX1_solve_18 : decode cX1_solve 18 = .ok (.invokevirtual 127, 3) := by decide +kernel
theorem dX1_solve_21 : decode cX1_solve 21 = .ok (.fsub, 1) := by decide +kernel
theorem dX1_solve_22 : decode cX1_solve 22 = .ok (.aload_n 0, 1) := by decide +kernel
theorem dX1_solve_23 : decode cX1_solve 23 = .ok (.getfield 86, 3) := by decide +kernel
theorem dX1_solve_26 : decode cX1_solve 26 = .ok (.aload_n 0, 1) := by decide +kernel
theorem dX1_solve_27 : decode cX1_solve 27 = .ok (.getfield 113, 3) := by decide +kernel
theorem dX1_solve_30 : decode cX1_solve 30 = .ok (.fmul, 1) := by decide +kernel
theorem dX1_solve_31 : decode cX1_solve 31 = .ok (.fsub, 1) := by decide +kernel
theorem dX1_solve_32 : decode cX1_solve 32 = .ok (.aload_n 0, 1) := by decide +kernel
theorem dX1_solve_33 : decode cX1_solve 33 = .ok (.getfield 89, 3) := by decide +kernel
theorem dX1_solve_36 : decode cX1_solve 36 = .ok (.fdiv, 1) := by decide +kernel
theorem dX1_solve_37 : decode cX1_solve 37 = .ok (.fadd, 1) := by decide +kernel
theorem dX1_solve_38 : decode cX1_solve 38 = .ok (.invokevirtual 116, 3) := by decide +kernel
theorem dX1_solve_41 : decode cX1_solve 41 = .ok (.fstore_n 1, 1) := by decide +kernel
theorem dX1_solve_42 : decode cX1_solve 42 = .ok (.fload_n 1, 1) := by decide +kernel
theorem dX1_solve_43 : decode cX1_solve 43 = .ok (.aload_n 0, 1) := by decide +kernel
theorem dX1_solve_44 : decode cX1_solve 44 = .ok (.getfield 113, 3) := by decide +kernel
theorem dX1_solve_47 : decode cX1_solve 47 = .ok (.fsub, 1) := by decide +kernel
theorem dX1_solve_48 : decode cX1_solve 48 = .ok (.fstore_n 2, 1) := by decide +kernel
theorem dX1_solve_49 : decode cX1_solve 49 = .ok (.aload_n 0, 1) := by decide +kernel
theorem dX1_solve_50 : decode cX1_solve 50 = .ok (.fload_n 1, 1) := by decide +kernel
theorem dX1_solve_51 : decode cX1_solve 51 = .ok (.putfield 113, 3) := by decide +kernel
theorem dX1_solve_54 : decode cX1_solve 54 = .ok (.aload_n 0, 1) := by decide +kernel
theorem dX1_solve_55 : decode cX1_solve 55 = .ok (.fload_n 2, 1) := by decide +kernel
theorem dX1_solve_56 : decode cX1_solve 56 = .ok (.invokevirtual 120, 3) := by decide +kernel
theorem dX1_solve_59 : decode cX1_solve 59 = .ok (.return_, 1) := by decide +kernel
set_option maxRecDepth 20000 in
theorem ggX1_push_X2_add : GoodIn wsX1_push wsX2_add := goodIn_r _ [14, 15, 16, 17, 56, 57, 58] (by decide +kernel) (by decide +kernel)
set_option maxRecDepth 20000 in
theorem gX1_push_X2_add : GoodIn wsX1_push (wsV RX1 133 RX2 yX2_add wsX2_add) := goodIn_app (goodIn_of _ (by decide +kernel)) ggX1_push_X2_add
set_option maxRecDepth 20000 in
theorem ggX1_push_X2_subtract : GoodIn wsX1_push wsX2_subtract := goodIn_r _ [21, 15, 16, 17, 56, 57, 58] (by decide +kernel) (by decide +kernel)
set_option maxRecDepth 20000 in
theorem gX1_push_X2_subtract : GoodIn wsX1_push (wsV RX1 137 RX2 yX2_subtract wsX2_subtract) := goodIn_app (goodIn_of _ (by decide +kernel)) ggX1_push_X2_subtract
theorem dX1_push_0 : decode cX1_push 0 = .ok (.aload_n 0, 1) := by decide +kernel
theorem dX1_push_1 : decode cX1_push 1 = .ok (.getfield 30, 3) := by decide +kernel
theorem dX1_push_4 : decode cX1_push 4 = .ok (.getfield 57, 3) := by decide +kernel
theorem dX1_push_7 : decode cX1_push 7 = .ok (.ifCond .eq 41, 3) := by decide +kernel
theorem dX1_push_10 : decode cX1_push 10 = .ok (.aload_n 0, 1) := by decide +kernel
theorem dX1_push_11 : decode cX1_push 11 = .ok (.getfield 30, 3) := by decide +kernel
theorem dX1_push_14 : decode cX1_push 14 = .ok (.getfield 68, 3) := by decide +kernel
theorem dX1_push_17 : decode cX1_push 17 = .ok (.aload_n 0, 1) := by decide +kernel
theorem dX1_push_18 : decode cX1_push 18 = .ok (.getfield 12, 3) := by decide +kernel
theorem dX1_push_21 : decode cX1_push 21 = .ok (.aload_n 0, 1) := by decide +kernel
theorem dX1_push_22 : decode cX1_push 22 = .ok (.getfield 30, 3) := by decide +kernel
theorem dX1_push_25 : decode cX1_push 25 = .ok (.getfield 130, 3) := by decide +kernel
theorem dX1_push_28 : decode cX1_push 28 = .ok (.fload_n 1, 1) := by decide +kernel
theorem dX1_push_29 : decode cX1_push 29 = .ok (.fmul, 1) := by decide +kernel
theorem dX1_push_30 : decode cX1_push 30 = .ok (.invokevirtual 133, 3) := by decide +kernel
theorem dX1_push_33 : decode cX1_push 33 = .ok (.aload_n 0, 1) := by decide +kernel
theorem dX1_push_34 : decode cX1_push 34 = .ok (.getfield 30, 3) := by decide +kernel
theorem dX1_push_37 : decode cX1_push 37 = .ok (.getfield 75, 3) := by decide +kernel
theorem dX1_push_40 : decode cX1_push 40 = .ok (.aload_n 0, 1) := by decide +kernel
theorem dX1_push_41 : decode cX1_push 41 = .ok (.getfield 24, 3) := by decide +kernel
theorem dX1_push_44 : decode cX1_push 44 = .ok (.fload_n 1, 1) := by decide +kernel
theorem dX1_push_45 : decode cX1_push 45 = .ok (.invokevirtual 133, 3) := by decide +kernel
theorem dX1_push_48 : decode cX1_push 48 = .ok (.aload_n 0, 1) := by decide +kernel
theorem dX1_push_49 : decode cX1_push 49 = .ok (.getfield 34, 3) := by decide +kernel
theorem dX1_push_52 : decode cX1_push 52 = .ok (.ifnull 51, 3) := by decide +kernel
theorem dX1_push_55 : decode cX1_push 55 = .ok (.aload_n 0, 1) := by decide +kernel
theorem dX1_push_56 : decode cX1_push 56 = .ok (.getfield 34, 3) := by decide +kernel
theorem dX1_push_59 : decode cX1_push 59 = .ok (.getfield 57, 3) := by decide +kernel
theorem dX1_push_62 : decode cX1_push 62 = .ok (.ifCond .eq 41, 3) := by decide +kernel
theorem dX1_push_65 : decode cX1_push 65 = .ok (.aload_n 0, 1) := by decide +kernel
theorem dX1_push_66 : decode cX1_push 66 = .ok (.getfield 34, 3) := by decide +kernel
theorem dX1_push_69 : decode cX1_push 69 = .ok (.getfield 68, 3) := by decide +kernel
theorem dX1_push_72 : decode cX1_push 72 = .ok (.aload_n 0, 1) := by decide +kernel
theorem dX1_push_73 : decode cX1_push 73 = .ok (.getfield 12, 3) := by decide +kernel
theorem dX1_push_76 : decode cX1_push 76 = .ok (.aload_n 0, 1) := by decide +kernel
theorem dX1_push_77 : decode cX1_push 77 = .ok (.getfield 34, 3) := by decide +kernel
theorem dX1_push_80 : decode cX1_push 80 = .ok (.getfield 130, 3) := by decide +kernel
theorem dX1_push_83 : decode cX1_push 83 = .ok (.fload_n 1, 1) := by decide +kernel
theorem dX1_push_84 : decode cX1_push 84 = .ok (.fmul, 1) := by decide +kernel
theorem dX1_push_85 : decode cX1_push 85 = .ok (.invokevirtual 137, 3) := by decide +kernel
theorem dX1_push_88 : decode cX1_push 88 = .ok (.aload_n 0, 1) := by decide +kernel
theorem dX1_push_89 : decode cX1_push 89 = .ok (.getfield 34, 3) := by decide +kernel
theorem dX1_push_92 : decode cX1_push 92 = .ok (.getfield 75, 3) := by decide +kernel
theorem dX1_push_95 : decode cX1_push 95 = .ok (.aload_n 0, 1) := by decide +kernel
theorem dX1_push_96 : decode cX1_push 96 = .ok (.getfield 27, 3) := by decide +kernel
theorem dX1_push_99 : decode cX1_push 99 = .ok (.fload_n 1, 1) := by decide +kernel
theorem dX1_push_100 : decode cX1_push 100 = .ok (.invokevirtual 137, 3) := by decide +kernel
theorem dX1_push_103 : decode cX1_push 103 = .ok (.return_, 1) := by decide +kernel
theorem dX2_init_0 : decode cX2_init 0 = .ok (.aload_n 0, 1) := by decide +kernel
theorem dX2_init_1 : decode cX2_init 1 = .ok (.invokespecial 1, 3) := by decide +kernel
theorem dX2_init_4 : decode cX2_init 4 = .ok (.return_, 1) := by decide +kernel
theorem dX2_put_0 : decode cX2_put 0 = .ok (.aload_n 0, 1) := by decide +kernel
theorem dX2_put_1 : decode cX2_put 1 = .ok (.fload_n 1, 1) := by decide +kernel
theorem dX2_put_2 : decode cX2_put 2 = .ok (.putfield 7, 3) := by decide +kernel
theorem dX2_put_5 : decode cX2_put 5 = .ok (.aload_n 0, 1) := by decide +kernel
theorem dX2_put_6 : decode cX2_put 6 = .ok (.fload_n 2, 1) := by decide +kernel
theorem dX2_put_7 : decode cX2_put 7 = .ok (.putfield 13, 3) := by decide +kernel
theorem dX2_put_10 : decode cX2_put 10 = .ok (.aload_n 0, 1) := by decide +kernel
theorem dX2_put_11 : decode cX2_put 11 = .ok (.fload_n 3, 1) := by decide +kernel
theorem dX2_put_12 : decode cX2_put 12 = .ok (.putfield 16, 3) := by decide +kernel
theorem dX2_put_15 : decode cX2_put 15 = .ok (.return_, 1) := by decide +kernel
theorem dX2_dot_0 : decode cX2_dot 0 = .ok (.aload_n 0, 1) := by decide +kernel
theorem dX2_dot_1 : decode cX2_dot 1 = .ok (.getfield 7, 3) := by decide +kernel
theorem dX2_dot_4 : decode cX2_dot 4 = .ok (.aload_n 1, 1) := by decide +kernel
theorem dX2_dot_5 : decode cX2_dot 5 = .ok (.getfield 7, 3) := by decide +kernel
theorem dX2_dot_8 : decode cX2_dot 8 = .ok (.fmul, 1) := by decide +kernel
theorem dX2_dot_9 : decode cX2_dot 9 = .ok (.aload_n 0, 1) := by decide +kernel
theorem dX2_dot_10 : decode cX2_dot 10 = .ok (.getfield 13, 3) := by decide +kernel
theorem dX2_dot_13 : decode cX2_dot 13 = .ok (.aload_n 1, 1) := by decide +kernel
theorem dX2_dot_14 : decode cX2_dot 14 = .ok (.getfield 13, 3) := by decide +kernel
theorem dX2_dot_17 : decode cX2_dot 17 = .ok (.fmul, 1) := by decide +kernel
theorem dX2_dot_18 : decode cX2_dot 18 = .ok (.fadd, 1) := by decide +kernel
theorem dX2_dot_19 : decode cX2_dot 19 = .ok (.aload_n 0, 1) := by decide +kernel
theorem dX2_dot_20 : decode cX2_dot 20 = .ok (.getfield 16, 3) := by decide +kernel
theorem dX2_dot_23 : decode cX2_dot 23 = .ok (.aload_n 1, 1) := by decide +kernel
theorem dX2_dot_24 : decode cX2_dot 24 = .ok (.getfield 16, 3) := by decide +kernel
theorem dX2_dot_27 : decode cX2_dot 27 = .ok (.fmul, 1) := by decide +kernel
theorem dX2_dot_28 : decode cX2_dot 28 = .ok (.fadd, 1) := by decide +kernel
theorem dX2_dot_29 : decode cX2_dot 29 = .ok (.freturn, 1) := by decide +kernel
theorem dX2_add_0 : decode cX2_add 0 = .ok (.aload_n 0, 1) := by decide +kernel
theorem dX2_add_1 : decode cX2_add 1 = .ok (.aload_n 0, 1) := by decide +kernel
theorem dX2_add_2 : decode cX2_add 2 = .ok (.getfield 7, 3) := by decide +kernel
theorem dX2_add_5 : decode cX2_add 5 = .ok (.aload_n 1, 1) := by decide +kernel
theorem dX2_add_6 : decode cX2_add 6 = .ok (.getfield 7, 3) := by decide +kernel
theorem dX2_add_9 : decode cX2_add 9 = .ok (.fload_n 2, 1) := by decide +kernel
theorem dX2_add_10 : decode cX2_add 10 = .ok (.fmul, 1) := by decide +kernel
theorem dX2_add_11 : decode cX2_add 11 = .ok (.fadd, 1) := by decide +kernel
theorem dX2_add_12 : decode cX2_add 12 = .ok (.putfield 7, 3) := by decide +kernel
theorem dX2_add_15 : decode cX2_add 15 = .ok (.aload_n 0, 1) := by decide +kernel
theorem dX2_add_16 : decode cX2_add 16 = .ok (.aload_n 0, 1) := by decide +kernel
theorem dX2_add_17 : decode cX2_add 17 = .ok (.getfield 13, 3) := by decide +kernel
theorem dX2_add_20 : decode cX2_add 20 = .ok (.aload_n 1, 1) := by decide +kernel
theorem dX2_add_21 : decode cX2_add 21 = .ok (.getfield 13, 3) := by decide +kernel
theorem dX2_add_24 : decode cX2_add 24 = .ok (.fload_n 2, 1) := by decide +kernel
theorem dX2_add_25 : decode cX2_add 25 = .ok (.fmul, 1) := by decide +kernel
theorem dX2_add_26 : decode cX2_add 26 = .ok (.fadd, 1) := by decide +kernel
theorem dX2_add_27 : decode cX2_add 27 = .ok (.putfield 13, 3) := by decide +kernel
theorem dX2_add_30 : decode cX2_add 30 = .ok (.aload_n 0, 1) := by decide +kernel
theorem dX2_add_31 : decode cX2_add 31 = .ok (.aload_n 0, 1) := by decide +kernel
theorem dX2_add_32 : decode cX2_add 32 = .ok (.getfield 16, 3) := by decide +kernel
theorem dX2_add_35 : decode cX2_add 35 = .ok (.aload_n 1, 1) := by decide +kernel
theorem dX2_add_36 : decode cX2_add 36 = .ok (.getfield 16, 3) := by decide +kernel
theorem dX2_add_39 : decode cX2_add 39 = .ok (.fload_n 2, 1) := by decide +kernel
theorem dX2_add_40 : decode cX2_add 40 = .ok (.fmul, 1) := by decide +kernel
theorem dX2_add_41 : decode cX2_add 41 = .ok (.fadd, 1) := by decide +kernel
theorem dX2_add_42 : decode cX2_add 42 = .ok (.putfield 16, 3) := by decide +kernel
theorem dX2_add_45 : decode cX2_add 45 = .ok (.return_, 1) := by decide +kernel
theorem dX2_subtract_0 : decode cX2_subtract 0 = .ok (.aload_n 0, 1) := by decide +kernel
theorem dX2_subtract_1 : decode cX2_subtract 1 = .ok (.aload_n 0, 1) := by decide +kernel
theorem dX2_subtract_2 : decode cX2_subtract 2 = .ok (.getfield 7, 3) := by decide +kernel
theorem dX2_subtract_5 : decode cX2_subtract 5 = .ok (.aload_n 1, 1) := by decide +kernel
theorem dX2_subtract_6 : decode cX2_subtract 6 = .ok (.getfield 7, 3) := by decide +kernel
theorem dX2_subtract_9 : decode cX2_subtract 9 = .ok (.fload_n 2, 1) := by decide +kernel
theorem dX2_subtract_10 : decode cX2_subtract 10 = .ok (.fmul, 1) := by decide +kernel
theorem dX2_subtract_11 : decode cX2_subtract 11 = .ok (.fsub, 1) := by decide +kernel
theorem dX2_subtract_12 : decode cX2_subtract 12 = .ok (.putfield 7, 3) := by decide +kernel
theorem dX2_subtract_15 : decode cX2_subtract 15 = .ok (.aload_n 0, 1) := by decide +kernel
theorem dX2_subtract_16 : decode cX2_subtract 16 = .ok (.aload_n 0, 1) := by decide +kernel
theorem dX2_subtract_17 : decode cX2_subtract 17 = .ok (.getfield 13, 3) := by decide +kernel
theorem dX2_subtract_20 : decode cX2_subtract 20 = .ok (.aload_n 1, 1) := by decide +kernel
theorem dX2_subtract_21 : decode cX2_subtract 21 = .ok (.getfield 13, 3) := by decide +kernel
theorem dX2_subtract_24 : decode cX2_subtract 24 = .ok (.fload_n 2, 1) := by decide +kernel
theorem dX2_subtract_25 : decode cX2_subtract 25 = .ok (.fmul, 1) := by decide +kernel
theorem dX2_subtract_26 : decode cX2_subtract 26 = .ok (.fsub, 1) := by decide +kernel
theorem dX2_subtract_27 : decode cX2_subtract 27 = .ok (.putfield 13, 3) := by decide +kernel
theorem dX2_subtract_30 : decode cX2_subtract 30 = .ok (.aload_n 0, 1) := by decide +kernel
theorem dX2_subtract_31 : decode cX2_subtract 31 = .ok (.aload_n 0, 1) := by decide +kernel
theorem dX2_subtract_32 : decode cX2_subtract 32 = .ok (.getfield 16, 3) := by decide +kernel
theorem dX2_subtract_35 : decode cX2_subtract 35 = .ok (.aload_n 1, 1) := by decide +kernel
theorem dX2_subtract_36 : decode cX2_subtract 36 = .ok (.getfield 16, 3) := by decide +kernel
theorem dX2_subtract_39 : decode cX2_subtract 39 = .ok (.fload_n 2, 1) := by decide +kernel
theorem dX2_subtract_40 : decode cX2_subtract 40 = .ok (.fmul, 1) := by decide +kernel
theorem dX2_subtract_41 : decode cX2_subtract 41 = .ok (.fsub, 1) := by decide +kernel
theorem dX2_subtract_42 : decode cX2_subtract 42 = .ok (.putfield 16, 3) := by decide +kernel
theorem dX2_subtract_45 : decode cX2_subtract 45 = .ok (.return_, 1) := by decide +kernel
set_option maxRecDepth 20000 in
theorem ggX2_holdWithin_X3_hold : GoodIn wsX2_holdWithin wsX3_hold := goodIn_r _ [6] (by decide +kernel) (by decide +kernel)
set_option maxRecDepth 20000 in
theorem gX2_holdWithin_X3_hold_n19 : GoodIn wsX2_holdWithin (wsX3_hold) := ggX2_holdWithin_X3_hold
theorem dX2_holdWithin_0 : decode cX2_holdWithin 0 = .ok (.aload_n 0, 1) := by decide +kernel
theorem dX2_holdWithin_1 : decode cX2_holdWithin 1 = .ok (.aload_n 0, 1) := by decide +kernel
theorem dX2_holdWithin_2 : decode cX2_holdWithin 2 = .ok (.getfield 7, 3) := by decide +kernel
theorem dX2_holdWithin_5 : decode cX2_holdWithin 5 = .ok (.fload_n 1, 1) := by decide +kernel
theorem dX2_holdWithin_6 : decode cX2_holdWithin 6 = .ok (.fneg, 1) := by decide +kernel
theorem dX2_holdWithin_7 : decode cX2_holdWithin 7 = .ok (.fload_n 1, 1) := by decide +kernel
theorem dX2_holdWithin_8 : decode cX2_holdWithin 8 = .ok (.invokestatic 19, 3) := by decide +kernel
theorem dX2_holdWithin_11 : decode cX2_holdWithin 11 = .ok (.putfield 7, 3) := by decide +kernel
theorem dX2_holdWithin_14 : decode cX2_holdWithin 14 = .ok (.aload_n 0, 1) := by decide +kernel
theorem dX2_holdWithin_15 : decode cX2_holdWithin 15 = .ok (.aload_n 0, 1) := by decide +kernel
theorem dX2_holdWithin_16 : decode cX2_holdWithin 16 = .ok (.getfield 13, 3) := by decide +kernel
theorem dX2_holdWithin_19 : decode cX2_holdWithin 19 = .ok (.fload_n 1, 1) := by decide +kernel
theorem dX2_holdWithin_20 : decode cX2_holdWithin 20 = .ok (.fneg, 1) := by decide +kernel
theorem dX2_holdWithin_21 : decode cX2_holdWithin 21 = .ok (.fload_n 1, 1) := by decide +kernel
theorem dX2_holdWithin_22 : decode cX2_holdWithin 22 = .ok (.invokestatic 19, 3) := by decide +kernel
theorem dX2_holdWithin_25 : decode cX2_holdWithin 25 = .ok (.putfield 13, 3) := by decide +kernel
theorem dX2_holdWithin_28 : decode cX2_holdWithin 28 = .ok (.aload_n 0, 1) := by decide +kernel
theorem dX2_holdWithin_29 : decode cX2_holdWithin 29 = .ok (.aload_n 0, 1) := by decide +kernel
theorem dX2_holdWithin_30 : decode cX2_holdWithin 30 = .ok (.getfield 16, 3) := by decide +kernel
theorem dX2_holdWithin_33 : decode cX2_holdWithin 33 = .ok (.fload_n 1, 1) := by decide +kernel
theorem dX2_holdWithin_34 : decode cX2_holdWithin 34 = .ok (.fneg, 1) := by decide +kernel
theorem dX2_holdWithin_35 : decode cX2_holdWithin 35 = .ok (.fload_n 1, 1) := by decide +kernel
theorem dX2_holdWithin_36 : decode cX2_holdWithin 36 = .ok (.invokestatic 19, 3) := by decide +kernel
theorem dX2_holdWithin_39 : decode cX2_holdWithin 39 = .ok (.putfield 16, 3) := by decide +kernel
theorem dX2_holdWithin_42 : decode cX2_holdWithin 42 = .ok (.return_, 1) := by decide +kernel
set_option maxRecDepth 20000 in
theorem ggX3_init_Jx4a65c_init_da8c8 : GoodIn wsX3_init wsJx4a65c_init_da8c8 := goodIn_r _ [32, 33, 34, 35, 36, 37, 38, 39, 40, 41, 42, 43, 44, 2, 3, 48, 49, 50] (by decide +kernel) (by decide +kernel)
set_option maxRecDepth 20000 in
theorem gX3_init_Jx4a65c_init_da8c8 : GoodIn wsX3_init (wsJx4a65c_init_da8c8) := ggX3_init_Jx4a65c_init_da8c8
set_option maxRecDepth 20000 in
theorem ggX3_init_X2_init : GoodIn wsX3_init wsX2_init := goodIn_r _ [46, 47, 2, 3] (by decide +kernel) (by decide +kernel)
set_option maxRecDepth 20000 in
theorem gX3_init_X2_init_n24 : GoodIn wsX3_init (wsX2_init) := ggX3_init_X2_init
theorem dX3_init_0 : decode cX3_init 0 = .ok (.aload_n 0, 1) := by decide +kernel
theorem dX3_init_1 : decode cX3_init 1 = .ok (.invokespecial 1, 3) := by decide +kernel
theorem dX3_init_4 : decode cX3_init 4 = .ok (.aload_n 0, 1) := by decide +kernel
theorem dX3_init_5 : decode cX3_init 5 = .ok (.new 7, 3) := by decide +kernel
theorem dX3_init_8 : decode cX3_init 8 = .ok (.dup, 1) := by decide +kernel
theorem dX3_init_9 : decode cX3_init 9 = .ok (.invokespecial 9, 3) := by decide +kernel
theorem dX3_init_12 : decode cX3_init 12 = .ok (.putfield 10, 3) := by decide +kernel
theorem dX3_init_15 : decode cX3_init 15 = .ok (.aload_n 0, 1) := by decide +kernel
theorem dX3_init_16 : decode cX3_init 16 = .ok (.new 7, 3) := by decide +kernel
theorem dX3_init_19 : decode cX3_init 19 = .ok (.dup, 1) := by decide +kernel
theorem dX3_init_20 : decode cX3_init 20 = .ok (.invokespecial 9, 3) := by decide +kernel
theorem dX3_init_23 : decode cX3_init 23 = .ok (.putfield 16, 3) := by decide +kernel
theorem dX3_init_26 : decode cX3_init 26 = .ok (.aload_n 0, 1) := by decide +kernel
theorem dX3_init_27 : decode cX3_init 27 = .ok (.new 7, 3) := by decide +kernel
theorem dX3_init_30 : decode cX3_init 30 = .ok (.dup, 1) := by decide +kernel
theorem dX3_init_31 : decode cX3_init 31 = .ok (.invokespecial 9, 3) := by decide +kernel
theorem dX3_init_34 : decode cX3_init 34 = .ok (.putfield 19, 3) := by decide +kernel
theorem dX3_init_37 : decode cX3_init 37 = .ok (.aload_n 0, 1) := by decide +kernel
theorem dX3_init_38 : decode cX3_init 38 = .ok (.new 22, 3) := by decide +kernel
theorem dX3_init_41 : decode cX3_init 41 = .ok (.dup, 1) := by decide +kernel
theorem dX3_init_42 : decode cX3_init 42 = .ok (.invokespecial 24, 3) := by decide +kernel
theorem dX3_init_45 : decode cX3_init 45 = .ok (.putfield 25, 3) := by decide +kernel
theorem dX3_init_48 : decode cX3_init 48 = .ok (.aload_n 0, 1) := by decide +kernel
theorem dX3_init_49 : decode cX3_init 49 = .ok (.new 22, 3) := by decide +kernel
theorem dX3_init_52 : decode cX3_init 52 = .ok (.dup, 1) := by decide +kernel
theorem dX3_init_53 : decode cX3_init 53 = .ok (.invokespecial 24, 3) := by decide +kernel
theorem dX3_init_56 : decode cX3_init 56 = .ok (.putfield 29, 3) := by decide +kernel
theorem dX3_init_59 : decode cX3_init 59 = .ok (.aload_n 0, 1) := by decide +kernel
theorem dX3_init_60 : decode cX3_init 60 = .ok (.new 22, 3) := by decide +kernel
theorem dX3_init_63 : decode cX3_init 63 = .ok (.dup, 1) := by decide +kernel
theorem dX3_init_64 : decode cX3_init 64 = .ok (.invokespecial 24, 3) := by decide +kernel
theorem dX3_init_67 : decode cX3_init 67 = .ok (.putfield 32, 3) := by decide +kernel
theorem dX3_init_70 : decode cX3_init 70 = .ok (.aload_n 0, 1) := by decide +kernel
theorem dX3_init_71 : decode cX3_init 71 = .ok (.bipush 8, 2) := by decide +kernel
theorem dX3_init_73 : decode cX3_init 73 = .ok (.putfield 35, 3) := by decide +kernel
theorem dX3_init_76 : decode cX3_init 76 = .ok (.aload_n 0, 1) := by decide +kernel
theorem dX3_init_77 : decode cX3_init 77 = .ok (.fconst 1, 1) := by decide +kernel
theorem dX3_init_78 : decode cX3_init 78 = .ok (.putfield 39, 3) := by decide +kernel
theorem dX3_init_81 : decode cX3_init 81 = .ok (.aload_n 0, 1) := by decide +kernel
theorem dX3_init_82 : decode cX3_init 82 = .ok (.ldc 43, 2) := by decide +kernel
theorem dX3_init_84 : decode cX3_init 84 = .ok (.putfield 44, 3) := by decide +kernel
theorem dX3_init_87 : decode cX3_init 87 = .ok (.aload_n 0, 1) := by decide +kernel
theorem dX3_init_88 : decode cX3_init 88 = .ok (.iconst 0, 1) := by decide +kernel
theorem dX3_init_89 : decode cX3_init 89 = .ok (.putfield 47, 3) := by decide +kernel
theorem dX3_init_92 : decode cX3_init 92 = .ok (.aload_n 0, 1) := by decide +kernel
theorem dX3_init_93 : decode cX3_init 93 = .ok (.iconst 1, 1) := by decide +kernel
theorem dX3_init_94 : decode cX3_init 94 = .ok (.putfield 50, 3) := by decide +kernel
theorem dX3_init_97 : decode cX3_init 97 = .ok (.aload_n 0, 1) := by decide +kernel
theorem dX3_init_98 : decode cX3_init 98 = .ok (.iconst 0, 1) := by decide +kernel
theorem dX3_init_99 : decode cX3_init 99 = .ok (.putfield 53, 3) := by decide +kernel
theorem dX3_init_102 : decode cX3_init 102 = .ok (.aload_n 0, 1) := by decide +kernel
theorem dX3_init_103 : decode cX3_init 103 = .ok (.iconst 0, 1) := by decide +kernel
theorem dX3_init_104 : decode cX3_init 104 = .ok (.putfield 56, 3) := by decide +kernel
theorem dX3_init_107 : decode cX3_init 107 = .ok (.aload_n 0, 1) := by decide +kernel
theorem dX3_init_108 : decode cX3_init 108 = .ok (.sipush 256, 3) := by decide +kernel
theorem dX3_init_111 : decode cX3_init 111 = .ok (.newarray .int, 2) := by decide +kernel
theorem dX3_init_113 : decode cX3_init 113 = .ok (.putfield 59, 3) := by decide +kernel
theorem dX3_init_116 : decode cX3_init 116 = .ok (.aload_n 0, 1) := by decide +kernel
theorem dX3_init_117 : decode cX3_init 117 = .ok (.sipush 256, 3) := by decide +kernel
theorem dX3_init_120 : decode cX3_init 120 = .ok (.newarray .boolean, 2) := by decide +kernel
theorem dX3_init_122 : decode cX3_init 122 = .ok (.putfield 63, 3) := by decide +kernel
theorem dX3_init_125 : decode cX3_init 125 = .ok (.aload_n 0, 1) := by decide +kernel
theorem dX3_init_126 : decode cX3_init 126 = .ok (.bipush 8, 2) := by decide +kernel
theorem dX3_init_128 : decode cX3_init 128 = .ok (.anewarray 67, 3) := by decide +kernel
theorem dX3_init_131 : decode cX3_init 131 = .ok (.putfield 69, 3) := by decide +kernel
theorem dX3_init_134 : decode cX3_init 134 = .ok (.return_, 1) := by decide +kernel
set_option maxRecDepth 20000 in
theorem ggX3_body_X3_outside : GoodIn wsX3_body wsX3_outside := goodIn_r _ [13] (by decide +kernel) (by decide +kernel)
set_option maxRecDepth 20000 in
theorem gX3_body_X3_outside : GoodIn wsX3_body (va_wsS RX3 74 yX3_outside wsX3_outside) := goodIn_app (goodIn_of _ (by decide +kernel)) ggX3_body_X3_outside
set_option maxRecDepth 20000 in
theorem ggX3_body_Jx4a65c_size_8abf5 : GoodIn wsX3_body wsJx4a65c_size_8abf5 := goodIn_r _ [18, 19, 127, 128, 129] (by decide +kernel) (by decide +kernel)
set_option maxRecDepth 20000 in
theorem gX3_body_Jx4a65c_size_8abf5 : GoodIn wsX3_body (wsV RX3 85 RJx4a65c yJx4a65c_size_8abf5 wsJx4a65c_size_8abf5) := goodIn_app (goodIn_of _ (by decide +kernel)) ggX3_body_Jx4a65c_size_8abf5
set_option maxRecDepth 20000 in
theorem ggX3_body_X0_init : GoodIn wsX3_body wsX0_init := goodIn_r _ [22, 23, 24, 25, 26, 27, 28, 29, 30, 31, 32, 33, 34, 35, 36, 37, 38, 39, 40, 130, 131, 132, 111, 112, 113, 114, 115, 116, 117, 118, 119, 120, 121, 122, 123, 124, 125, 126] (by decide +kernel) (by decide +kernel)
set_option maxRecDepth 20000 in
theorem gX3_body_X0_init : GoodIn wsX3_body (wsX0_init) := ggX3_body_X0_init
set_option maxRecDepth 20000 in
theorem ggX3_body_Jx4a65c_add_9ea2d : GoodIn wsX3_body wsJx4a65c_add_9ea2d := goodIn_r _ [44, 45, 46, 47, 19, 48, 49, 50, 17, 51, 52, 53, 54, 55, 56, 57, 58, 59, 60, 61, 62, 63, 64, 65, 66, 67, 68, 69, 70, 71, 72, 73, 74, 75, 76, 77, 78, 79, 80, 81, 82, 83, 84, 85, 86, 87, 88, 89, 90, 91, 92, 93, 94, 127, 128, 129] (by decide +kernel) (by decide +kernel)
set_option maxRecDepth 20000 in
theorem gX3_body_Jx4a65c_add_9ea2d : GoodIn wsX3_body (wsV RX3 99 RJx4a65c yJx4a65c_add_9ea2d wsJx4a65c_add_9ea2d) := goodIn_app (goodIn_of _ (by decide +kernel)) ggX3_body_Jx4a65c_add_9ea2d
theorem dX3_body_0 : decode cX3_body 0 = .ok (.fload_n 1, 1) := by decide +kernel
theorem dX3_body_1 : decode cX3_body 1 = .ok (.fconst 0, 1) := by decide +kernel
theorem dX3_body_2 : decode cX3_body 2 = .ok (.ldc 73, 2) := by decide +kernel
theorem dX3_body_4 : decode cX3_body 4 = .ok (.invokestatic 74, 3) := by decide +kernel
theorem dX3_body_7 : decode cX3_body 7 = .ok (.ifCond .ne 34, 3) := by decide +kernel
theorem dX3_body_10 : decode cX3_body 10 = .ok (.fload_n 2, 1) := by decide +kernel
theorem dX3_body_11 : decode cX3_body 11 = .ok (.fconst 0, 1) := by decide +kernel
theorem dX3_body_12 : decode cX3_body 12 = .ok (.ldc 73, 2) := by decide +kernel
theorem dX3_body_14 : decode cX3_body 14 = .ok (.invokestatic 74, 3) := by decide +kernel
theorem dX3_body_17 : decode cX3_body 17 = .ok (.ifCond .ne 24, 3) := by decide +kernel
theorem dX3_body_20 : decode cX3_body 20 = .ok (.fload_n 3, 1) := by decide +kernel
theorem dX3_body_21 : decode cX3_body 21 = .ok (.fconst 0, 1) := by decide +kernel
theorem dX3_body_22 : decode cX3_body 22 = .ok (.ldc 73, 2) := by decide +kernel
theorem dX3_body_24 : decode cX3_body 24 = .ok (.invokestatic 74, 3) := by decide +kernel
theorem dX3_body_27 : decode cX3_body 27 = .ok (.ifCond .ne 14, 3) := by decide +kernel
theorem dX3_body_30 : decode cX3_body 30 = .ok (.fload 4, 2) := by decide +kernel
theorem dX3_body_32 : decode cX3_body 32 = .ok (.fconst 0, 1) := by decide +kernel
theorem dX3_body_33 : decode cX3_body 33 = .ok (.ldc 73, 2) := by decide +kernel
theorem dX3_body_35 : decode cX3_body 35 = .ok (.invokestatic 74, 3) := by decide +kernel
theorem dX3_body_38 : decode cX3_body 38 = .ok (.ifCond .eq 13, 3) := by decide +kernel
theorem dX3_body_41 : decode cX3_body 41 = .ok (.new 78, 3) := by decide +kernel
theorem dX3_body_44 : decode cX3_body 44 = .ok (.dup, 1) := by decide +kernel
theorem dX3_body_45 : decode cX3_body 45 = .ok (.ldc 80, 2) := by decide +kernel
theorem dX3_body_47 : decode cX3_body 47 = .ok (.invokespecial 82, 3) := by decide +kernel
theorem dX3_body_50 : decode cX3_body 50 = .ok (.athrow, 1) := by decide +kernel
theorem dX3_body_51 : decode cX3_body 51 = .ok (.aload_n 0, 1) := by decide +kernel
theorem dX3_body_52 : decode cX3_body 52 = .ok (.getfield 10, 3) := by decide +kernel
theorem dX3_body_55 : decode cX3_body 55 = .ok (.invokevirtual 85, 3) := by decide +kernel
theorem dX3_body_58 : decode cX3_body 58 = .ok (.sipush 256, 3) := by decide +kernel
theorem dX3_body_61 : decode cX3_body 61 = .ok (.if_icmp .lt 13, 3) := by decide +kernel
theorem dX3_body_64 : decode cX3_body 64 = .ok (.new 89, 3) := by decide +kernel
theorem dX3_body_67 : decode cX3_body 67 = .ok (.dup, 1) := by decide +kernel
theorem dX3_body_68 : decode cX3_body 68 = .ok (.ldc 91, 2) := by decide +kernel
theorem dX3_body_70 : decode cX3_body 70 = .ok (.invokespecial 93, 3) := by decide +kernel
theorem dX3_body_73 : decode cX3_body 73 = .ok (.athrow, 1) := by decide +kernel
theorem dX3_body_74 : decode cX3_body 74 = .ok (.aload_n 0, 1) := by decide +kernel
theorem dX3_body_75 : decode cX3_body 75 = .ok (.getfield 10, 3) := by decide +kernel
theorem dX3_body_78 : decode cX3_body 78 = .ok (.invokevirtual 85, 3) := by decide +kernel
theorem dX3_body_81 : decode cX3_body 81 = .ok (.istore 5, 2) := by decide +kernel
theorem dX3_body_83 : decode cX3_body 83 = .ok (.aload_n 0, 1) := by decide +kernel
theorem dX3_body_84 : decode cX3_body 84 = .ok (.getfield 10, 3) := by decide +kernel
theorem dX3_body_87 : decode cX3_body 87 = .ok (.new 94, 3) := by decide +kernel
theorem dX3_body_90 : decode cX3_body 90 = .ok (.dup, 1) := by decide +kernel
theorem dX3_body_91 : decode cX3_body 91 = .ok (.iload 5, 2) := by decide +kernel
theorem dX3_body_93 : decode cX3_body 93 = .ok (.fload_n 1, 1) := by decide +kernel
theorem dX3_body_94 : decode cX3_body 94 = .ok (.fload_n 2, 1) := by decide +kernel
theorem dX3_body_95 : decode cX3_body 95 = .ok (.fload_n 3, 1) := by decide +kernel
theorem dX3_body_96 : decode cX3_body 96 = .ok (.fload 4, 2) := by decide +kernel
theorem dX3_body_98 : decode cX3_body 98 = .ok (.invokespecial 96, 3) := by decide +kernel
theorem dX3_body_101 : decode cX3_body 101 = .ok (.invokevirtual 99, 3) := by decide +kernel
theorem dX3_body_104 : decode cX3_body 104 = .ok (.pop, 1) := by decide +kernel
theorem dX3_body_105 : decode cX3_body 105 = .ok (.iload 5, 2) := by decide +kernel
theorem dX3_body_107 : decode cX3_body 107 = .ok (.ireturn, 1) := by decide +kernel
set_option maxRecDepth 20000 in
theorem ggX3_lean_X3_bodyAt : GoodIn wsX3_lean wsX3_bodyAt := goodIn_ca (goodIn_r _ [12, 13, 14, 15, 16, 17, 18, 19, 11, 20, 21, 22, 23, 24, 25, 26, 27, 28, 29, 30, 31, 32, 33, 34, 35, 36, 37, 38, 39, 40, 41, 42, 43, 70, 71, 72, 73, 74, 75, 76, 77, 78, 79, 80, 81, 82, 83, 84, 85, 86, 87, 88] (by decide +kernel) (by decide +kernel)) (goodIn_sub (fun _ h => List.mem_cons_of_mem _ (List.mem_append_right _ h)) (by decide +kernel))
set_option maxRecDepth 20000 in
theorem gX3_lean_X3_bodyAt : GoodIn wsX3_lean (wsV RX3 103 RX3 yX3_bodyAt wsX3_bodyAt) := goodIn_app (goodIn_of _ (by decide +kernel)) ggX3_lean_X3_bodyAt
set_option maxRecDepth 20000 in
theorem ggX3_lean_X3_outside : GoodIn wsX3_lean wsX3_outside := goodIn_r _ [46] (by decide +kernel) (by decide +kernel)
set_option maxRecDepth 20000 in
theorem gX3_lean_X3_outside : GoodIn wsX3_lean (va_wsS RX3 74 yX3_outside wsX3_outside) := goodIn_app (goodIn_of _ (by decide +kernel)) ggX3_lean_X3_outside
set_option maxRecDepth 20000 in
theorem ggX3_lean_X0_rouse : GoodIn wsX3_lean wsX0_rouse := goodIn_r _ [51, 52, 53, 54, 55, 56, 57, 58, 59, 60, 61, 62, 63, 64, 65, 66, 67, 68, 69] (by decide +kernel) (by decide +kernel)
set_option maxRecDepth 20000 in
theorem gX3_lean_X0_rouse : GoodIn wsX3_lean (wsV RX3 120 RX0 yX0_rouse wsX0_rouse) := goodIn_app (goodIn_of _ (by decide +kernel)) ggX3_lean_X0_rouse
theorem dX3_lean_0 : decode cX3_lean 0 = .ok (.aload_n 0, 1) := by decide +kernel
theorem dX3_lean_1 : decode cX3_lean 1 = .ok (.iload_n 1, 1) := by decide +kernel
theorem dX3_lean_2 : decode cX3_lean 2 = .ok (.invokevirtual 103, 3) := by decide +kernel
theorem dX3_lean_5 : decode cX3_lean 5 = .ok (.astore 5, 2) := by decide +kernel
theorem dX3_lean_7 : decode cX3_lean 7 = .ok (.fload_n 2, 1) := by decide +kernel
theorem dX3_lean_8 : decode cX3_lean 8 = .ok (.ldc 107, 2) := by decide +kernel
theorem dX3_lean_10 : decode cX3_lean 10 = .ok (.ldc 108, 2) := by decide +kernel
theorem dX3_lean_12 : decode cX3_lean 12 = .ok (.invokestatic 74, 3) := by decide +kernel
theorem dX3_lean_15 : decode cX3_lean 15 = .ok (.ifCond .ne 26, 3) := by decide +kernel
theorem dX3_lean_18 : decode cX3_lean 18 = .ok (.fload_n 3, 1) := by decide +kernel
theorem dX3_lean_19 : decode cX3_lean 19 = .ok (.ldc 107, 2) := by decide +kernel
theorem dX3_lean_21 : decode cX3_lean 21 = .ok (.ldc 108, 2) := by decide +kernel
theorem dX3_lean_23 : decode cX3_lean 23 = .ok (.invokestatic 74, 3) := by decide +kernel
theorem dX3_lean_26 : decode cX3_lean 26 = .ok (.ifCond .ne 15, 3) := by decide +kernel
theorem dX3_lean_29 : decode cX3_lean 29 = .ok (.fload 4, 2) := by decide +kernel
theorem dX3_lean_31 : decode cX3_lean 31 = .ok (.ldc 107, 2) := by decide +kernel
theorem dX3_lean_33 : decode cX3_lean 33 = .ok (.ldc 108, 2) := by decide +kernel
theorem dX3_lean_35 : decode cX3_lean 35 = .ok (.invokestatic 74, 3) := by decide +kernel
theorem dX3_lean_38 : decode cX3_lean 38 = .ok (.ifCond .eq 13, 3) := by decide +kernel
theorem dX3_lean_41 : decode cX3_lean 41 = .ok (.new 78, 3) := by decide +kernel
theorem dX3_lean_44 : decode cX3_lean 44 = .ok (.dup, 1) := by decide +kernel
theorem dX3_lean_45 : decode cX3_lean 45 = .ok (.ldc 109, 2) := by decide +kernel
theorem dX3_lean_47 : decode cX3_lean 47 = .ok (.invokespecial 82, 3) := by decide +kernel
theorem dX3_lean_50 : decode cX3_lean 50 = .ok (.athrow, 1) := by decide +kernel
theorem dX3_lean_51 : decode cX3_lean 51 = .ok (.aload 5, 2) := by decide +kernel
theorem dX3_lean_53 : decode cX3_lean 53 = .ok (.fload_n 2, 1) := by decide +kernel
theorem dX3_lean_54 : decode cX3_lean 54 = .ok (.putfield 111, 3) := by decide +kernel
theorem dX3_lean_57 : decode cX3_lean 57 = .ok (.aload 5, 2) := by decide +kernel
theorem dX3_lean_59 : decode cX3_lean 59 = .ok (.fload_n 3, 1) := by decide +kernel
theorem dX3_lean_60 : decode cX3_lean 60 = .ok (.putfield 114, 3) := by decide +kernel
theorem dX3_lean_63 : decode cX3_lean 63 = .ok (.aload 5, 2) := by decide +kernel
theorem dX3_lean_65 : decode cX3_lean 65 = .ok (.fload 4, 2) := by decide +kernel
theorem dX3_lean_67 : decode cX3_lean 67 = .ok (.putfield 117, 3) := by decide +kernel
theorem dX3_lean_70 : decode cX3_lean 70 = .ok (.aload 5, 2) := by decide +kernel
theorem dX3_lean_72 : decode cX3_lean 72 = .ok (.invokevirtual 120, 3) := by decide +kernel
theorem dX3_lean_75 : decode cX3_lean 75 = .ok (.return_, 1) := by decide +kernel
set_option maxRecDepth 20000 in
theorem ggX3_set_X3_bodyAt : GoodIn wsX3_set wsX3_bodyAt := goodIn_ca (goodIn_r _ [10, 11, 12, 13, 14, 15, 16, 17, 9, 18, 19, 20, 21, 22, 23, 24, 25, 26, 27, 28, 29, 30, 31, 32, 33, 34, 35, 36, 37, 38, 39, 40, 41, 79, 80, 81, 82, 83, 84, 85, 86, 87, 88, 89, 90, 91, 92, 93, 94, 95, 96, 97] (by decide +kernel) (by decide +kernel)) (goodIn_sub (fun _ h => List.mem_cons_of_mem _ (List.mem_append_right _ h)) (by decide +kernel))
set_option maxRecDepth 20000 in
theorem gX3_set_X3_bodyAt : GoodIn wsX3_set (wsV RX3 103 RX3 yX3_bodyAt wsX3_bodyAt) := goodIn_app (goodIn_of _ (by decide +kernel)) ggX3_set_X3_bodyAt
set_option maxRecDepth 20000 in
theorem ggX3_set_X3_anyOutside : GoodIn wsX3_set wsX3_anyOutside := goodIn_r _ [44, 45, 46, 9, 47] (by decide +kernel) (by decide +kernel)
set_option maxRecDepth 20000 in
theorem gX3_set_X3_anyOutside : GoodIn wsX3_set (va_wsS RX3 124 yX3_anyOutside wsX3_anyOutside) := goodIn_app (goodIn_of _ (by decide +kernel)) ggX3_set_X3_anyOutside
set_option maxRecDepth 20000 in
theorem ggX3_set_X2_put : GoodIn wsX3_set wsX2_put := goodIn_r _ [52, 53, 54, 55, 98, 99, 100] (by decide +kernel) (by decide +kernel)
set_option maxRecDepth 20000 in
theorem gX3_set_X2_put : GoodIn wsX3_set (wsV RX3 133 RX2 yX2_put wsX2_put) := goodIn_app (goodIn_of _ (by decide +kernel)) ggX3_set_X2_put
set_option maxRecDepth 20000 in
theorem ggX3_set_X0_rouse : GoodIn wsX3_set wsX0_rouse := goodIn_r _ [60, 61, 62, 63, 64, 65, 66, 67, 68, 69, 70, 71, 72, 73, 74, 75, 76, 77, 78] (by decide +kernel) (by decide +kernel)
set_option maxRecDepth 20000 in
theorem gX3_set_X0_rouse : GoodIn wsX3_set (wsV RX3 120 RX0 yX0_rouse wsX0_rouse) := goodIn_app (goodIn_of _ (by decide +kernel)) ggX3_set_X0_rouse
theorem dX3_set_0 : decode cX3_set 0 = .ok (.aload_n 0, 1) := by decide +kernel
theorem dX3_set_1 : decode cX3_set 1 = .ok (.iload_n 1, 1) := by decide +kernel
theorem dX3_set_2 : decode cX3_set 2 = .ok (.invokevirtual 103, 3) := by decide +kernel
theorem dX3_set_5 : decode cX3_set 5 = .ok (.astore 8, 2) := by decide +kernel
theorem dX3_set_7 : decode cX3_set 7 = .ok (.fload_n 2, 1) := by decide +kernel
theorem dX3_set_8 : decode cX3_set 8 = .ok (.fload_n 3, 1) := by decide +kernel
theorem dX3_set_9 : decode cX3_set 9 = .ok (.fload 4, 2) := by decide +kernel
theorem dX3_set_11 : decode cX3_set 11 = .ok (.ldc 123, 2) := by decide +kernel
theorem dX3_set_13 : decode cX3_set 13 = .ok (.invokestatic 124, 3) := by decide +kernel
theorem dX3_set_16 : decode cX3_set 16 = .ok (.ifCond .ne 17, 3) := by decide +kernel
theorem dX3_set_19 : decode cX3_set 19 = .ok (.fload 5, 2) := by decide +kernel
theorem dX3_set_21 : decode cX3_set 21 = .ok (.fload 6, 2) := by decide +kernel
theorem dX3_set_23 : decode cX3_set 23 = .ok (.fload 7, 2) := by decide +kernel
theorem dX3_set_25 : decode cX3_set 25 = .ok (.ldc 123, 2) := by decide +kernel
theorem dX3_set_27 : decode cX3_set 27 = .ok (.invokestatic 124, 3) := by decide +kernel
theorem dX3_set_30 : decode cX3_set 30 = .ok (.ifCond .eq 13, 3) := by decide +kernel
theorem dX3_set_33 : decode cX3_set 33 = .ok (.new 78, 3) := by decide +kernel
theorem dX3_set_36 : decode cX3_set 36 = .ok (.dup, 1) := by decide +kernel
theorem dX3_set_37 : decode cX3_set 37 = .ok (.ldc 128, 2) := by decide +kernel
theorem dX3_set_39 : decode cX3_set 39 = .ok (.invokespecial 82, 3) := by decide +kernel
theorem dX3_set_42 : decode cX3_set 42 = .ok (.athrow, 1) := by decide +kernel
theorem dX3_set_43 : decode cX3_set 43 = .ok (.aload 8, 2) := by decide +kernel
theorem dX3_set_45 : decode cX3_set 45 = .ok (.getfield 130, 3) := by decide +kernel
theorem dX3_set_48 : decode cX3_set 48 = .ok (.fload_n 2, 1) := by decide +kernel
theorem dX3_set_49 : decode cX3_set 49 = .ok (.fload_n 3, 1) := by decide +kernel
theorem dX3_set_50 : decode cX3_set 50 = .ok (.fload 4, 2) := by decide +kernel
theorem dX3_set_52 : decode cX3_set 52 = .ok (.invokevirtual 133, 3) := by decide +kernel
theorem dX3_set_55 : decode cX3_set 55 = .ok (.aload 8, 2) := by decide +kernel
theorem dX3_set_57 : decode cX3_set 57 = .ok (.getfield 137, 3) := by decide +kernel
theorem dX3_set_60 : decode cX3_set 60 = .ok (.fload 5, 2) := by decide +kernel
theorem dX3_set_62 : decode cX3_set 62 = .ok (.fload 6, 2) := by decide +kernel
theorem dX3_set_64 : decode cX3_set 64 = .ok (.fload 7, 2) := by decide +kernel
theorem dX3_set_66 : decode cX3_set 66 = .ok (.invokevirtual 133, 3) := by decide +kernel
theorem dX3_set_69 : decode cX3_set 69 = .ok (.aload 8, 2) := by decide +kernel
theorem dX3_set_71 : decode cX3_set 71 = .ok (.invokevirtual 120, 3) := by decide +kernel
theorem dX3_set_74 : decode cX3_set 74 = .ok (.return_, 1) := by decide +kernel
set_option maxRecDepth 20000 in
theorem ggX3_gain_X3_isBody : GoodIn wsX3_gain wsX3_isBody := goodIn_r _ [17, 6, 18, 19, 20, 21, 22, 23, 62, 63, 64, 65, 66, 67, 68, 69, 70, 71, 72, 73, 74, 75, 76, 77, 97, 98, 99] (by decide +kernel) (by decide +kernel)
set_option maxRecDepth 20000 in
theorem gX3_gain_X3_isBody : GoodIn wsX3_gain (wsV RX3 140 RX3 yX3_isBody wsX3_isBody) := goodIn_app (goodIn_of _ (by decide +kernel)) ggX3_gain_X3_isBody
set_option maxRecDepth 20000 in
theorem ggX3_gain_X3_anyOutside : GoodIn wsX3_gain wsX3_anyOutside := goodIn_r _ [26, 27, 28, 16, 29] (by decide +kernel) (by decide +kernel)
set_option maxRecDepth 20000 in
theorem gX3_gain_X3_anyOutside : GoodIn wsX3_gain (va_wsS RX3 124 yX3_anyOutside wsX3_anyOutside) := goodIn_app (goodIn_of _ (by decide +kernel)) ggX3_gain_X3_anyOutside
set_option maxRecDepth 20000 in
theorem ggX3_gain_Jx4a65c_get_915e3 : GoodIn wsX3_gain wsJx4a65c_get_915e3 := goodIn_r _ [33, 23, 34, 35, 36, 37, 38, 39, 40, 41, 42, 43, 44, 21, 45, 46, 97, 98, 99] (by decide +kernel) (by decide +kernel)
set_option maxRecDepth 20000 in
theorem gX3_gain_Jx4a65c_get_915e3 : GoodIn wsX3_gain (wsV RX3 152 RJx4a65c yJx4a65c_get_915e3 wsJx4a65c_get_915e3) := goodIn_app (goodIn_of _ (by decide +kernel)) ggX3_gain_Jx4a65c_get_915e3
set_option maxRecDepth 20000 in
theorem ggX3_gain_X2_put : GoodIn wsX3_gain wsX2_put := goodIn_r _ [51, 52, 53, 54, 94, 95, 96] (by decide +kernel) (by decide +kernel)
set_option maxRecDepth 20000 in
theorem gX3_gain_X2_put : GoodIn wsX3_gain (wsV RX3 133 RX2 yX2_put wsX2_put) := goodIn_app (goodIn_of _ (by decide +kernel)) ggX3_gain_X2_put
set_option maxRecDepth 20000 in
theorem ggX3_gain_X0_rouse : GoodIn wsX3_gain wsX0_rouse := goodIn_r _ [59, 60, 61, 78, 79, 80, 81, 82, 83, 84, 85, 86, 87, 88, 89, 90, 91, 92, 93] (by decide +kernel) (by decide +kernel)
set_option maxRecDepth 20000 in
theorem gX3_gain_X0_rouse : GoodIn wsX3_gain (wsV RX3 120 RX0 yX0_rouse wsX0_rouse) := goodIn_app (goodIn_of _ (by decide +kernel)) ggX3_gain_X0_rouse
theorem dX3_gain_0 : decode cX3_gain 0 = .ok (.aload_n 0, 1) := by decide +kernel
theorem dX3_gain_1 : decode cX3_gain 1 = .ok (.iload_n 1, 1) := by decide +kernel
theorem dX3_gain_2 : decode cX3_gain 2 = .ok (.invokevirtual 140, 3) := by decide +kernel
theorem dX3_gain_5 : decode cX3_gain 5 = .ok (.ifCond .eq 16, 3) := by decide +kernel
theorem dX3_gain_8 : decode cX3_gain 8 = .ok (.aload_n 0, 1) := by decide +kernel
theorem dX3_gain_9 : decode cX3_gain 9 = .ok (.iload_n 2, 1) := by decide +kernel
theorem dX3_gain_10 : decode cX3_gain 10 = .ok (.invokevirtual 140, 3) := by decide +kernel
theorem dX3_gain_13 : decode cX3_gain 13 = .ok (.ifCond .eq 8, 3) := by decide +kernel
theorem dX3_gain_16 : decode cX3_gain 16 = .ok (.iload_n 1, 1) := by decide +kernel
theorem dX3_gain_17 : decode cX3_gain 17 = .ok (.iload_n 2, 1) := by decide +kernel
theorem dX3_gain_18 : decode cX3_gain 18 = .ok (.if_icmp .le 13, 3) := by decide +kernel
theorem dX3_gain_21 : decode cX3_gain 21 = .ok (.new 144, 3) := by decide +kernel
theorem dX3_gain_24 : decode cX3_gain 24 = .ok (.dup, 1) := by decide +kernel
theorem dX3_gain_25 : decode cX3_gain 25 = .ok (.ldc 146, 2) := by decide +kernel
theorem dX3_gain_27 : decode cX3_gain 27 = .ok (.invokespecial 148, 3) := by decide +kernel
theorem dX3_gain_30 : decode cX3_gain 30 = .ok (.athrow, 1) := by decide +kernel
theorem dX3_gain_31 : decode cX3_gain 31 = .ok (.fload_n 3, 1) := by decide +kernel
theorem dX3_gain_32 : decode cX3_gain 32 = .ok (.fload 4, 2) := by decide +kernel
theorem dX3_gain_34 : decode cX3_gain 34 = .ok (.fload 5, 2) := by decide +kernel
theorem dX3_gain_36 : decode cX3_gain 36 = .ok (.ldc 149, 2) := by decide +kernel
theorem dX3_gain_38 : decode cX3_gain 38 = .ok (.invokestatic 124, 3) := by decide +kernel
theorem dX3_gain_41 : decode cX3_gain 41 = .ok (.ifCond .eq 13, 3) := by decide +kernel
theorem dX3_gain_44 : decode cX3_gain 44 = .ok (.new 78, 3) := by decide +kernel
theorem dX3_gain_47 : decode cX3_gain 47 = .ok (.dup, 1) := by decide +kernel
theorem dX3_gain_48 : decode cX3_gain 48 = .ok (.ldc 150, 2) := by decide +kernel
theorem dX3_gain_50 : decode cX3_gain 50 = .ok (.invokespecial 82, 3) := by decide +kernel
theorem dX3_gain_53 : decode cX3_gain 53 = .ok (.athrow, 1) := by decide +kernel
theorem dX3_gain_54 : decode cX3_gain 54 = .ok (.iconst 0, 1) := by decide +kernel
theorem dX3_gain_55 : decode cX3_gain 55 = .ok (.istore 6, 2) := by decide +kernel
theorem dX3_gain_57 : decode cX3_gain 57 = .ok (.iload_n 1, 1) := by decide +kernel
theorem dX3_gain_58 : decode cX3_gain 58 = .ok (.istore 7, 2) := by decide +kernel
theorem dX3_gain_60 : decode cX3_gain 60 = .ok (.iload 7, 2) := by decide +kernel
theorem dX3_gain_62 : decode cX3_gain 62 = .ok (.iload_n 2, 1) := by decide +kernel
theorem dX3_gain_63 : decode cX3_gain 63 = .ok (.if_icmp .gt 79, 3) := by decide +kernel
theorem dX3_gain_66 : decode cX3_gain 66 = .ok (.aload_n 0, 1) := by decide +kernel
theorem dX3_gain_67 : decode cX3_gain 67 = .ok (.getfield 10, 3) := by decide +kernel
theorem dX3_gain_70 : decode cX3_gain 70 = .ok (.iload 7, 2) := by decide +kernel
theorem dX3_gain_72 : decode cX3_gain 72 = .ok (.invokevirtual 152, 3) := by decide +kernel
theorem dX3_gain_75 : decode cX3_gain 75 = .ok (.checkcast 94, 3) := by decide +kernel
theorem dX3_gain_78 : decode cX3_gain 78 = .ok (.astore 8, 2) := by decide +kernel
theorem dX3_gain_80 : decode cX3_gain 80 = .ok (.aload 8, 2) := by decide +kernel
theorem dX3_gain_82 : decode cX3_gain 82 = .ok (.getfield 156, 3) := by decide +kernel
theorem dX3_gain_85 : decode cX3_gain 85 = .ok (.ifCond .eq 51, 3) := by decide +kernel
theorem dX3_gain_88 : decode cX3_gain 88 = .ok (.aload 8, 2) := by decide +kernel
theorem dX3_gain_90 : decode cX3_gain 90 = .ok (.getfield 130, 3) := by decide +kernel
theorem dX3_gain_93 : decode cX3_gain 93 = .ok (.aload 8, 2) := by decide +kernel
theorem dX3_gain_95 : decode cX3_gain 95 = .ok (.getfield 130, 3) := by decide +kernel
theorem dX3_gain_98 : decode cX3_gain 98 = .ok (.getfield 160, 3) := by decide +kernel
theorem dX3_gain_101 : decode cX3_gain 101 = .ok (.fload_n 3, 1) := by decide +kernel
theorem dX3_gain_102 : decode cX3_gain 102 = .ok (.fadd, 1) := by decide +kernel
theorem dX3_gain_103 : decode cX3_gain 103 = .ok (.aload 8, 2) := by decide +kernel
theorem dX3_gain_105 : decode cX3_gain 105 = .ok (.getfield 130, 3) := by decide +kernel
theorem dX3_gain_108 : decode cX3_gain 108 = .ok (.getfield 163, 3) := by decide +kernel
theorem dX3_gain_111 : decode cX3_gain 111 = .ok (.fload 4, 2) := by decide +kernel
theorem dX3_gain_113 : decode cX3_gain 113 = .ok (.fadd, 1) := by decide +kernel
theorem dX3_gain_114 : decode cX3_gain 114 = .ok (.aload 8, 2) := by decide +kernel
theorem dX3_gain_116 : decode cX3_gain 116 = .ok (.getfield 130, 3) := by decide +kernel
theorem dX3_gain_119 : decode cX3_gain 119 = .ok (.getfield 166, 3) := by decide +kernel
theorem dX3_gain_122 : decode cX3_gain 122 = .ok (.fload 5, 2) := by decide +kernel
theorem dX3_gain_124 : decode cX3_gain 124 = .ok (.fadd, 1) := by decide +kernel
theorem dX3_gain_125 : decode cX3_gain 125 = .ok (.invokevirtual 133, 3) := by decide +kernel
theorem dX3_gain_128 : decode cX3_gain 128 = .ok (.aload 8, 2) := by decide +kernel
theorem dX3_gain_130 : decode cX3_gain 130 = .ok (.invokevirtual 120, 3) := by decide +kernel
theorem dX3_gain_133 : decode cX3_gain 133 = .ok (.iinc 6 1, 3) := by decide +kernel
theorem dX3_gain_136 : decode cX3_gain 136 = .ok (.iinc 7 1, 3) := by decide +kernel
theorem dX3_gain_139 : decode cX3_gain 139 = .ok (.goto (-79), 3) := by decide +kernel
theorem dX3_gain_142 : decode cX3_gain 142 = .ok (.iload 6, 2) := by decide +kernel
theorem dX3_gain_144 : decode cX3_gain 144 = .ok (.ireturn, 1) := by decide +kernel
set_option maxRecDepth 20000 in
theorem ggX3_wake_X3_bodyAt : GoodIn wsX3_wake wsX3_bodyAt := goodIn_ca (goodIn_r _ [6, 7, 8, 9, 10, 11, 12, 13, 5, 14, 15, 16, 17, 18, 19, 20, 21, 22, 23, 24, 25, 26, 27, 28, 29, 30, 31, 32, 33, 34, 35, 36, 37, 61, 62, 63, 64, 65, 66, 67, 68, 69, 70, 71, 72, 73, 74, 75, 76, 77, 78, 79] (by decide +kernel) (by decide +kernel)) (goodIn_sub (fun _ h => List.mem_cons_of_mem _ (List.mem_append_right _ h)) (by decide +kernel))
set_option maxRecDepth 20000 in
theorem gX3_wake_X3_bodyAt : GoodIn wsX3_wake (wsV RX3 103 RX3 yX3_bodyAt wsX3_bodyAt) := goodIn_app (goodIn_of _ (by decide +kernel)) ggX3_wake_X3_bodyAt
set_option maxRecDepth 20000 in
theorem ggX3_wake_X0_rouse : GoodIn wsX3_wake wsX0_rouse := goodIn_r _ [42, 43, 44, 45, 46, 47, 48, 49, 50, 51, 52, 53, 54, 55, 56, 57, 58, 59, 60] (by decide +kernel) (by decide +kernel)
set_option maxRecDepth 20000 in
theorem gX3_wake_X0_rouse : GoodIn wsX3_wake (wsV RX3 120 RX0 yX0_rouse wsX0_rouse) := goodIn_app (goodIn_of _ (by decide +kernel)) ggX3_wake_X0_rouse
theorem dX3_wake_0 : decode cX3_wake 0 = .ok (.aload_n 0, 1) := by decide +kernel
theorem dX3_wake_1 : decode cX3_wake 1 = .ok (.iload_n 1, 1) := by decide +kernel
theorem dX3_wake_2 : decode cX3_wake 2 = .ok (.invokevirtual 103, 3) := by decide +kernel
theorem dX3_wake_5 : decode cX3_wake 5 = .ok (.astore_n 2, 1) := by decide +kernel
theorem dX3_wake_6 : decode cX3_wake 6 = .ok (.aload_n 2, 1) := by decide +kernel
theorem dX3_wake_7 : decode cX3_wake 7 = .ok (.getfield 169, 3) := by decide +kernel
theorem dX3_wake_10 : decode cX3_wake 10 = .ok (.istore_n 3, 1) := by decide +kernel
theorem dX3_wake_11 : decode cX3_wake 11 = .ok (.aload_n 2, 1) := by decide +kernel
theorem dX3_wake_12 : decode cX3_wake 12 = .ok (.invokevirtual 120, 3) := by decide +kernel
theorem dX3_wake_15 : decode cX3_wake 15 = .ok (.iload_n 3, 1) := by decide +kernel
theorem dX3_wake_16 : decode cX3_wake 16 = .ok (.ireturn, 1) := by decide +kernel
set_option maxRecDepth 20000 in
theorem ggX3_vector_X3_anyOutside : GoodIn wsX3_vector wsX3_anyOutside := goodIn_r _ [12, 13, 14, 11, 15] (by decide +kernel) (by decide +kernel)
set_option maxRecDepth 20000 in
theorem gX3_vector_X3_anyOutside : GoodIn wsX3_vector (va_wsS RX3 124 yX3_anyOutside wsX3_anyOutside) := goodIn_app (goodIn_of _ (by decide +kernel)) ggX3_vector_X3_anyOutside
set_option maxRecDepth 20000 in
theorem ggX3_vector_X2_put : GoodIn wsX3_vector wsX2_put := goodIn_r _ [20, 21, 22, 23, 40, 41, 42] (by decide +kernel) (by decide +kernel)
set_option maxRecDepth 20000 in
theorem gX3_vector_X2_put : GoodIn wsX3_vector (wsV RX3 133 RX2 yX2_put wsX2_put) := goodIn_app (goodIn_of _ (by decide +kernel)) ggX3_vector_X2_put
theorem dX3_vector_0 : decode cX3_vector 0 = .ok (.iload_n 1, 1) := by decide +kernel
theorem dX3_vector_1 : decode cX3_vector 1 = .ok (.ifCond .lt 8, 3) := by decide +kernel
theorem dX3_vector_4 : decode cX3_vector 4 = .ok (.iload_n 1, 1) := by decide +kernel
theorem dX3_vector_5 : decode cX3_vector 5 = .ok (.iconst 2, 1) := by decide +kernel
theorem dX3_vector_6 : decode cX3_vector 6 = .ok (.if_icmp .le 13, 3) := by decide +kernel
theorem dX3_vector_9 : decode cX3_vector 9 = .ok (.new 144, 3) := by decide +kernel
theorem dX3_vector_12 : decode cX3_vector 12 = .ok (.dup, 1) := by decide +kernel
theorem dX3_vector_13 : decode cX3_vector 13 = .ok (.ldc 172, 2) := by decide +kernel
theorem dX3_vector_15 : decode cX3_vector 15 = .ok (.invokespecial 148, 3) := by decide +kernel
theorem dX3_vector_18 : decode cX3_vector 18 = .ok (.athrow, 1) := by decide +kernel
theorem dX3_vector_19 : decode cX3_vector 19 = .ok (.fload_n 2, 1) := by decide +kernel
theorem dX3_vector_20 : decode cX3_vector 20 = .ok (.fload_n 3, 1) := by decide +kernel
theorem dX3_vector_21 : decode cX3_vector 21 = .ok (.fload 4, 2) := by decide +kernel
theorem dX3_vector_23 : decode cX3_vector 23 = .ok (.ldc 149, 2) := by decide +kernel
theorem dX3_vector_25 : decode cX3_vector 25 = .ok (.invokestatic 124, 3) := by decide +kernel
theorem dX3_vector_28 : decode cX3_vector 28 = .ok (.ifCond .eq 13, 3) := by decide +kernel
theorem dX3_vector_31 : decode cX3_vector 31 = .ok (.new 78, 3) := by decide +kernel
theorem dX3_vector_34 : decode cX3_vector 34 = .ok (.dup, 1) := by decide +kernel
theorem dX3_vector_35 : decode cX3_vector 35 = .ok (.ldc 150, 2) := by decide +kernel
theorem dX3_vector_37 : decode cX3_vector 37 = .ok (.invokespecial 82, 3) := by decide +kernel
theorem dX3_vector_40 : decode cX3_vector 40 = .ok (.athrow, 1) := by decide +kernel
theorem dX3_vector_41 : decode cX3_vector 41 = .ok (.iload_n 1, 1) := by decide +kernel
theorem dX3_vector_42 : decode cX3_vector 42 = .ok (.ifCond .ne 10, 3) := by decide +kernel
theorem dX3_vector_45 : decode cX3_vector 45 = .ok (.aload_n 0, 1) := by decide +kernel
theorem dX3_vector_46 : decode cX3_vector 46 = .ok (.getfield 25, 3) := by decide +kernel
theorem dX3_vector_49 : decode cX3_vector 49 = .ok (.goto 19, 3) := by decide +kernel
theorem dX3_vector_52 : decode cX3_vector 52 = .ok (.iload_n 1, 1) := by decide +kernel
theorem dX3_vector_53 : decode cX3_vector 53 = .ok (.iconst 1, 1) := by decide +kernel
theorem dX3_vector_54 : decode cX3_vector 54 = .ok (.if_icmp .ne 10, 3) := by decide +kernel
theorem dX3_vector_57 : decode cX3_vector 57 = .ok (.aload_n 0, 1) := by decide +kernel
theorem dX3_vector_58 : decode cX3_vector 58 = .ok (.getfield 29, 3) := by decide +kernel
theorem dX3_vector_61 : decode cX3_vector 61 = .ok (.goto 7, 3) := by decide +kernel
theorem dX3_vector_64 : decode cX3_vector 64 = .ok (.aload_n 0, 1) := by decide +kernel
theorem dX3_vector_65 : decode cX3_vector 65 = .ok (.getfield 32, 3) := by decide +kernel
theorem dX3_vector_68 : decode cX3_vector 68 = .ok (.astore 5, 2) := by decide +kernel
theorem dX3_vector_70 : decode cX3_vector 70 = .ok (.aload 5, 2) := by decide +kernel
theorem dX3_vector_72 : decode cX3_vector 72 = .ok (.fload_n 2, 1) := by decide +kernel
theorem dX3_vector_73 : decode cX3_vector 73 = .ok (.fload_n 3, 1) := by decide +kernel
theorem dX3_vector_74 : decode cX3_vector 74 = .ok (.fload 4, 2) := by decide +kernel
theorem dX3_vector_76 : decode cX3_vector 76 = .ok (.invokevirtual 133, 3) := by decide +kernel
theorem dX3_vector_79 : decode cX3_vector 79 = .ok (.return_, 1) := by decide +kernel
set_option maxRecDepth 20000 in
theorem ggX3_row_X3_checkPair : GoodIn wsX3_row wsX3_checkPair := goodIn_ca (goodIn_r _ [15, 16, 17, 18, 19, 20, 14, 21, 22, 23, 24, 25, 26, 27, 28, 216, 217, 218, 219, 220, 221, 222, 223, 224, 225, 226, 227, 228, 229, 230, 231, 232, 233, 234] (by decide +kernel) (by decide +kernel)) (goodIn_sub (fun _ h => List.mem_cons_of_mem _ (List.mem_append_left _ (List.mem_append_right _ h))) (by decide +kernel))
set_option maxRecDepth 20000 in
theorem gX3_row_X3_checkPair : GoodIn wsX3_row (wsV RX3 174 RX3 yX3_checkPair wsX3_checkPair) := goodIn_app (goodIn_of _ (by decide +kernel)) ggX3_row_X3_checkPair
set_option maxRecDepth 20000 in
theorem ggX3_row_X3_outside : GoodIn wsX3_row wsX3_outside := goodIn_r _ [31] (by decide +kernel) (by decide +kernel)
set_option maxRecDepth 20000 in
theorem gX3_row_X3_outside : GoodIn wsX3_row (va_wsS RX3 74 yX3_outside wsX3_outside) := goodIn_app (goodIn_of _ (by decide +kernel)) ggX3_row_X3_outside
set_option maxRecDepth 20000 in
theorem ggX3_row_X3_checkRoomForRow : GoodIn wsX3_row wsX3_checkRoomForRow := goodIn_ca (goodIn_r _ [35, 36, 37, 38, 23, 24, 25, 26, 27, 28, 216, 217, 218, 219, 220, 221, 222, 223, 224, 225, 226, 227, 228, 229, 230, 231, 232, 233, 234] (by decide +kernel) (by decide +kernel)) (goodIn_sub (fun _ h => List.mem_cons_of_mem _ (List.mem_append_right _ h)) (by decide +kernel))
set_option maxRecDepth 20000 in
theorem gX3_row_X3_checkRoomForRow : GoodIn wsX3_row (wsV RX3 183 RX3 yX3_checkRoomForRow wsX3_checkRoomForRow) := goodIn_app (goodIn_of _ (by decide +kernel)) ggX3_row_X3_checkRoomForRow
set_option maxRecDepth 20000 in
theorem ggX3_row_X3_newRow : GoodIn wsX3_row wsX3_newRow := goodIn_ca (goodIn_r _ [42, 43, 44, 45, 46, 47, 48, 49, 50, 51, 52, 53, 14, 54, 16, 17, 22, 55, 18, 19, 20, 21, 23, 24, 25, 26, 27, 28, 56, 57, 58, 59, 60, 61, 62, 63, 64, 65, 66, 67, 68, 69, 70, 71, 72, 73, 74, 75, 76, 77, 78, 79, 80, 81, 82, 83, 84, 85, 86, 87, 88, 89, 90, 91, 92, 93, 94, 95, 96, 97, 98, 99, 100, 101, 102, 103, 104, 105, 198, 199, 200, 201, 202, 203, 204, 205, 206, 207, 208, 209, 210, 211, 212, 213, 214, 215, 216, 217, 218, 219, 220, 221, 222, 223, 224, 225, 226, 227, 228, 229, 230, 231, 232, 233, 234, 235, 236, 237] (by decide +kernel) (by decide +kernel)) (goodIn_sub (fun _ h => List.mem_cons_of_mem _ (List.mem_append_left _ (List.mem_append_right _ h))) (by decide +kernel))
set_option maxRecDepth 20000 in
theorem gX3_row_X3_newRow : GoodIn wsX3_row (wsV RX3 186 RX3 yX3_newRow wsX3_newRow) := goodIn_app (goodIn_of _ (by decide +kernel)) ggX3_row_X3_newRow
set_option maxRecDepth 20000 in
theorem ggX3_row_X3_addRow : GoodIn wsX3_row wsX3_addRow := goodIn_r _ [109, 50, 110, 38, 111, 112, 113, 14, 114, 115, 116, 23, 24, 25, 26, 27, 28, 56, 57, 58, 59, 60, 61, 62, 63, 64, 65, 66, 67, 68, 69, 70, 71, 72, 117, 118, 119, 45, 120, 121, 122, 123, 124, 125, 126, 127, 128, 129, 130, 131, 91, 132, 92, 133, 134, 135, 136, 137, 138, 139, 140, 141, 142, 143, 144, 145, 146, 147, 148, 149, 150, 151, 152, 153, 154, 155, 156, 157, 158, 159, 160, 161, 162, 163, 164, 165, 166, 167, 168, 169, 170, 171, 172, 173, 174, 175, 176, 177, 178, 179, 180, 181, 182, 183, 184, 185, 186, 187, 188, 189, 190, 191, 192, 193, 194, 195, 196, 197, 198, 199, 200, 201, 202, 203, 204, 205, 206, 207, 208, 209, 210, 211, 212, 213, 214, 215, 216, 217, 218, 219, 220, 221, 222, 223, 224, 225, 226, 227, 228, 229, 230, 231, 232, 233, 234, 238, 239, 240, 241, 242, 243, 244, 245, 246, 247, 248, 249, 250, 251, 252, 253] (by decide +kernel) (by decide +kernel)
set_option maxRecDepth 20000 in
theorem gX3_row_X3_addRow : GoodIn wsX3_row (wsV RX3 199 RX3 yX3_addRow wsX3_addRow) := goodIn_app (goodIn_of _ (by decide +kernel)) ggX3_row_X3_addRow
theorem dX3_row_0 : decode cX3_row 0 = .ok (.aload_n 0, 1) := by decide +kernel
theorem dX3_row_1 : decode cX3_row 1 = .ok (.iload_n 1, 1) := by decide +kernel
theorem dX3_row_2 : decode cX3_row 2 = .ok (.iload_n 2, 1) := by decide +kernel
theorem dX3_row_3 : decode cX3_row 3 = .ok (.invokevirtual 174, 3) := by decide +kernel
theorem dX3_row_6 : decode cX3_row 6 = .ok (.fload_n 3, 1) := by decide +kernel
theorem dX3_row_7 : decode cX3_row 7 = .ok (.ldc 178, 2) := by decide +kernel
theorem dX3_row_9 : decode cX3_row 9 = .ok (.ldc 123, 2) := by decide +kernel
theorem dX3_row_11 : decode cX3_row 11 = .ok (.invokestatic 74, 3) := by decide +kernel
theorem dX3_row_14 : decode cX3_row 14 = .ok (.ifCond .ne 46, 3) := by decide +kernel
theorem dX3_row_17 : decode cX3_row 17 = .ok (.fload 4, 2) := by decide +kernel
theorem dX3_row_19 : decode cX3_row 19 = .ok (.fconst 0, 1) := by decide +kernel
theorem dX3_row_20 : decode cX3_row 20 = .ok (.ldc 149, 2) := by decide +kernel
theorem dX3_row_22 : decode cX3_row 22 = .ok (.invokestatic 74, 3) := by decide +kernel
theorem dX3_row_25 : decode cX3_row 25 = .ok (.ifCond .ne 35, 3) := by decide +kernel
theorem dX3_row_28 : decode cX3_row 28 = .ok (.fload 5, 2) := by decide +kernel
theorem dX3_row_30 : decode cX3_row 30 = .ok (.ldc 179, 2) := by decide +kernel
theorem dX3_row_32 : decode cX3_row 32 = .ok (.ldc 180, 2) := by decide +kernel
theorem dX3_row_34 : decode cX3_row 34 = .ok (.invokestatic 74, 3) := by decide +kernel
theorem dX3_row_37 : decode cX3_row 37 = .ok (.ifCond .ne 23, 3) := by decide +kernel
theorem dX3_row_40 : decode cX3_row 40 = .ok (.fload 6, 2) := by decide +kernel
theorem dX3_row_42 : decode cX3_row 42 = .ok (.ldc 179, 2) := by decide +kernel
theorem dX3_row_44 : decode cX3_row 44 = .ok (.ldc 180, 2) := by decide +kernel
theorem dX3_row_46 : decode cX3_row 46 = .ok (.invokestatic 74, 3) := by decide +kernel
theorem dX3_row_49 : decode cX3_row 49 = .ok (.ifCond .ne 11, 3) := by decide +kernel
theorem dX3_row_52 : decode cX3_row 52 = .ok (.fload 5, 2) := by decide +kernel
theorem dX3_row_54 : decode cX3_row 54 = .ok (.fload 6, 2) := by decide +kernel
theorem dX3_row_56 : decode cX3_row 56 = .ok (.fcmp .l, 1) := by decide +kernel
theorem dX3_row_57 : decode cX3_row 57 = .ok (.ifCond .le 13, 3) := by decide +kernel
theorem dX3_row_60 : decode cX3_row 60 = .ok (.new 78, 3) := by decide +kernel
theorem dX3_row_63 : decode cX3_row 63 = .ok (.dup, 1) := by decide +kernel
theorem dX3_row_64 : decode cX3_row 64 = .ok (.ldc 181, 2) := by decide +kernel
theorem dX3_row_66 : decode cX3_row 66 = .ok (.invokespecial 82, 3) := by decide +kernel
theorem dX3_row_69 : decode cX3_row 69 = .ok (.athrow, 1) := by decide +kernel
theorem dX3_row_70 : decode cX3_row 70 = .ok (.aload_n 0, 1) := by decide +kernel
theorem dX3_row_71 : decode cX3_row 71 = .ok (.invokevirtual 183, 3) := by decide +kernel
theorem dX3_row_74 : decode cX3_row 74 = .ok (.aload_n 0, 1) := by decide +kernel
theorem dX3_row_75 : decode cX3_row 75 = .ok (.iload_n 1, 1) := by decide +kernel
theorem dX3_row_76 : decode cX3_row 76 = .ok (.iload_n 2, 1) := by decide +kernel
theorem dX3_row_77 : decode cX3_row 77 = .ok (.fload_n 3, 1) := by decide +kernel
theorem dX3_row_78 : decode cX3_row 78 = .ok (.iload 7, 2) := by decide +kernel
theorem dX3_row_80 : decode cX3_row 80 = .ok (.invokevirtual 186, 3) := by decide +kernel
theorem dX3_row_83 : decode cX3_row 83 = .ok (.astore 8, 2) := by decide +kernel
theorem dX3_row_85 : decode cX3_row 85 = .ok (.aload 8, 2) := by decide +kernel
theorem dX3_row_87 : decode cX3_row 87 = .ok (.fload 4, 2) := by decide +kernel
theorem dX3_row_89 : decode cX3_row 89 = .ok (.putfield 190, 3) := by decide +kernel
theorem dX3_row_92 : decode cX3_row 92 = .ok (.aload 8, 2) := by decide +kernel
theorem dX3_row_94 : decode cX3_row 94 = .ok (.fload 5, 2) := by decide +kernel
theorem dX3_row_96 : decode cX3_row 96 = .ok (.putfield 193, 3) := by decide +kernel
theorem dX3_row_99 : decode cX3_row 99 = .ok (.aload 8, 2) := by decide +kernel
theorem dX3_row_101 : decode cX3_row 101 = .ok (.fload 6, 2) := by decide +kernel
theorem dX3_row_103 : decode cX3_row 103 = .ok (.putfield 196, 3) := by decide +kernel
theorem dX3_row_106 : decode cX3_row 106 = .ok (.aload_n 0, 1) := by decide +kernel
theorem dX3_row_107 : decode cX3_row 107 = .ok (.aload 8, 2) := by decide +kernel
theorem dX3_row_109 : decode cX3_row 109 = .ok (.invokevirtual 199, 3) := by decide +kernel
theorem dX3_row_112 : decode cX3_row 112 = .ok (.ireturn, 1) := by decide +kernel
set_option maxRecDepth 20000 in
theorem ggX3_rub_X3_checkPair : GoodIn wsX3_rub wsX3_checkPair := goodIn_ca (goodIn_r _ [14, 15, 16, 17, 18, 19, 13, 20, 21, 22, 23, 24, 25, 26, 27, 219, 220, 221, 222, 223, 224, 225, 226, 227, 228, 229, 230, 231, 232, 233, 234, 235, 236, 237] (by decide +kernel) (by decide +kernel)) (goodIn_sub (fun _ h => List.mem_cons_of_mem _ (List.mem_append_left _ (List.mem_append_right _ h))) (by decide +kernel))
set_option maxRecDepth 20000 in
theorem gX3_rub_X3_checkPair : GoodIn wsX3_rub (wsV RX3 174 RX3 yX3_checkPair wsX3_checkPair) := goodIn_app (goodIn_of _ (by decide +kernel)) ggX3_rub_X3_checkPair
set_option maxRecDepth 20000 in
theorem ggX3_rub_X3_rowAt : GoodIn wsX3_rub wsX3_rowAt := goodIn_ca (goodIn_r _ [31, 15, 16, 32, 33, 22, 23, 24, 25, 26, 27, 34, 35, 36, 37, 38, 39, 40, 41, 42, 43, 44, 45, 46, 47, 48, 49, 50, 219, 220, 221, 222, 223, 224, 225, 226, 227, 228, 229, 230, 231, 232, 233, 234, 235, 236, 237] (by decide +kernel) (by decide +kernel)) (goodIn_sub (fun _ h => List.mem_cons_of_mem _ (List.mem_append_left _ (List.mem_append_right _ h))) (by decide +kernel))
set_option maxRecDepth 20000 in
theorem gX3_rub_X3_rowAt : GoodIn wsX3_rub (wsV RX3 203 RX3 yX3_rowAt wsX3_rowAt) := goodIn_app (goodIn_of _ (by decide +kernel)) ggX3_rub_X3_rowAt
set_option maxRecDepth 20000 in
theorem ggX3_rub_X3_outside : GoodIn wsX3_rub wsX3_outside := goodIn_r _ [53] (by decide +kernel) (by decide +kernel)
set_option maxRecDepth 20000 in
theorem gX3_rub_X3_outside : GoodIn wsX3_rub (va_wsS RX3 74 yX3_outside wsX3_outside) := goodIn_app (goodIn_of _ (by decide +kernel)) ggX3_rub_X3_outside
set_option maxRecDepth 20000 in
theorem ggX3_rub_X3_bodyAt : GoodIn wsX3_rub wsX3_bodyAt := goodIn_ca (goodIn_r _ [57, 15, 16, 21, 58, 17, 18, 19, 13, 20, 22, 23, 24, 25, 26, 27, 34, 35, 36, 37, 38, 39, 40, 41, 42, 43, 44, 45, 46, 47, 48, 49, 50, 219, 220, 221, 222, 223, 224, 225, 226, 227, 228, 229, 230, 231, 232, 233, 234, 235, 236, 237] (by decide +kernel) (by decide +kernel)) (goodIn_sub (fun _ h => List.mem_cons_of_mem _ (List.mem_append_left _ (List.mem_append_right _ h))) (by decide +kernel))
set_option maxRecDepth 20000 in
theorem gX3_rub_X3_bodyAt : GoodIn wsX3_rub (wsV RX3 103 RX3 yX3_bodyAt wsX3_bodyAt) := goodIn_app (goodIn_of _ (by decide +kernel)) ggX3_rub_X3_bodyAt
set_option maxRecDepth 20000 in
theorem ggX3_rub_X3_otherBody : GoodIn wsX3_rub wsX3_otherBody := goodIn_ca (goodIn_r _ [62, 54, 55, 56, 13, 57, 15, 16, 21, 58, 17, 18, 19, 20, 22, 23, 24, 25, 26, 27, 34, 35, 36, 37, 38, 39, 40, 41, 42, 43, 44, 45, 46, 47, 48, 49, 50, 219, 220, 221, 222, 223, 224, 225, 226, 227, 228, 229, 230, 231, 232, 233, 234, 235, 236, 237] (by decide +kernel) (by decide +kernel)) (goodIn_sub (fun _ h => List.mem_cons_of_mem _ (List.mem_append_left _ (List.mem_append_right _ h))) (by decide +kernel))
set_option maxRecDepth 20000 in
theorem gX3_rub_X3_otherBody : GoodIn wsX3_rub (wsV RX3 221 RX3 yX3_otherBody wsX3_otherBody) := goodIn_app (goodIn_of _ (by decide +kernel)) ggX3_rub_X3_otherBody
set_option maxRecDepth 20000 in
theorem ggX3_rub_X3_checkRoomForRow : GoodIn wsX3_rub wsX3_checkRoomForRow := goodIn_ca (goodIn_r _ [66, 67, 68, 32, 22, 23, 24, 25, 26, 27, 219, 220, 221, 222, 223, 224, 225, 226, 227, 228, 229, 230, 231, 232, 233, 234, 235, 236, 237] (by decide +kernel) (by decide +kernel)) (goodIn_sub (fun _ h => List.mem_cons_of_mem _ (List.mem_append_right _ h)) (by decide +kernel))
set_option maxRecDepth 20000 in
theorem gX3_rub_X3_checkRoomForRow : GoodIn wsX3_rub (wsV RX3 183 RX3 yX3_checkRoomForRow wsX3_checkRoomForRow) := goodIn_app (goodIn_of _ (by decide +kernel)) ggX3_rub_X3_checkRoomForRow
set_option maxRecDepth 20000 in
theorem ggX3_rub_X3_newRow : GoodIn wsX3_rub wsX3_newRow := goodIn_ca (goodIn_r _ [72, 73, 74, 75, 76, 77, 78, 79, 80, 54, 55, 56, 13, 57, 15, 16, 21, 58, 17, 18, 19, 20, 22, 23, 24, 25, 26, 27, 34, 35, 36, 37, 38, 39, 40, 41, 42, 43, 44, 45, 46, 47, 48, 49, 50, 59, 60, 61, 62, 81, 82, 83, 84, 85, 86, 87, 88, 89, 90, 91, 92, 93, 94, 95, 96, 97, 98, 99, 100, 101, 102, 103, 104, 105, 106, 107, 108, 109, 201, 202, 203, 204, 205, 206, 207, 208, 209, 210, 211, 212, 213, 214, 215, 216, 217, 218, 219, 220, 221, 222, 223, 224, 225, 226, 227, 228, 229, 230, 231, 232, 233, 234, 235, 236, 237, 238, 239, 240] (by decide +kernel) (by decide +kernel)) (goodIn_sub (fun _ h => List.mem_cons_of_mem _ (List.mem_append_left _ (List.mem_append_right _ h))) (by decide +kernel))
set_option maxRecDepth 20000 in
theorem gX3_rub_X3_newRow : GoodIn wsX3_rub (wsV RX3 186 RX3 yX3_newRow wsX3_newRow) := goodIn_app (goodIn_of _ (by decide +kernel)) ggX3_rub_X3_newRow
set_option maxRecDepth 20000 in
theorem ggX3_rub_X3_addRow : GoodIn wsX3_rub wsX3_addRow := goodIn_r _ [113, 80, 114, 32, 115, 116, 117, 13, 118, 119, 33, 22, 23, 24, 25, 26, 27, 34, 35, 36, 37, 38, 39, 40, 41, 42, 43, 44, 45, 46, 47, 48, 49, 50, 120, 121, 122, 75, 123, 124, 125, 126, 127, 128, 129, 130, 131, 132, 133, 134, 95, 135, 96, 136, 137, 138, 139, 140, 141, 142, 143, 144, 145, 146, 147, 148, 149, 150, 151, 152, 153, 154, 155, 156, 157, 158, 159, 160, 161, 162, 163, 164, 165, 166, 167, 168, 169, 170, 171, 172, 173, 174, 175, 176, 177, 178, 179, 180, 181, 182, 183, 184, 185, 186, 187, 188, 189, 190, 191, 192, 193, 194, 195, 196, 197, 198, 199, 200, 201, 202, 203, 204, 205, 206, 207, 208, 209, 210, 211, 212, 213, 214, 215, 216, 217, 218, 219, 220, 221, 222, 223, 224, 225, 226, 227, 228, 229, 230, 231, 232, 233, 234, 235, 236, 237, 241, 242, 243, 244, 245, 246, 247, 248, 249, 250, 251, 252, 253, 254, 255, 256] (by decide +kernel) (by decide +kernel)
set_option maxRecDepth 20000 in
theorem gX3_rub_X3_addRow : GoodIn wsX3_rub (wsV RX3 199 RX3 yX3_addRow wsX3_addRow) := goodIn_app (goodIn_of _ (by decide +kernel)) ggX3_rub_X3_addRow
theorem dX3_rub_0 : decode cX3_rub 0 = .ok (.aload_n 0, 1) := by decide +kernel
theorem dX3_rub_1 : decode cX3_rub 1 = .ok (.iload_n 1, 1) := by decide +kernel
theorem dX3_rub_2 : decode cX3_rub 2 = .ok (.iload_n 2, 1) := by decide +kernel
theorem dX3_rub_3 : decode cX3_rub 3 = .ok (.invokevirtual 174, 3) := by decide +kernel
theorem dX3_rub_6 : decode cX3_rub 6 = .ok (.aload_n 0, 1) := by decide +kernel
theorem dX3_rub_7 : decode cX3_rub 7 = .ok (.iload 4, 2) := by decide +kernel
theorem dX3_rub_9 : decode cX3_rub 9 = .ok (.invokevirtual 203, 3) := by decide +kernel
theorem dX3_rub_12 : decode cX3_rub 12 = .ok (.astore 7, 2) := by decide +kernel
theorem dX3_rub_14 : decode cX3_rub 14 = .ok (.fload_n 3, 1) := by decide +kernel
theorem dX3_rub_15 : decode cX3_rub 15 = .ok (.ldc 178, 2) := by decide +kernel
theorem dX3_rub_17 : decode cX3_rub 17 = .ok (.ldc 123, 2) := by decide +kernel
theorem dX3_rub_19 : decode cX3_rub 19 = .ok (.invokestatic 74, 3) := by decide +kernel
theorem dX3_rub_22 : decode cX3_rub 22 = .ok (.ifCond .ne 14, 3) := by decide +kernel
theorem dX3_rub_25 : decode cX3_rub 25 = .ok (.fload 5, 2) := by decide +kernel
theorem dX3_rub_27 : decode cX3_rub 27 = .ok (.fconst 0, 1) := by decide +kernel
theorem dX3_rub_28 : decode cX3_rub 28 = .ok (.ldc 207, 2) := by decide +kernel
theorem dX3_rub_30 : decode cX3_rub 30 = .ok (.invokestatic 74, 3) := by decide +kernel
theorem dX3_rub_33 : decode cX3_rub 33 = .ok (.ifCond .eq 13, 3) := by decide +kernel
theorem dX3_rub_36 : decode cX3_rub 36 = .ok (.new 78, 3) := by decide +kernel
theorem dX3_rub_39 : decode cX3_rub 39 = .ok (.dup, 1) := by decide +kernel
theorem dX3_rub_40 : decode cX3_rub 40 = .ok (.ldc 208, 2) := by decide +kernel
theorem dX3_rub_42 : decode cX3_rub 42 = .ok (.invokespecial 82, 3) := by decide +kernel
theorem dX3_rub_45 : decode cX3_rub 45 = .ok (.athrow, 1) := by decide +kernel
theorem dX3_rub_46 : decode cX3_rub 46 = .ok (.aload 7, 2) := by decide +kernel
theorem dX3_rub_48 : decode cX3_rub 48 = .ok (.getfield 210, 3) := by decide +kernel
theorem dX3_rub_51 : decode cX3_rub 51 = .ok (.ifnonnull 29, 3) := by decide +kernel
theorem dX3_rub_54 : decode cX3_rub 54 = .ok (.aload 7, 2) := by decide +kernel
theorem dX3_rub_56 : decode cX3_rub 56 = .ok (.getfield 214, 3) := by decide +kernel
theorem dX3_rub_59 : decode cX3_rub 59 = .ok (.aload_n 0, 1) := by decide +kernel
theorem dX3_rub_60 : decode cX3_rub 60 = .ok (.iload_n 1, 1) := by decide +kernel
theorem dX3_rub_61 : decode cX3_rub 61 = .ok (.invokevirtual 103, 3) := by decide +kernel
theorem dX3_rub_64 : decode cX3_rub 64 = .ok (.if_acmp .ne 16, 3) := by decide +kernel
theorem dX3_rub_67 : decode cX3_rub 67 = .ok (.aload 7, 2) := by decide +kernel
theorem dX3_rub_69 : decode cX3_rub 69 = .ok (.getfield 218, 3) := by decide +kernel
theorem dX3_rub_72 : decode cX3_rub 72 = .ok (.aload_n 0, 1) := by decide +kernel
theorem dX3_rub_73 : decode cX3_rub 73 = .ok (.iload_n 2, 1) := by decide +kernel
theorem dX3_rub_74 : decode cX3_rub 74 = .ok (.invokevirtual 221, 3) := by decide +kernel
theorem dX3_rub_77 : decode cX3_rub 77 = .ok (.if_acmp .eq 13, 3) := by decide +kernel
theorem dX3_rub_80 : decode cX3_rub 80 = .ok (.new 78, 3) := by decide +kernel
theorem dX3_rub_83 : decode cX3_rub 83 = .ok (.dup, 1) := by decide +kernel
theorem dX3_rub_84 : decode cX3_rub 84 = .ok (.ldc 224, 2) := by decide +kernel
theorem dX3_rub_86 : decode cX3_rub 86 = .ok (.invokespecial 82, 3) := by decide +kernel
theorem dX3_rub_89 : decode cX3_rub 89 = .ok (.athrow, 1) := by decide +kernel
theorem dX3_rub_90 : decode cX3_rub 90 = .ok (.aload_n 0, 1) := by decide +kernel
theorem dX3_rub_91 : decode cX3_rub 91 = .ok (.invokevirtual 183, 3) := by decide +kernel
theorem dX3_rub_94 : decode cX3_rub 94 = .ok (.aload_n 0, 1) := by decide +kernel
theorem dX3_rub_95 : decode cX3_rub 95 = .ok (.iload_n 1, 1) := by decide +kernel
theorem dX3_rub_96 : decode cX3_rub 96 = .ok (.iload_n 2, 1) := by decide +kernel
theorem dX3_rub_97 : decode cX3_rub 97 = .ok (.fload_n 3, 1) := by decide +kernel
theorem dX3_rub_98 : decode cX3_rub 98 = .ok (.iload 6, 2) := by decide +kernel
theorem dX3_rub_100 : decode cX3_rub 100 = .ok (.invokevirtual 186, 3) := by decide +kernel
theorem dX3_rub_103 : decode cX3_rub 103 = .ok (.astore 8, 2) := by decide +kernel
theorem dX3_rub_105 : decode cX3_rub 105 = .ok (.aload 8, 2) := by decide +kernel
theorem dX3_rub_107 : decode cX3_rub 107 = .ok (.aload 7, 2) := by decide +kernel
theorem dX3_rub_109 : decode cX3_rub 109 = .ok (.putfield 210, 3) := by decide +kernel
theorem dX3_rub_112 : decode cX3_rub 112 = .ok (.aload 8, 2) := by decide +kernel
theorem dX3_rub_114 : decode cX3_rub 114 = .ok (.fload 5, 2) := by decide +kernel
theorem dX3_rub_116 : decode cX3_rub 116 = .ok (.putfield 226, 3) := by decide +kernel
theorem dX3_rub_119 : decode cX3_rub 119 = .ok (.aload_n 0, 1) := by decide +kernel
theorem dX3_rub_120 : decode cX3_rub 120 = .ok (.aload 8, 2) := by decide +kernel
theorem dX3_rub_122 : decode cX3_rub 122 = .ok (.invokevirtual 199, 3) := by decide +kernel
theorem dX3_rub_125 : decode cX3_rub 125 = .ok (.ireturn, 1) := by decide +kernel
set_option maxRecDepth 20000 in
theorem ggX3_clear_Jx4a65c_size_8abf5 : GoodIn wsX3_clear wsJx4a65c_size_8abf5 := goodIn_r _ [9, 10, 57, 58, 59] (by decide +kernel) (by decide +kernel)
set_option maxRecDepth 20000 in
theorem gX3_clear_Jx4a65c_size_8abf5 : GoodIn wsX3_clear (wsV RX3 85 RJx4a65c yJx4a65c_size_8abf5 wsJx4a65c_size_8abf5) := goodIn_app (goodIn_of _ (by decide +kernel)) ggX3_clear_Jx4a65c_size_8abf5
set_option maxRecDepth 20000 in
theorem ggX3_clear_Jx4a65c_clear_da8c8 : GoodIn wsX3_clear wsJx4a65c_clear_da8c8 := goodIn_r _ [14, 15, 16, 17, 10, 57, 58, 59] (by decide +kernel) (by decide +kernel)
set_option maxRecDepth 20000 in
theorem gX3_clear_Jx4a65c_clear_da8c8 : GoodIn wsX3_clear (wsV RX3 229 RJx4a65c yJx4a65c_clear_da8c8 wsJx4a65c_clear_da8c8) := goodIn_app (goodIn_of _ (by decide +kernel)) ggX3_clear_Jx4a65c_clear_da8c8
set_option maxRecDepth 20000 in
theorem ggX3_clear_Jx4a65c_get_915e3 : GoodIn wsX3_clear wsJx4a65c_get_915e3 := goodIn_r _ [21, 10, 22, 23, 24, 25, 26, 27, 28, 29, 30, 31, 32, 8, 33, 17, 57, 58, 59] (by decide +kernel) (by decide +kernel)
set_option maxRecDepth 20000 in
theorem gX3_clear_Jx4a65c_get_915e3 : GoodIn wsX3_clear (wsV RX3 152 RJx4a65c yJx4a65c_get_915e3 wsJx4a65c_get_915e3) := goodIn_app (goodIn_of _ (by decide +kernel)) ggX3_clear_Jx4a65c_get_915e3
set_option maxRecDepth 20000 in
theorem ggX3_clear_X0_leaveRows : GoodIn wsX3_clear wsX0_leaveRows := goodIn_r _ [38, 39, 40, 60, 61, 62, 63, 64, 65, 66, 67, 68, 69, 70, 71, 72, 73, 74, 75] (by decide +kernel) (by decide +kernel)
set_option maxRecDepth 20000 in
theorem gX3_clear_X0_leaveRows : GoodIn wsX3_clear (wsV RX3 232 RX0 yX0_leaveRows wsX0_leaveRows) := goodIn_app (goodIn_of _ (by decide +kernel)) ggX3_clear_X0_leaveRows
theorem dX3_clear_0 : decode cX3_clear 0 = .ok (.aload_n 0, 1) := by decide +kernel
theorem dX3_clear_1 : decode cX3_clear 1 = .ok (.getfield 16, 3) := by decide +kernel
theorem dX3_clear_4 : decode cX3_clear 4 = .ok (.invokevirtual 85, 3) := by decide +kernel
theorem dX3_clear_7 : decode cX3_clear 7 = .ok (.istore_n 1, 1) := by decide +kernel
theorem dX3_clear_8 : decode cX3_clear 8 = .ok (.aload_n 0, 1) := by decide +kernel
theorem dX3_clear_9 : decode cX3_clear 9 = .ok (.getfield 19, 3) := by decide +kernel
theorem dX3_clear_12 : decode cX3_clear 12 = .ok (.astore_n 2, 1) := by decide +kernel
theorem dX3_clear_13 : decode cX3_clear 13 = .ok (.aload_n 2, 1) := by decide +kernel
theorem dX3_clear_14 : decode cX3_clear 14 = .ok (.invokevirtual 229, 3) := by decide +kernel
theorem dX3_clear_17 : decode cX3_clear 17 = .ok (.aload_n 0, 1) := by decide +kernel
theorem dX3_clear_18 : decode cX3_clear 18 = .ok (.aload_n 0, 1) := by decide +kernel
theorem dX3_clear_19 : decode cX3_clear 19 = .ok (.getfield 16, 3) := by decide +kernel
theorem dX3_clear_22 : decode cX3_clear 22 = .ok (.putfield 19, 3) := by decide +kernel
theorem dX3_clear_25 : decode cX3_clear 25 = .ok (.aload_n 0, 1) := by decide +kernel
theorem dX3_clear_26 : decode cX3_clear 26 = .ok (.aload_n 2, 1) := by decide +kernel
theorem dX3_clear_27 : decode cX3_clear 27 = .ok (.putfield 16, 3) := by decide +kernel
theorem dX3_clear_30 : decode cX3_clear 30 = .ok (.iconst 0, 1) := by decide +kernel
theorem dX3_clear_31 : decode cX3_clear 31 = .ok (.istore_n 3, 1) := by decide +kernel
theorem dX3_clear_32 : decode cX3_clear 32 = .ok (.iload_n 3, 1) := by decide +kernel
theorem dX3_clear_33 : decode cX3_clear 33 = .ok (.aload_n 0, 1) := by decide +kernel
theorem dX3_clear_34 : decode cX3_clear 34 = .ok (.getfield 10, 3) := by decide +kernel
theorem dX3_clear_37 : decode cX3_clear 37 = .ok (.invokevirtual 85, 3) := by decide +kernel
theorem dX3_clear_40 : decode cX3_clear 40 = .ok (.if_icmp .ge 23, 3) := by decide +kernel
theorem dX3_clear_43 : decode cX3_clear 43 = .ok (.aload_n 0, 1) := by decide +kernel
theorem dX3_clear_44 : decode cX3_clear 44 = .ok (.getfield 10, 3) := by decide +kernel
theorem dX3_clear_47 : decode cX3_clear 47 = .ok (.iload_n 3, 1) := by decide +kernel
theorem dX3_clear_48 : decode cX3_clear 48 = .ok (.invokevirtual 152, 3) := by decide +kernel
theorem dX3_clear_51 : decode cX3_clear 51 = .ok (.checkcast 94, 3) := by decide +kernel
theorem dX3_clear_54 : decode cX3_clear 54 = .ok (.invokevirtual 232, 3) := by decide +kernel
theorem dX3_clear_57 : decode cX3_clear 57 = .ok (.iinc 3 1, 3) := by decide +kernel
theorem dX3_clear_60 : decode cX3_clear 60 = .ok (.goto (-28), 3) := by decide +kernel
theorem dX3_clear_63 : decode cX3_clear 63 = .ok (.iload_n 1, 1) := by decide +kernel
theorem dX3_clear_64 : decode cX3_clear 64 = .ok (.ireturn, 1) := by decide +kernel
set_option maxRecDepth 20000 in
theorem ggX3_settings_X3_outside : GoodIn wsX3_settings wsX3_outside := goodIn_r _ [11] (by decide +kernel) (by decide +kernel)
set_option maxRecDepth 20000 in
theorem gX3_settings_X3_outside : GoodIn wsX3_settings (va_wsS RX3 74 yX3_outside wsX3_outside) := goodIn_app (goodIn_of _ (by decide +kernel)) ggX3_settings_X3_outside
theorem dX3_settings_0 : decode cX3_settings 0 = .ok (.iload_n 1, 1) := by decide +kernel
theorem dX3_settings_1 : decode cX3_settings 1 = .ok (.iconst 1, 1) := by decide +kernel
theorem dX3_settings_2 : decode cX3_settings 2 = .ok (.if_icmp .lt 40, 3) := by decide +kernel
theorem dX3_settings_5 : decode cX3_settings 5 = .ok (.iload_n 1, 1) := by decide +kernel
theorem dX3_settings_6 : decode cX3_settings 6 = .ok (.bipush 16, 2) := by decide +kernel
theorem dX3_settings_8 : decode cX3_settings 8 = .ok (.if_icmp .gt 34, 3) := by decide +kernel
theorem dX3_settings_11 : decode cX3_settings 11 = .ok (.fload_n 2, 1) := by decide +kernel
theorem dX3_settings_12 : decode cX3_settings 12 = .ok (.fconst 0, 1) := by decide +kernel
theorem dX3_settings_13 : decode cX3_settings 13 = .ok (.fconst 1, 1) := by decide +kernel
theorem dX3_settings_14 : decode cX3_settings 14 = .ok (.invokestatic 74, 3) := by decide +kernel
theorem dX3_settings_17 : decode cX3_settings 17 = .ok (.ifCond .ne 25, 3) := by decide +kernel
theorem dX3_settings_20 : decode cX3_settings 20 = .ok (.fload_n 3, 1) := by decide +kernel
theorem dX3_settings_21 : decode cX3_settings 21 = .ok (.fconst 0, 1) := by decide +kernel
theorem dX3_settings_22 : decode cX3_settings 22 = .ok (.ldc 149, 2) := by decide +kernel
theorem dX3_settings_24 : decode cX3_settings 24 = .ok (.invokestatic 74, 3) := by decide +kernel
theorem dX3_settings_27 : decode cX3_settings 27 = .ok (.ifCond .ne 15, 3) := by decide +kernel
theorem dX3_settings_30 : decode cX3_settings 30 = .ok (.iload 4, 2) := by decide +kernel
theorem dX3_settings_32 : decode cX3_settings 32 = .ok (.ifCond .lt 10, 3) := by decide +kernel
theorem dX3_settings_35 : decode cX3_settings 35 = .ok (.iload 4, 2) := by decide +kernel
theorem dX3_settings_37 : decode cX3_settings 37 = .ok (.bipush 100, 2) := by decide +kernel
theorem dX3_settings_39 : decode cX3_settings 39 = .ok (.if_icmp .le 13, 3) := by decide +kernel
theorem dX3_settings_42 : decode cX3_settings 42 = .ok (.new 78, 3) := by decide +kernel
theorem dX3_settings_45 : decode cX3_settings 45 = .ok (.dup, 1) := by decide +kernel
theorem dX3_settings_46 : decode cX3_settings 46 = .ok (.ldc 235, 2) := by decide +kernel
theorem dX3_settings_48 : decode cX3_settings 48 = .ok (.invokespecial 82, 3) := by decide +kernel
theorem dX3_settings_51 : decode cX3_settings 51 = .ok (.athrow, 1) := by decide +kernel
theorem dX3_settings_52 : decode cX3_settings 52 = .ok (.aload_n 0, 1) := by decide +kernel
theorem dX3_settings_53 : decode cX3_settings 53 = .ok (.iload_n 1, 1) := by decide +kernel
theorem dX3_settings_54 : decode cX3_settings 54 = .ok (.putfield 35, 3) := by decide +kernel
theorem dX3_settings_57 : decode cX3_settings 57 = .ok (.aload_n 0, 1) := by decide +kernel
theorem dX3_settings_58 : decode cX3_settings 58 = .ok (.fload_n 2, 1) := by decide +kernel
theorem dX3_settings_59 : decode cX3_settings 59 = .ok (.putfield 39, 3) := by decide +kernel
theorem dX3_settings_62 : decode cX3_settings 62 = .ok (.aload_n 0, 1) := by decide +kernel
theorem dX3_settings_63 : decode cX3_settings 63 = .ok (.fload_n 3, 1) := by decide +kernel
theorem dX3_settings_64 : decode cX3_settings 64 = .ok (.putfield 44, 3) := by decide +kernel
theorem dX3_settings_67 : decode cX3_settings 67 = .ok (.aload_n 0, 1) := by decide +kernel
theorem dX3_settings_68 : decode cX3_settings 68 = .ok (.iload 4, 2) := by decide +kernel
theorem dX3_settings_70 : decode cX3_settings 70 = .ok (.putfield 47, 3) := by decide +kernel
theorem dX3_settings_73 : decode cX3_settings 73 = .ok (.return_, 1) := by decide +kernel
theorem dX3_workers_0 : decode cX3_workers 0 = .ok (.iload_n 1, 1) := by decide +kernel
theorem dX3_workers_1 : decode cX3_workers 1 = .ok (.iconst 1, 1) := by decide +kernel
theorem dX3_workers_2 : decode cX3_workers 2 = .ok (.if_icmp .lt 9, 3) := by decide +kernel
theorem dX3_workers_5 : decode cX3_workers 5 = .ok (.iload_n 1, 1) := by decide +kernel
theorem dX3_workers_6 : decode cX3_workers 6 = .ok (.bipush 8, 2) := by decide +kernel
theorem dX3_workers_8 : decode cX3_workers 8 = .ok (.if_icmp .le 13, 3) := by decide +kernel
theorem dX3_workers_11 : decode cX3_workers 11 = .ok (.new 78, 3) := by decide +kernel
theorem dX3_workers_14 : decode cX3_workers 14 = .ok (.dup, 1) := by decide +kernel
theorem dX3_workers_15 : decode cX3_workers 15 = .ok (.ldc 237, 2) := by decide +kernel
theorem dX3_workers_17 : decode cX3_workers 17 = .ok (.invokespecial 82, 3) := by decide +kernel
theorem dX3_workers_20 : decode cX3_workers 20 = .ok (.athrow, 1) := by decide +kernel
theorem dX3_workers_21 : decode cX3_workers 21 = .ok (.aload_n 0, 1) := by decide +kernel
theorem dX3_workers_22 : decode cX3_workers 22 = .ok (.getfield 50, 3) := by decide +kernel
theorem dX3_workers_25 : decode cX3_workers 25 = .ok (.istore_n 2, 1) := by decide +kernel
theorem dX3_workers_26 : decode cX3_workers 26 = .ok (.aload_n 0, 1) := by decide +kernel
theorem dX3_workers_27 : decode cX3_workers 27 = .ok (.iload_n 1, 1) := by decide +kernel
theorem dX3_workers_28 : decode cX3_workers 28 = .ok (.putfield 50, 3) := by decide +kernel
theorem dX3_workers_31 : decode cX3_workers 31 = .ok (.iload_n 2, 1) := by decide +kernel
theorem dX3_workers_32 : decode cX3_workers 32 = .ok (.ireturn, 1) := by decide +kernel
set_option maxRecDepth 20000 in
theorem ggX3_step_X3_numberIslands : GoodIn wsX3_step wsX3_numberIslands := goodIn_r _ [7, 8, 9, 10, 11, 12, 13, 14, 15, 16, 17, 18, 19, 20, 21, 22, 23, 24, 25, 26, 27, 28, 29, 30, 31, 32, 33, 34, 35, 36, 37, 38, 39, 40, 41, 226, 227, 228, 229, 230, 231, 232, 233, 234, 235, 236, 237, 238, 239, 240, 241, 242, 243, 244, 245, 246, 247, 248, 249, 250, 251, 252, 253, 254, 255, 256, 257, 258, 259, 260] (by decide +kernel) (by decide +kernel)
set_option maxRecDepth 20000 in
theorem gX3_step_X3_numberIslands : GoodIn wsX3_step (wsV RX3 241 RX3 yX3_numberIslands wsX3_numberIslands) := goodIn_app (goodIn_of _ (by decide +kernel)) ggX3_step_X3_numberIslands
set_option maxRecDepth 20000 in
theorem ggX3_step_X3_measureRows : GoodIn wsX3_step wsX3_measureRows := goodIn_r _ [45, 46, 47, 13, 14, 15, 16, 17, 18, 19, 20, 21, 22, 23, 24, 25, 26, 27, 28, 29, 30, 31, 32, 33, 34, 35, 48, 49, 50, 51, 52, 53, 54, 55, 56, 57, 58, 59, 60, 61, 62, 63, 64, 65, 66, 67, 39, 68, 69, 70, 71, 72, 73, 74, 75, 76, 77, 78, 79, 80, 81, 82, 83, 84, 85, 86, 87, 88, 89, 90, 91, 92, 93, 94, 95, 226, 227, 228, 229, 230, 231, 232, 233, 234, 235, 236, 237, 238, 239, 240, 241, 258, 259, 260, 261, 262, 263, 264, 265, 266, 267, 268, 269, 270, 271, 272, 273, 274, 275, 276, 277, 278, 242, 243, 244, 245, 246, 247, 248, 249, 250, 251, 252, 253, 254, 255, 256, 257, 279, 280, 281] (by decide +kernel) (by decide +kernel)
set_option maxRecDepth 20000 in
theorem gX3_step_X3_measureRows : GoodIn wsX3_step (wsV RX3 244 RX3 yX3_measureRows wsX3_measureRows) := goodIn_app (goodIn_of _ (by decide +kernel)) ggX3_step_X3_measureRows
set_option maxRecDepth 20000 in
theorem ggX3_step_X3_stepOnce : GoodIn wsX3_step wsX3_stepOnce := goodIn_r _ [99, 100, 101, 102, 103, 104, 105, 6, 106, 8, 107, 9, 10, 12, 108, 13, 14, 15, 16, 17, 18, 19, 20, 21, 22, 23, 24, 25, 26, 27, 28, 29, 30, 31, 32, 33, 34, 35, 109, 110, 111, 112, 113, 114, 115, 116, 117, 118, 119, 120, 121, 122, 123, 39, 124, 125, 126, 127, 128, 129, 130, 131, 132, 133, 134, 135, 46, 47, 136, 137, 138, 139, 51, 140, 53, 62, 141, 56, 142, 143, 144, 145, 146, 147, 148, 149, 150, 151, 64, 152, 153, 154, 155, 156, 157, 158, 159, 160, 161, 162, 163, 164, 165, 166, 167, 59, 168, 169, 55, 58, 170, 171, 172, 82, 173, 84, 85, 86, 174, 175, 176, 177, 178, 179, 180, 181, 182, 60, 61, 183, 184, 185, 186, 57, 54, 92, 93, 94, 95, 187, 188, 189, 190, 191, 192, 193, 194, 195, 196, 197, 198, 199, 200, 201, 202, 203, 204, 205, 206, 207, 208, 209, 210, 211, 212, 213, 214, 215, 216, 217, 218, 219, 220, 221, 79, 80, 81, 83, 226, 227, 228, 229, 230, 231, 232, 233, 234, 235, 236, 237, 238, 239, 240, 241, 242, 243, 244, 245, 246, 247, 248, 249, 250, 251, 252, 253, 254, 255, 256, 257, 258, 259, 260, 261, 262, 263, 264, 265, 266, 267, 268, 269, 270, 271, 272, 273, 274, 275, 276, 277, 278, 279, 280, 281] (by decide +kernel) (by decide +kernel)
set_option maxRecDepth 20000 in
theorem gX3_step_X3_stepOnce : GoodIn wsX3_step (wsV RX3 247 RX3 yX3_stepOnce wsX3_stepOnce) := goodIn_app (goodIn_of _ (by decide +kernel)) ggX3_step_X3_stepOnce
set_option maxRecDepth 20000 in
theorem ggX3_step_X3_markAwake : GoodIn wsX3_step wsX3_markAwake := goodIn_r _ [106, 8, 107, 9, 10, 12, 108, 13, 14, 15, 16, 17, 18, 19, 20, 21, 22, 23, 24, 25, 26, 27, 28, 29, 30, 31, 32, 33, 34, 35, 109, 110, 111, 6, 112, 226, 227, 228, 229, 230, 231, 232, 233, 234, 235, 236, 237, 238, 239, 240, 241, 242, 243, 244, 245, 246, 247, 248, 249, 250, 251, 252, 253, 254, 255, 256, 257, 258, 259, 260] (by decide +kernel) (by decide +kernel)
set_option maxRecDepth 20000 in
theorem gX3_step_X3_markAwake : GoodIn wsX3_step (wsV RX3 250 RX3 yX3_markAwake wsX3_markAwake) := goodIn_app (goodIn_of _ (by decide +kernel)) ggX3_step_X3_markAwake
set_option maxRecDepth 20000 in
theorem ggX3_step_X3_awakeIslands : GoodIn wsX3_step wsX3_awakeIslands := goodIn_r _ [225, 8, 107, 226, 227, 228, 229, 230, 231, 232, 233, 234, 235, 236, 237, 238, 239, 240, 241] (by decide +kernel) (by decide +kernel)
set_option maxRecDepth 20000 in
theorem gX3_step_X3_awakeIslands : GoodIn wsX3_step (wsV RX3 253 RX3 yX3_awakeIslands wsX3_awakeIslands) := goodIn_app (goodIn_of _ (by decide +kernel)) ggX3_step_X3_awakeIslands
theorem dX3_step_0 : decode cX3_step 0 = .ok (.iload_n 1, 1) := by decide +kernel
theorem dX3_step_1 : decode cX3_step 1 = .ok (.iconst 1, 1) := by decide +kernel
theorem dX3_step_2 : decode cX3_step 2 = .ok (.if_icmp .lt 9, 3) := by decide +kernel
theorem dX3_step_5 : decode cX3_step 5 = .ok (.iload_n 1, 1) := by decide +kernel
theorem dX3_step_6 : decode cX3_step 6 = .ok (.bipush 20, 2) := by decide +kernel
theorem dX3_step_8 : decode cX3_step 8 = .ok (.if_icmp .le 13, 3) := by decide +kernel
theorem dX3_step_11 : decode cX3_step 11 = .ok (.new 78, 3) := by decide +kernel
theorem dX3_step_14 : decode cX3_step 14 = .ok (.dup, 1) := by decide +kernel
theorem dX3_step_15 : decode cX3_step 15 = .ok (.ldc 239, 2) := by decide +kernel
theorem dX3_step_17 : decode cX3_step 17 = .ok (.invokespecial 82, 3) := by decide +kernel
theorem dX3_step_20 : decode cX3_step 20 = .ok (.athrow, 1) := by decide +kernel
theorem dX3_step_21 : decode cX3_step 21 = .ok (.aload_n 0, 1) := by decide +kernel
theorem dX3_step_22 : decode cX3_step 22 = .ok (.invokevirtual 241, 3) := by decide +kernel
theorem dX3_step_25 : decode cX3_step 25 = .ok (.aload_n 0, 1) := by decide +kernel
theorem dX3_step_26 : decode cX3_step 26 = .ok (.invokevirtual 244, 3) := by decide +kernel
theorem dX3_step_29 : decode cX3_step 29 = .ok (.iconst 0, 1) := by decide +kernel
theorem dX3_step_30 : decode cX3_step 30 = .ok (.istore_n 2, 1) := by decide +kernel
theorem dX3_step_31 : decode cX3_step 31 = .ok (.iload_n 2, 1) := by decide +kernel
theorem dX3_step_32 : decode cX3_step 32 = .ok (.iload_n 1, 1) := by decide +kernel
theorem dX3_step_33 : decode cX3_step 33 = .ok (.if_icmp .ge 13, 3) := by decide +kernel
theorem dX3_step_36 : decode cX3_step 36 = .ok (.aload_n 0, 1) := by decide +kernel
theorem dX3_step_37 : decode cX3_step 37 = .ok (.invokevirtual 247, 3) := by decide +kernel
theorem dX3_step_40 : decode cX3_step 40 = .ok (.iinc 2 1, 3) := by decide +kernel
theorem dX3_step_43 : decode cX3_step 43 = .ok (.goto (-12), 3) := by decide +kernel
theorem dX3_step_46 : decode cX3_step 46 = .ok (.aload_n 0, 1) := by decide +kernel
theorem dX3_step_47 : decode cX3_step 47 = .ok (.invokevirtual 250, 3) := by decide +kernel
theorem dX3_step_50 : decode cX3_step 50 = .ok (.aload_n 0, 1) := by decide +kernel
theorem dX3_step_51 : decode cX3_step 51 = .ok (.invokevirtual 253, 3) := by decide +kernel
theorem dX3_step_54 : decode cX3_step 54 = .ok (.ireturn, 1) := by decide +kernel
set_option maxRecDepth 20000 in
theorem ggX3_of_X3_bodyAt : GoodIn wsX3_of wsX3_bodyAt := goodIn_ca (goodIn_r _ [19, 1, 2, 20, 21, 22, 23, 24, 18, 25, 26, 27, 28, 29, 30, 31, 32, 33, 34, 35, 36, 37, 38, 39, 40, 41, 42, 43, 44, 45, 46, 47, 48, 68, 69, 70, 71, 72, 73, 74, 75, 76, 77, 78, 79, 80, 81, 82, 83, 84, 85, 86] (by decide +kernel) (by decide +kernel)) (goodIn_sub (fun _ h => List.mem_cons_of_mem _ (List.mem_append_right _ h)) (by decide +kernel))
set_option maxRecDepth 20000 in
theorem gX3_of_X3_bodyAt : GoodIn wsX3_of (wsV RX3 103 RX3 yX3_bodyAt wsX3_bodyAt) := goodIn_app (goodIn_of _ (by decide +kernel)) ggX3_of_X3_bodyAt
theorem dX3_of_0 : decode cX3_of 0 = .ok (.aload_n 0, 1) := by decide +kernel
theorem dX3_of_1 : decode cX3_of 1 = .ok (.iload_n 1, 1) := by decide +kernel
theorem dX3_of_2 : decode cX3_of 2 = .ok (.invokevirtual 103, 3) := by decide +kernel
theorem dX3_of_5 : decode cX3_of 5 = .ok (.astore_n 3, 1) := by decide +kernel
theorem dX3_of_6 : decode cX3_of 6 = .ok (.iload_n 2, 1) := by decide +kernel
theorem dX3_of_7 : decode cX3_of 7 = .ok (.tableswitch 148 0 12 #[65, 73, 81, 89, 97, 105, 113, 118, 123, 128, 133, 138, 143], 65) := by decide +kernel
theorem dX3_of_72 : decode cX3_of 72 = .ok (.aload_n 3, 1) := by decide +kernel
theorem dX3_of_73 : decode cX3_of 73 = .ok (.getfield 130, 3) := by decide +kernel
theorem dX3_of_76 : decode cX3_of 76 = .ok (.getfield 160, 3) := by decide +kernel
theorem dX3_of_79 : decode cX3_of 79 = .ok (.freturn, 1) := by decide +kernel
theorem dX3_of_80 : decode cX3_of 80 = .ok (.aload_n 3, 1) := by decide +kernel
theorem dX3_of_81 : decode cX3_of 81 = .ok (.getfield 130, 3) := by decide +kernel
theorem dX3_of_84 : decode cX3_of 84 = .ok (.getfield 163, 3) := by decide +kernel
theorem dX3_of_87 : decode cX3_of 87 = .ok (.freturn, 1) := by decide +kernel
theorem dX3_of_88 : decode cX3_of 88 = .ok (.aload_n 3, 1) := by decide +kernel
theorem dX3_of_89 : decode cX3_of 89 = .ok (.getfield 130, 3) := by decide +kernel
theorem dX3_of_92 : decode cX3_of 92 = .ok (.getfield 166, 3) := by decide +kernel
theorem dX3_of_95 : decode cX3_of 95 = .ok (.freturn, 1) := by decide +kernel
theorem dX3_of_96 : decode cX3_of 96 = .ok (.aload_n 3, 1) := by decide +kernel
theorem dX3_of_97 : decode cX3_of 97 = .ok (.getfield 137, 3) := by decide +kernel
theorem dX3_of_100 : decode cX3_of 100 = .ok (.getfield 160, 3) := by decide +kernel
theorem dX3_of_103 : decode cX3_of 103 = .ok (.freturn, 1) := by decide +kernel
theorem dX3_of_104 : decode cX3_of 104 = .ok (.aload_n 3, 1) := by decide +kernel
theorem dX3_of_105 : decode cX3_of 105 = .ok (.getfield 137, 3) := by decide +kernel
theorem dX3_of_108 : decode cX3_of 108 = .ok (.getfield 163, 3) := by decide +kernel
theorem dX3_of_111 : decode cX3_of 111 = .ok (.freturn, 1) := by decide +kernel
theorem dX3_of_112 : decode cX3_of 112 = .ok (.aload_n 3, 1) := by decide +kernel
theorem dX3_of_113 : decode cX3_of 113 = .ok (.getfield 137, 3) := by decide +kernel
theorem dX3_of_116 : decode cX3_of 116 = .ok (.getfield 166, 3) := by decide +kernel
theorem dX3_of_119 : decode cX3_of 119 = .ok (.freturn, 1) := by decide +kernel
theorem dX3_of_120 : decode cX3_of 120 = .ok (.aload_n 3, 1) := by decide +kernel
theorem dX3_of_121 : decode cX3_of 121 = .ok (.getfield 256, 3) := by decide +kernel
theorem dX3_of_124 : decode cX3_of 124 = .ok (.freturn, 1) := by decide +kernel
theorem dX3_of_125 : decode cX3_of 125 = .ok (.aload_n 3, 1) := by decide +kernel
theorem dX3_of_126 : decode cX3_of 126 = .ok (.getfield 259, 3) := by decide +kernel
theorem dX3_of_129 : decode cX3_of 129 = .ok (.freturn, 1) := by decide +kernel
theorem dX3_of_130 : decode cX3_of 130 = .ok (.aload_n 3, 1) := by decide +kernel
theorem dX3_of_131 : decode cX3_of 131 = .ok (.getfield 262, 3) := by decide +kernel
theorem dX3_of_134 : decode cX3_of 134 = .ok (.freturn, 1) := by decide +kernel
theorem dX3_of_135 : decode cX3_of 135 = .ok (.aload_n 3, 1) := by decide +kernel
theorem dX3_of_136 : decode cX3_of 136 = .ok (.getfield 265, 3) := by decide +kernel
theorem dX3_of_139 : decode cX3_of 139 = .ok (.freturn, 1) := by decide +kernel
theorem dX3_of_140 : decode cX3_of 140 = .ok (.aload_n 3, 1) := by decide +kernel
theorem dX3_of_141 : decode cX3_of 141 = .ok (.getfield 111, 3) := by decide +kernel
theorem dX3_of_144 : decode cX3_of 144 = .ok (.freturn, 1) := by decide +kernel
theorem dX3_of_145 : decode cX3_of 145 = .ok (.aload_n 3, 1) := by decide +kernel
theorem dX3_of_146 : decode cX3_of 146 = .ok (.getfield 114, 3) := by decide +kernel
theorem dX3_of_149 : decode cX3_of 149 = .ok (.freturn, 1) := by decide +kernel
theorem dX3_of_150 : decode cX3_of 150 = .ok (.aload_n 3, 1) := by decide +kernel
theorem dX3_of_151 : decode cX3_of 151 = .ok (.getfield 117, 3) := by decide +kernel
theorem dX3_of_154 : decode cX3_of 154 = .ok (.freturn, 1) := by decide +kernel
theorem dX3_of_155 : decode cX3_of 155 = .ok (.new 144, 3) := by decide +kernel
theorem dX3_of_158 : decode cX3_of 158 = .ok (.dup, 1) := by decide +kernel
theorem dX3_of_159 : decode cX3_of 159 = .ok (.ldc_w 268, 3) := by decide +kernel
theorem dX3_of_162 : decode cX3_of 162 = .ok (.invokespecial 148, 3) := by decide +kernel
theorem dX3_of_165 : decode cX3_of 165 = .ok (.athrow, 1) := by decide +kernel
set_option maxRecDepth 20000 in
theorem ggX3_about_X3_bodyAt : GoodIn wsX3_about wsX3_bodyAt := goodIn_ca (goodIn_r _ [11, 1, 2, 12, 13, 14, 15, 16, 10, 17, 18, 19, 20, 21, 22, 23, 24, 25, 26, 27, 28, 29, 30, 31, 32, 33, 34, 35, 36, 37, 38, 39, 40, 69, 70, 71, 72, 73, 74, 75, 76, 77, 78, 79, 80, 81, 82, 83, 84, 85, 86, 87] (by decide +kernel) (by decide +kernel)) (goodIn_sub (fun _ h => List.mem_cons_of_mem _ (List.mem_append_right _ h)) (by decide +kernel))
set_option maxRecDepth 20000 in
theorem gX3_about_X3_bodyAt : GoodIn wsX3_about (wsV RX3 103 RX3 yX3_bodyAt wsX3_bodyAt) := goodIn_app (goodIn_of _ (by decide +kernel)) ggX3_about_X3_bodyAt
set_option maxRecDepth 20000 in
theorem ggX3_about_X3_numberIslands : GoodIn wsX3_about wsX3_numberIslands := goodIn_r _ [44, 45, 12, 13, 46, 3, 18, 19, 20, 21, 22, 23, 24, 25, 26, 27, 28, 29, 30, 31, 32, 33, 34, 35, 36, 37, 38, 39, 40, 47, 48, 49, 50, 51, 52, 69, 70, 71, 72, 73, 74, 75, 76, 77, 78, 79, 80, 81, 82, 83, 84, 53, 54, 55, 56, 57, 58, 59, 60, 61, 62, 63, 64, 65, 66, 67, 68, 85, 86, 87] (by decide +kernel) (by decide +kernel)
set_option maxRecDepth 20000 in
theorem gX3_about_X3_numberIslands : GoodIn wsX3_about (wsV RX3 241 RX3 yX3_numberIslands wsX3_numberIslands) := goodIn_app (goodIn_of _ (by decide +kernel)) ggX3_about_X3_numberIslands
theorem dX3_about_0 : decode cX3_about 0 = .ok (.aload_n 0, 1) := by decide +kernel
theorem dX3_about_1 : decode cX3_about 1 = .ok (.iload_n 1, 1) := by decide +kernel
theorem dX3_about_2 : decode cX3_about 2 = .ok (.invokevirtual 103, 3) := by decide +kernel
theorem dX3_about_5 : decode cX3_about 5 = .ok (.astore_n 3, 1) := by decide +kernel
theorem dX3_about_6 : decode cX3_about 6 = .ok (.iload_n 2, 1) := by decide +kernel
theorem dX3_about_7 : decode cX3_about 7 = .ok (.tableswitch 61 0 3 #[29, 38, 51, 56], 29) := by decide +kernel
theorem dX3_about_36 : decode cX3_about 36 = .ok (.aload_n 0, 1) := by decide +kernel
theorem dX3_about_37 : decode cX3_about 37 = .ok (.invokevirtual 241, 3) := by decide +kernel
theorem dX3_about_40 : decode cX3_about 40 = .ok (.aload_n 3, 1) := by decide +kernel
theorem dX3_about_41 : decode cX3_about 41 = .ok (.getfield 270, 3) := by decide +kernel
theorem dX3_about_44 : decode cX3_about 44 = .ok (.ireturn, 1) := by decide +kernel
theorem dX3_about_45 : decode cX3_about 45 = .ok (.aload_n 3, 1) := by decide +kernel
theorem dX3_about_46 : decode cX3_about 46 = .ok (.getfield 169, 3) := by decide +kernel
theorem dX3_about_49 : decode cX3_about 49 = .ok (.ifCond .eq 7, 3) := by decide +kernel
theorem dX3_about_52 : decode cX3_about 52 = .ok (.iconst 1, 1) := by decide +kernel
theorem dX3_about_53 : decode cX3_about 53 = .ok (.goto 4, 3) := by decide +kernel
theorem dX3_about_56 : decode cX3_about 56 = .ok (.iconst 0, 1) := by decide +kernel
theorem dX3_about_57 : decode cX3_about 57 = .ok (.ireturn, 1) := by decide +kernel
theorem dX3_about_58 : decode cX3_about 58 = .ok (.aload_n 3, 1) := by decide +kernel
theorem dX3_about_59 : decode cX3_about 59 = .ok (.getfield 273, 3) := by decide +kernel
theorem dX3_about_62 : decode cX3_about 62 = .ok (.ireturn, 1) := by decide +kernel
theorem dX3_about_63 : decode cX3_about 63 = .ok (.aload_n 3, 1) := by decide +kernel
theorem dX3_about_64 : decode cX3_about 64 = .ok (.getfield 276, 3) := by decide +kernel
theorem dX3_about_67 : decode cX3_about 67 = .ok (.ireturn, 1) := by decide +kernel
theorem dX3_about_68 : decode cX3_about 68 = .ok (.new 144, 3) := by decide +kernel
theorem dX3_about_71 : decode cX3_about 71 = .ok (.dup, 1) := by decide +kernel
theorem dX3_about_72 : decode cX3_about 72 = .ok (.ldc_w 279, 3) := by decide +kernel
theorem dX3_about_75 : decode cX3_about 75 = .ok (.invokespecial 148, 3) := by decide +kernel
theorem dX3_about_78 : decode cX3_about 78 = .ok (.athrow, 1) := by decide +kernel
set_option maxRecDepth 20000 in
theorem ggX3_ofRow_X3_rowAt : GoodIn wsX3_ofRow wsX3_rowAt := goodIn_ca (goodIn_r _ [9, 1, 2, 10, 11, 12, 13, 14, 15, 16, 17, 18, 19, 20, 21, 22, 23, 24, 25, 26, 27, 28, 29, 30, 31, 32, 33, 34, 108, 109, 110, 111, 112, 113, 114, 115, 116, 117, 118, 119, 120, 121, 122, 123, 124, 125, 126] (by decide +kernel) (by decide +kernel)) (goodIn_sub (fun _ h => List.mem_cons_of_mem _ (List.mem_append_right _ h)) (by decide +kernel))
set_option maxRecDepth 20000 in
theorem gX3_ofRow_X3_rowAt : GoodIn wsX3_ofRow (wsV RX3 203 RX3 yX3_rowAt wsX3_rowAt) := goodIn_app (goodIn_of _ (by decide +kernel)) ggX3_ofRow_X3_rowAt
set_option maxRecDepth 20000 in
theorem ggX3_ofRow_X1_speed : GoodIn wsX3_ofRow wsX1_speed := goodIn_r _ [39, 40, 41, 42, 43, 44, 45, 46, 47, 48, 49, 50, 51, 52, 53, 54, 90, 91, 92, 93, 94, 95, 96, 97, 98, 99, 100, 101, 102, 103, 104, 105, 106, 107, 127, 128, 129, 130, 131, 132, 133, 134, 135, 136, 137, 138, 139, 140, 141, 142, 143, 144, 145] (by decide +kernel) (by decide +kernel)
set_option maxRecDepth 20000 in
theorem gX3_ofRow_X1_speed : GoodIn wsX3_ofRow (wsV RX3 284 RX1 yX1_speed wsX1_speed) := goodIn_app (goodIn_of _ (by decide +kernel)) ggX3_ofRow_X1_speed
set_option maxRecDepth 20000 in
theorem ggX3_ofRow_X1_measure : GoodIn wsX3_ofRow wsX1_measure := goodIn_r _ [58, 45, 46, 59, 40, 43, 60, 41, 61, 62, 63, 64, 65, 66, 67, 68, 69, 70, 71, 72, 73, 74, 75, 76, 77, 78, 79, 80, 81, 82, 83, 50, 84, 52, 53, 54, 85, 86, 87, 88, 89, 47, 48, 49, 51, 90, 91, 92, 93, 94, 95, 96, 97, 98, 99, 100, 101, 102, 103, 104, 105, 106, 107, 127, 128, 129, 130, 131, 132, 133, 134, 135, 136, 137, 138, 139, 140, 141, 142, 143, 144, 145] (by decide +kernel) (by decide +kernel)
set_option maxRecDepth 20000 in
theorem gX3_ofRow_X1_measure : GoodIn wsX3_ofRow (wsV RX3 288 RX1 yX1_measure wsX1_measure) := goodIn_app (goodIn_of _ (by decide +kernel)) ggX3_ofRow_X1_measure
theorem dX3_ofRow_0 : decode cX3_ofRow 0 = .ok (.aload_n 0, 1) := by decide +kernel
theorem dX3_ofRow_1 : decode cX3_ofRow 1 = .ok (.iload_n 1, 1) := by decide +kernel
theorem dX3_ofRow_2 : decode cX3_ofRow 2 = .ok (.invokevirtual 203, 3) := by decide +kernel
theorem dX3_ofRow_5 : decode cX3_ofRow 5 = .ok (.astore_n 3, 1) := by decide +kernel
theorem dX3_ofRow_6 : decode cX3_ofRow 6 = .ok (.iload_n 2, 1) := by decide +kernel
theorem dX3_ofRow_7 : decode cX3_ofRow 7 = .ok (.tableswitch 44 0 2 #[25, 30, 35], 25) := by decide +kernel
theorem dX3_ofRow_32 : decode cX3_ofRow 32 = .ok (.aload_n 3, 1) := by decide +kernel
theorem dX3_ofRow_33 : decode cX3_ofRow 33 = .ok (.getfield 281, 3) := by decide +kernel
theorem dX3_ofRow_36 : decode cX3_ofRow 36 = .ok (.freturn, 1) := by decide +kernel
theorem dX3_ofRow_37 : decode cX3_ofRow 37 = .ok (.aload_n 3, 1) := by decide +kernel
theorem dX3_ofRow_38 : decode cX3_ofRow 38 = .ok (.invokevirtual 284, 3) := by decide +kernel
theorem dX3_ofRow_41 : decode cX3_ofRow 41 = .ok (.freturn, 1) := by decide +kernel
theorem dX3_ofRow_42 : decode cX3_ofRow 42 = .ok (.aload_n 3, 1) := by decide +kernel
theorem dX3_ofRow_43 : decode cX3_ofRow 43 = .ok (.invokevirtual 288, 3) := by decide +kernel
theorem dX3_ofRow_46 : decode cX3_ofRow 46 = .ok (.aload_n 3, 1) := by decide +kernel
theorem dX3_ofRow_47 : decode cX3_ofRow 47 = .ok (.getfield 291, 3) := by decide +kernel
theorem dX3_ofRow_50 : decode cX3_ofRow 50 = .ok (.freturn, 1) := by decide +kernel
theorem dX3_ofRow_51 : decode cX3_ofRow 51 = .ok (.new 144, 3) := by decide +kernel
theorem dX3_ofRow_54 : decode cX3_ofRow 54 = .ok (.dup, 1) := by decide +kernel
theorem dX3_ofRow_55 : decode cX3_ofRow 55 = .ok (.ldc_w 294, 3) := by decide +kernel
theorem dX3_ofRow_58 : decode cX3_ofRow 58 = .ok (.invokespecial 148, 3) := by decide +kernel
theorem dX3_ofRow_61 : decode cX3_ofRow 61 = .ok (.athrow, 1) := by decide +kernel
set_option maxRecDepth 20000 in
theorem ggX3_count_Jx4a65c_size_8abf5 : GoodIn wsX3_count wsJx4a65c_size_8abf5 := goodIn_r _ [11, 12, 136, 137, 138] (by decide +kernel) (by decide +kernel)
set_option maxRecDepth 20000 in
theorem gX3_count_Jx4a65c_size_8abf5 : GoodIn wsX3_count (wsV RX3 85 RJx4a65c yJx4a65c_size_8abf5 wsJx4a65c_size_8abf5) := goodIn_app (goodIn_of _ (by decide +kernel)) ggX3_count_Jx4a65c_size_8abf5
set_option maxRecDepth 20000 in
theorem ggX3_count_X3_numberIslands : GoodIn wsX3_count wsX3_numberIslands := goodIn_r _ [17, 5, 3, 18, 19, 20, 7, 8, 9, 10, 11, 12, 21, 22, 23, 24, 25, 26, 27, 28, 29, 30, 31, 32, 33, 34, 35, 36, 37, 38, 39, 40, 41, 42, 43, 120, 121, 122, 123, 124, 125, 126, 127, 128, 129, 130, 131, 132, 133, 134, 135, 139, 140, 141, 142, 143, 144, 145, 146, 147, 148, 149, 150, 151, 152, 153, 154, 136, 137, 138] (by decide +kernel) (by decide +kernel)
set_option maxRecDepth 20000 in
theorem gX3_count_X3_numberIslands : GoodIn wsX3_count (wsV RX3 241 RX3 yX3_numberIslands wsX3_numberIslands) := goodIn_app (goodIn_of _ (by decide +kernel)) ggX3_count_X3_numberIslands
set_option maxRecDepth 20000 in
theorem ggX3_count_X3_markAwake : GoodIn wsX3_count wsX3_markAwake := goodIn_r _ [47, 5, 48, 3, 18, 20, 49, 7, 8, 9, 10, 11, 12, 21, 22, 23, 24, 25, 26, 27, 28, 29, 30, 31, 32, 33, 34, 35, 36, 37, 50, 51, 52, 16, 53, 120, 121, 122, 123, 124, 125, 126, 127, 128, 129, 130, 131, 132, 133, 134, 135, 139, 140, 141, 142, 143, 144, 145, 146, 147, 148, 149, 150, 151, 152, 153, 154, 136, 137, 138] (by decide +kernel) (by decide +kernel)
set_option maxRecDepth 20000 in
theorem gX3_count_X3_markAwake : GoodIn wsX3_count (wsV RX3 250 RX3 yX3_markAwake wsX3_markAwake) := goodIn_app (goodIn_of _ (by decide +kernel)) ggX3_count_X3_markAwake
set_option maxRecDepth 20000 in
theorem ggX3_count_X3_awakeIslands : GoodIn wsX3_count wsX3_awakeIslands := goodIn_r _ [57, 5, 48, 120, 121, 122, 123, 124, 125, 126, 127, 128, 129, 130, 131, 132, 133, 134, 135] (by decide +kernel) (by decide +kernel)
set_option maxRecDepth 20000 in
theorem gX3_count_X3_awakeIslands : GoodIn wsX3_count (wsV RX3 253 RX3 yX3_awakeIslands wsX3_awakeIslands) := goodIn_app (goodIn_of _ (by decide +kernel)) ggX3_count_X3_awakeIslands
set_option maxRecDepth 20000 in
theorem ggX3_count_X3_sleepers : GoodIn wsX3_count wsX3_sleepers := goodIn_r _ [61, 3, 18, 49, 7, 8, 9, 10, 11, 12, 21, 22, 23, 24, 25, 26, 27, 28, 29, 30, 31, 32, 33, 34, 35, 36, 37, 120, 121, 122, 123, 124, 125, 126, 127, 128, 129, 130, 131, 132, 133, 134, 135, 139, 140, 141, 142, 143, 144, 145, 146, 147, 148, 149, 150, 151, 152, 153, 154, 136, 137, 138] (by decide +kernel) (by decide +kernel)
set_option maxRecDepth 20000 in
theorem gX3_count_X3_sleepers : GoodIn wsX3_count (wsV RX3 296 RX3 yX3_sleepers wsX3_sleepers) := goodIn_app (goodIn_of _ (by decide +kernel)) ggX3_count_X3_sleepers
set_option maxRecDepth 20000 in
theorem ggX3_count_X3_deadRows : GoodIn wsX3_count wsX3_deadRows := goodIn_r _ [65, 4, 66, 67, 68, 69, 70, 16, 71, 7, 8, 9, 10, 11, 12, 21, 22, 23, 24, 25, 26, 27, 28, 29, 30, 31, 32, 33, 34, 35, 36, 37, 72, 73, 74, 75, 76, 77, 78, 79, 80, 81, 82, 83, 84, 85, 86, 87, 88, 89, 90, 91, 41, 92, 93, 94, 95, 96, 97, 98, 99, 100, 101, 102, 103, 104, 105, 106, 107, 108, 109, 110, 111, 112, 113, 114, 115, 116, 117, 118, 119, 120, 121, 122, 123, 124, 125, 126, 127, 128, 129, 130, 131, 132, 133, 134, 135, 155, 156, 157, 158, 159, 160, 161, 162, 163, 164, 165, 166, 167, 168, 169, 170, 171, 172, 136, 137, 138, 139, 140, 141, 142, 143, 144, 145, 146, 147, 148, 149, 150, 151, 152, 153, 154, 173, 174, 175] (by decide +kernel) (by decide +kernel)
set_option maxRecDepth 20000 in
theorem gX3_count_X3_deadRows : GoodIn wsX3_count (wsV RX3 299 RX3 yX3_deadRows wsX3_deadRows) := goodIn_app (goodIn_of _ (by decide +kernel)) ggX3_count_X3_deadRows
theorem dX3_count_0 : decode cX3_count 0 = .ok (.iload_n 1, 1) := by decide +kernel
theorem dX3_count_1 : decode cX3_count 1 = .ok (.tableswitch 101 0 6 #[43, 51, 59, 68, 86, 91, 96], 43) := by decide +kernel
theorem dX3_count_44 : decode cX3_count 44 = .ok (.aload_n 0, 1) := by decide +kernel
theorem dX3_count_45 : decode cX3_count 45 = .ok (.getfield 10, 3) := by decide +kernel
theorem dX3_count_48 : decode cX3_count 48 = .ok (.invokevirtual 85, 3) := by decide +kernel
theorem dX3_count_51 : decode cX3_count 51 = .ok (.ireturn, 1) := by decide +kernel
theorem dX3_count_52 : decode cX3_count 52 = .ok (.aload_n 0, 1) := by decide +kernel
theorem dX3_count_53 : decode cX3_count 53 = .ok (.getfield 16, 3) := by decide +kernel
theorem dX3_count_56 : decode cX3_count 56 = .ok (.invokevirtual 85, 3) := by decide +kernel
theorem dX3_count_59 : decode cX3_count 59 = .ok (.ireturn, 1) := by decide +kernel
theorem dX3_count_60 : decode cX3_count 60 = .ok (.aload_n 0, 1) := by decide +kernel
theorem dX3_count_61 : decode cX3_count 61 = .ok (.invokevirtual 241, 3) := by decide +kernel
theorem dX3_count_64 : decode cX3_count 64 = .ok (.aload_n 0, 1) := by decide +kernel
theorem dX3_count_65 : decode cX3_count 65 = .ok (.getfield 56, 3) := by decide +kernel
theorem dX3_count_68 : decode cX3_count 68 = .ok (.ireturn, 1) := by decide +kernel
theorem dX3_count_69 : decode cX3_count 69 = .ok (.aload_n 0, 1) := by decide +kernel
theorem dX3_count_70 : decode cX3_count 70 = .ok (.invokevirtual 241, 3) := by decide +kernel
theorem dX3_count_73 : decode cX3_count 73 = .ok (.aload_n 0, 1) := by decide +kernel
theorem dX3_count_74 : decode cX3_count 74 = .ok (.invokevirtual 250, 3) := by decide +kernel
theorem dX3_count_77 : decode cX3_count 77 = .ok (.aload_n 0, 1) := by decide +kernel
theorem dX3_count_78 : decode cX3_count 78 = .ok (.getfield 56, 3) := by decide +kernel
theorem dX3_count_81 : decode cX3_count 81 = .ok (.aload_n 0, 1) := by decide +kernel
theorem dX3_count_82 : decode cX3_count 82 = .ok (.invokevirtual 253, 3) := by decide +kernel
theorem dX3_count_85 : decode cX3_count 85 = .ok (.isub, 1) := by decide +kernel
theorem dX3_count_86 : decode cX3_count 86 = .ok (.ireturn, 1) := by decide +kernel
theorem dX3_count_87 : decode cX3_count 87 = .ok (.aload_n 0, 1) := by decide +kernel
theorem dX3_count_88 : decode cX3_count 88 = .ok (.invokevirtual 296, 3) := by decide +kernel
theorem dX3_count_91 : decode cX3_count 91 = .ok (.ireturn, 1) := by decide +kernel
theorem dX3_count_92 : decode cX3_count 92 = .ok (.aload_n 0, 1) := by decide +kernel
theorem dX3_count_93 : decode cX3_count 93 = .ok (.getfield 53, 3) := by decide +kernel
theorem dX3_count_96 : decode cX3_count 96 = .ok (.ireturn, 1) := by decide +kernel
theorem dX3_count_97 : decode cX3_count 97 = .ok (.aload_n 0, 1) := by decide +kernel
theorem dX3_count_98 : decode cX3_count 98 = .ok (.invokevirtual 299, 3) := by decide +kernel
theorem dX3_count_101 : decode cX3_count 101 = .ok (.ireturn, 1) := by decide +kernel
theorem dX3_count_102 : decode cX3_count 102 = .ok (.new 144, 3) := by decide +kernel
theorem dX3_count_105 : decode cX3_count 105 = .ok (.dup, 1) := by decide +kernel
theorem dX3_count_106 : decode cX3_count 106 = .ok (.ldc_w 302, 3) := by decide +kernel
theorem dX3_count_109 : decode cX3_count 109 = .ok (.invokespecial 148, 3) := by decide +kernel
theorem dX3_count_112 : decode cX3_count 112 = .ok (.athrow, 1) := by decide +kernel
set_option maxRecDepth 20000 in
theorem ggX3_motion_Jx4a65c_size_8abf5 : GoodIn wsX3_motion wsJx4a65c_size_8abf5 := goodIn_r _ [8, 9, 74, 75, 76] (by decide +kernel) (by decide +kernel)
set_option maxRecDepth 20000 in
theorem gX3_motion_Jx4a65c_size_8abf5 : GoodIn wsX3_motion (wsV RX3 85 RJx4a65c yJx4a65c_size_8abf5 wsJx4a65c_size_8abf5) := goodIn_app (goodIn_of _ (by decide +kernel)) ggX3_motion_Jx4a65c_size_8abf5
set_option maxRecDepth 20000 in
theorem ggX3_motion_Jx4a65c_get_915e3 : GoodIn wsX3_motion wsJx4a65c_get_915e3 := goodIn_r _ [13, 9, 14, 15, 16, 17, 18, 19, 20, 21, 22, 23, 24, 7, 25, 26, 74, 75, 76] (by decide +kernel) (by decide +kernel)
set_option maxRecDepth 20000 in
theorem gX3_motion_Jx4a65c_get_915e3 : GoodIn wsX3_motion (wsV RX3 152 RJx4a65c yJx4a65c_get_915e3 wsJx4a65c_get_915e3) := goodIn_app (goodIn_of _ (by decide +kernel)) ggX3_motion_Jx4a65c_get_915e3
set_option maxRecDepth 20000 in
theorem ggX3_motion_X0_energy : GoodIn wsX3_motion wsX0_energy := goodIn_r _ [31, 32, 33, 34, 35, 36, 37, 38, 39, 40, 41, 58, 59, 60, 61, 62, 63, 64, 65, 66, 67, 68, 69, 70, 71, 72, 73, 77, 78, 79] (by decide +kernel) (by decide +kernel)
set_option maxRecDepth 20000 in
theorem gX3_motion_X0_energy : GoodIn wsX3_motion (wsV RX3 304 RX0 yX0_energy wsX0_energy) := goodIn_app (goodIn_of _ (by decide +kernel)) ggX3_motion_X0_energy
theorem dX3_motion_0 : decode cX3_motion 0 = .ok (.fconst 0, 1) := by decide +kernel
theorem dX3_motion_1 : decode cX3_motion 1 = .ok (.fstore_n 1, 1) := by decide +kernel
theorem dX3_motion_2 : decode cX3_motion 2 = .ok (.iconst 0, 1) := by decide +kernel
theorem dX3_motion_3 : decode cX3_motion 3 = .ok (.istore_n 2, 1) := by decide +kernel
theorem dX3_motion_4 : decode cX3_motion 4 = .ok (.iload_n 2, 1) := by decide +kernel
theorem dX3_motion_5 : decode cX3_motion 5 = .ok (.aload_n 0, 1) := by decide +kernel
theorem dX3_motion_6 : decode cX3_motion 6 = .ok (.getfield 10, 3) := by decide +kernel
theorem dX3_motion_9 : decode cX3_motion 9 = .ok (.invokevirtual 85, 3) := by decide +kernel
theorem dX3_motion_12 : decode cX3_motion 12 = .ok (.if_icmp .ge 35, 3) := by decide +kernel
theorem dX3_motion_15 : decode cX3_motion 15 = .ok (.aload_n 0, 1) := by decide +kernel
theorem dX3_motion_16 : decode cX3_motion 16 = .ok (.getfield 10, 3) := by decide +kernel
theorem dX3_motion_19 : decode cX3_motion 19 = .ok (.iload_n 2, 1) := by decide +kernel
theorem dX3_motion_20 : decode cX3_motion 20 = .ok (.invokevirtual 152, 3) := by decide +kernel
theorem dX3_motion_23 : decode cX3_motion 23 = .ok (.checkcast 94, 3) := by decide +kernel
theorem dX3_motion_26 : decode cX3_motion 26 = .ok (.astore_n 3, 1) := by decide +kernel
theorem dX3_motion_27 : decode cX3_motion 27 = .ok (.aload_n 3, 1) := by decide +kernel
theorem dX3_motion_28 : decode cX3_motion 28 = .ok (.getfield 156, 3) := by decide +kernel
theorem dX3_motion_31 : decode cX3_motion 31 = .ok (.ifCond .eq 10, 3) := by decide +kernel
theorem dX3_motion_34 : decode cX3_motion 34 = .ok (.fload_n 1, 1) := by decide +kernel
theorem dX3_motion_35 : decode cX3_motion 35 = .ok (.aload_n 3, 1) := by decide +kernel
theorem dX3_motion_36 : decode cX3_motion 36 = .ok (.invokevirtual 304, 3) := by decide +kernel
theorem dX3_motion_39 : decode cX3_motion 39 = .ok (.fadd, 1) := by decide +kernel
theorem dX3_motion_40 : decode cX3_motion 40 = .ok (.fstore_n 1, 1) := by decide +kernel
theorem dX3_motion_41 : decode cX3_motion 41 = .ok (.iinc 2 1, 3) := by decide +kernel
theorem dX3_motion_44 : decode cX3_motion 44 = .ok (.goto (-40), 3) := by decide +kernel
theorem dX3_motion_47 : decode cX3_motion 47 = .ok (.fload_n 1, 1) := by decide +kernel
theorem dX3_motion_48 : decode cX3_motion 48 = .ok (.freturn, 1) := by decide +kernel
theorem dX3_outside_0 : decode cX3_outside 0 = .ok (.fload_n 0, 1) := by decide +kernel
theorem dX3_outside_1 : decode cX3_outside 1 = .ok (.fload_n 1, 1) := by decide +kernel
theorem dX3_outside_2 : decode cX3_outside 2 = .ok (.fcmp .l, 1) := by decide +kernel
theorem dX3_outside_3 : decode cX3_outside 3 = .ok (.ifCond .lt 9, 3) := by decide +kernel
theorem dX3_outside_6 : decode cX3_outside 6 = .ok (.fload_n 0, 1) := by decide +kernel
theorem dX3_outside_7 : decode cX3_outside 7 = .ok (.fload_n 2, 1) := by decide +kernel
theorem dX3_outside_8 : decode cX3_outside 8 = .ok (.fcmp .g, 1) := by decide +kernel
theorem dX3_outside_9 : decode cX3_outside 9 = .ok (.ifCond .le 7, 3) := by decide +kernel
theorem dX3_outside_12 : decode cX3_outside 12 = .ok (.iconst 1, 1) := by decide +kernel
theorem dX3_outside_13 : decode cX3_outside 13 = .ok (.goto 4, 3) := by decide +kernel
theorem dX3_outside_16 : decode cX3_outside 16 = .ok (.iconst 0, 1) := by decide +kernel
theorem dX3_outside_17 : decode cX3_outside 17 = .ok (.ireturn, 1) := by decide +kernel
set_option maxRecDepth 20000 in
theorem ggX3_anyOutside_X3_outside : GoodIn wsX3_anyOutside wsX3_outside := goodIn_r _ [4] (by decide +kernel) (by decide +kernel)
set_option maxRecDepth 20000 in
theorem gX3_anyOutside_X3_outside : GoodIn wsX3_anyOutside (va_wsS RX3 74 yX3_outside wsX3_outside) := goodIn_app (goodIn_of _ (by decide +kernel)) ggX3_anyOutside_X3_outside
theorem dX3_anyOutside_0 : decode cX3_anyOutside 0 = .ok (.fload_n 0, 1) := by decide +kernel
theorem dX3_anyOutside_1 : decode cX3_anyOutside 1 = .ok (.fload_n 3, 1) := by decide +kernel
theorem dX3_anyOutside_2 : decode cX3_anyOutside 2 = .ok (.fneg, 1) := by decide +kernel
theorem dX3_anyOutside_3 : decode cX3_anyOutside 3 = .ok (.fload_n 3, 1) := by decide +kernel
theorem dX3_anyOutside_4 : decode cX3_anyOutside 4 = .ok (.invokestatic 74, 3) := by decide +kernel
theorem dX3_anyOutside_7 : decode cX3_anyOutside 7 = .ok (.ifCond .ne 23, 3) := by decide +kernel
theorem dX3_anyOutside_10 : decode cX3_anyOutside 10 = .ok (.fload_n 1, 1) := by decide +kernel
theorem dX3_anyOutside_11 : decode cX3_anyOutside 11 = .ok (.fload_n 3, 1) := by decide +kernel
theorem dX3_anyOutside_12 : decode cX3_anyOutside 12 = .ok (.fneg, 1) := by decide +kernel
theorem dX3_anyOutside_13 : decode cX3_anyOutside 13 = .ok (.fload_n 3, 1) := by decide +kernel
theorem dX3_anyOutside_14 : decode cX3_anyOutside 14 = .ok (.invokestatic 74, 3) := by decide +kernel
theorem dX3_anyOutside_17 : decode cX3_anyOutside 17 = .ok (.ifCond .ne 13, 3) := by decide +kernel
theorem dX3_anyOutside_20 : decode cX3_anyOutside 20 = .ok (.fload_n 2, 1) := by decide +kernel
theorem dX3_anyOutside_21 : decode cX3_anyOutside 21 = .ok (.fload_n 3, 1) := by decide +kernel
theorem dX3_anyOutside_22 : decode cX3_anyOutside 22 = .ok (.fneg, 1) := by decide +kernel
theorem dX3_anyOutside_23 : decode cX3_anyOutside 23 = .ok (.fload_n 3, 1) := by decide +kernel
theorem dX3_anyOutside_24 : decode cX3_anyOutside 24 = .ok (.invokestatic 74, 3) := by decide +kernel
theorem dX3_anyOutside_27 : decode cX3_anyOutside 27 = .ok (.ifCond .eq 7, 3) := by decide +kernel
theorem dX3_anyOutside_30 : decode cX3_anyOutside 30 = .ok (.iconst 1, 1) := by decide +kernel
theorem dX3_anyOutside_31 : decode cX3_anyOutside 31 = .ok (.goto 4, 3) := by decide +kernel
theorem dX3_anyOutside_34 : decode cX3_anyOutside 34 = .ok (.iconst 0, 1) := by decide +kernel
theorem dX3_anyOutside_35 : decode cX3_anyOutside 35 = .ok (.ireturn, 1) := by decide +kernel
theorem dX3_hold_0 : decode cX3_hold 0 = .ok (.fload_n 0, 1) := by decide +kernel
theorem dX3_hold_1 : decode cX3_hold 1 = .ok (.fload_n 1, 1) := by decide +kernel
theorem dX3_hold_2 : decode cX3_hold 2 = .ok (.fcmp .g, 1) := by decide +kernel
theorem dX3_hold_3 : decode cX3_hold 3 = .ok (.ifCond .ge 7, 3) := by decide +kernel
theorem dX3_hold_6 : decode cX3_hold 6 = .ok (.fload_n 1, 1) := by decide +kernel
theorem dX3_hold_7 : decode cX3_hold 7 = .ok (.goto 14, 3) := by decide +kernel
theorem dX3_hold_10 : decode cX3_hold 10 = .ok (.fload_n 0, 1) := by decide +kernel
theorem dX3_hold_11 : decode cX3_hold 11 = .ok (.fload_n 2, 1) := by decide +kernel
theorem dX3_hold_12 : decode cX3_hold 12 = .ok (.fcmp .l, 1) := by decide +kernel
theorem dX3_hold_13 : decode cX3_hold 13 = .ok (.ifCond .le 7, 3) := by decide +kernel
theorem dX3_hold_16 : decode cX3_hold 16 = .ok (.fload_n 2, 1) := by decide +kernel
theorem dX3_hold_17 : decode cX3_hold 17 = .ok (.goto 4, 3) := by decide +kernel
theorem dX3_hold_20 : decode cX3_hold 20 = .ok (.fload_n 0, 1) := by decide +kernel
theorem dX3_hold_21 : decode cX3_hold 21 = .ok (.freturn, 1) := by decide +kernel
set_option maxRecDepth 20000 in
theorem ggX3_isBody_Jx4a65c_size_8abf5 : GoodIn wsX3_isBody wsJx4a65c_size_8abf5 := goodIn_r _ [6, 7, 24, 25, 26] (by decide +kernel) (by decide +kernel)
set_option maxRecDepth 20000 in
theorem gX3_isBody_Jx4a65c_size_8abf5 : GoodIn wsX3_isBody (wsV RX3 85 RJx4a65c yJx4a65c_size_8abf5 wsJx4a65c_size_8abf5) := goodIn_app (goodIn_of _ (by decide +kernel)) ggX3_isBody_Jx4a65c_size_8abf5
theorem dX3_isBody_0 : decode cX3_isBody 0 = .ok (.iload_n 1, 1) := by decide +kernel
theorem dX3_isBody_1 : decode cX3_isBody 1 = .ok (.ifCond .lt 18, 3) := by decide +kernel
theorem dX3_isBody_4 : decode cX3_isBody 4 = .ok (.iload_n 1, 1) := by decide +kernel
theorem dX3_isBody_5 : decode cX3_isBody 5 = .ok (.aload_n 0, 1) := by decide +kernel
theorem dX3_isBody_6 : decode cX3_isBody 6 = .ok (.getfield 10, 3) := by decide +kernel
theorem dX3_isBody_9 : decode cX3_isBody 9 = .ok (.invokevirtual 85, 3) := by decide +kernel
theorem dX3_isBody_12 : decode cX3_isBody 12 = .ok (.if_icmp .ge 7, 3) := by decide +kernel
theorem dX3_isBody_15 : decode cX3_isBody 15 = .ok (.iconst 1, 1) := by decide +kernel
theorem dX3_isBody_16 : decode cX3_isBody 16 = .ok (.goto 4, 3) := by decide +kernel
theorem dX3_isBody_19 : decode cX3_isBody 19 = .ok (.iconst 0, 1) := by decide +kernel
theorem dX3_isBody_20 : decode cX3_isBody 20 = .ok (.ireturn, 1) := by decide +kernel
set_option maxRecDepth 20000 in
theorem ggX3_bodyAt_X3_isBody : GoodIn wsX3_bodyAt wsX3_isBody := goodIn_r _ [9, 3, 10, 11, 12, 13, 14, 15, 33, 34, 35, 36, 37, 38, 39, 40, 41, 42, 43, 44, 45, 46, 47, 48, 49, 50, 51] (by decide +kernel) (by decide +kernel)
set_option maxRecDepth 20000 in
theorem gX3_bodyAt_X3_isBody : GoodIn wsX3_bodyAt (wsV RX3 140 RX3 yX3_isBody wsX3_isBody) := goodIn_app (goodIn_of _ (by decide +kernel)) ggX3_bodyAt_X3_isBody
set_option maxRecDepth 20000 in
theorem ggX3_bodyAt_Jx4a65c_get_915e3 : GoodIn wsX3_bodyAt wsJx4a65c_get_915e3 := goodIn_r _ [19, 15, 20, 21, 22, 23, 24, 25, 26, 27, 28, 29, 30, 13, 31, 32, 49, 50, 51] (by decide +kernel) (by decide +kernel)
set_option maxRecDepth 20000 in
theorem gX3_bodyAt_Jx4a65c_get_915e3 : GoodIn wsX3_bodyAt (wsV RX3 152 RJx4a65c yJx4a65c_get_915e3 wsJx4a65c_get_915e3) := goodIn_app (goodIn_of _ (by decide +kernel)) ggX3_bodyAt_Jx4a65c_get_915e3
theorem dX3_bodyAt_0 : decode cX3_bodyAt 0 = .ok (.aload_n 0, 1) := by decide +kernel
theorem dX3_bodyAt_1 : decode cX3_bodyAt 1 = .ok (.iload_n 1, 1) := by decide +kernel
theorem dX3_bodyAt_2 : decode cX3_bodyAt 2 = .ok (.invokevirtual 140, 3) := by decide +kernel
theorem dX3_bodyAt_5 : decode cX3_bodyAt 5 = .ok (.ifCond .ne 14, 3) := by decide +kernel
theorem dX3_bodyAt_8 : decode cX3_bodyAt 8 = .ok (.new 144, 3) := by decide +kernel
theorem dX3_bodyAt_11 : decode cX3_bodyAt 11 = .ok (.dup, 1) := by decide +kernel
theorem dX3_bodyAt_12 : decode cX3_bodyAt 12 = .ok (.ldc_w 307, 3) := by decide +kernel
theorem dX3_bodyAt_15 : decode cX3_bodyAt 15 = .ok (.invokespecial 148, 3) := by decide +kernel
theorem dX3_bodyAt_18 : decode cX3_bodyAt 18 = .ok (.athrow, 1) := by decide +kernel
theorem dX3_bodyAt_19 : decode cX3_bodyAt 19 = .ok (.aload_n 0, 1) := by decide +kernel
theorem dX3_bodyAt_20 : decode cX3_bodyAt 20 = .ok (.getfield 10, 3) := by decide +kernel
theorem dX3_bodyAt_23 : decode cX3_bodyAt 23 = .ok (.iload_n 1, 1) := by decide +kernel
theorem dX3_bodyAt_24 : decode cX3_bodyAt 24 = .ok (.invokevirtual 152, 3) := by decide +kernel
theorem dX3_bodyAt_27 : decode cX3_bodyAt 27 = .ok (.checkcast 94, 3) := by decide +kernel
theorem dX3_bodyAt_30 : decode cX3_bodyAt 30 = .ok (.areturn, 1) := by decide +kernel
set_option maxRecDepth 20000 in
theorem ggX3_otherBody_X3_bodyAt : GoodIn wsX3_otherBody wsX3_bodyAt := goodIn_ca (goodIn_r _ [5, 6, 7, 8, 9, 10, 11, 12, 4, 13, 14, 15, 16, 17, 18, 19, 20, 21, 22, 23, 24, 25, 26, 27, 28, 29, 30, 31, 32, 33, 34, 35, 36, 37, 38, 39, 40, 41, 42, 43, 44, 45, 46, 47, 48, 49, 50, 51, 52, 53, 54, 55] (by decide +kernel) (by decide +kernel)) (goodIn_sub (fun _ h => List.mem_cons_of_mem _ (List.mem_append_right _ h)) (by decide +kernel))
set_option maxRecDepth 20000 in
theorem gX3_otherBody_X3_bodyAt : GoodIn wsX3_otherBody (wsV RX3 103 RX3 yX3_bodyAt wsX3_bodyAt) := goodIn_app (goodIn_of _ (by decide +kernel)) ggX3_otherBody_X3_bodyAt
theorem dX3_otherBody_0 : decode cX3_otherBody 0 = .ok (.iload_n 1, 1) := by decide +kernel
theorem dX3_otherBody_1 : decode cX3_otherBody 1 = .ok (.iconst (-1), 1) := by decide +kernel
theorem dX3_otherBody_2 : decode cX3_otherBody 2 = .ok (.if_icmp .ne 7, 3) := by decide +kernel
theorem dX3_otherBody_5 : decode cX3_otherBody 5 = .ok (.aconst_null, 1) := by decide +kernel
theorem dX3_otherBody_6 : decode cX3_otherBody 6 = .ok (.goto 8, 3) := by decide +kernel
theorem dX3_otherBody_9 : decode cX3_otherBody 9 = .ok (.aload_n 0, 1) := by decide +kernel
theorem dX3_otherBody_10 : decode cX3_otherBody 10 = .ok (.iload_n 1, 1) := by decide +kernel
theorem dX3_otherBody_11 : decode cX3_otherBody 11 = .ok (.invokevirtual 103, 3) := by decide +kernel
theorem dX3_otherBody_14 : decode cX3_otherBody 14 = .ok (.areturn, 1) := by decide +kernel
set_option maxRecDepth 20000 in
theorem ggX3_rowAt_Jx4a65c_size_8abf5 : GoodIn wsX3_rowAt wsJx4a65c_size_8abf5 := goodIn_r _ [9, 10, 44, 45, 46] (by decide +kernel) (by decide +kernel)
set_option maxRecDepth 20000 in
theorem gX3_rowAt_Jx4a65c_size_8abf5 : GoodIn wsX3_rowAt (wsV RX3 85 RJx4a65c yJx4a65c_size_8abf5 wsJx4a65c_size_8abf5) := goodIn_app (goodIn_of _ (by decide +kernel)) ggX3_rowAt_Jx4a65c_size_8abf5
set_option maxRecDepth 20000 in
theorem ggX3_rowAt_Jx4a65c_get_915e3 : GoodIn wsX3_rowAt wsJx4a65c_get_915e3 := goodIn_r _ [14, 10, 15, 16, 17, 18, 19, 20, 21, 22, 23, 24, 25, 8, 26, 27, 44, 45, 46] (by decide +kernel) (by decide +kernel)
set_option maxRecDepth 20000 in
theorem gX3_rowAt_Jx4a65c_get_915e3 : GoodIn wsX3_rowAt (wsV RX3 152 RJx4a65c yJx4a65c_get_915e3 wsJx4a65c_get_915e3) := goodIn_app (goodIn_of _ (by decide +kernel)) ggX3_rowAt_Jx4a65c_get_915e3
theorem dX3_rowAt_0 : decode cX3_rowAt 0 = .ok (.iload_n 1, 1) := by decide +kernel
theorem dX3_rowAt_1 : decode cX3_rowAt 1 = .ok (.ifCond .lt 14, 3) := by decide +kernel
theorem dX3_rowAt_4 : decode cX3_rowAt 4 = .ok (.iload_n 1, 1) := by decide +kernel
theorem dX3_rowAt_5 : decode cX3_rowAt 5 = .ok (.aload_n 0, 1) := by decide +kernel
theorem dX3_rowAt_6 : decode cX3_rowAt 6 = .ok (.getfield 16, 3) := by decide +kernel
theorem dX3_rowAt_9 : decode cX3_rowAt 9 = .ok (.invokevirtual 85, 3) := by decide +kernel
theorem dX3_rowAt_12 : decode cX3_rowAt 12 = .ok (.if_icmp .lt 14, 3) := by decide +kernel
theorem dX3_rowAt_15 : decode cX3_rowAt 15 = .ok (.new 144, 3) := by decide +kernel
theorem dX3_rowAt_18 : decode cX3_rowAt 18 = .ok (.dup, 1) := by decide +kernel
theorem dX3_rowAt_19 : decode cX3_rowAt 19 = .ok (.ldc_w 309, 3) := by decide +kernel
theorem dX3_rowAt_22 : decode cX3_rowAt 22 = .ok (.invokespecial 148, 3) := by decide +kernel
theorem dX3_rowAt_25 : decode cX3_rowAt 25 = .ok (.athrow, 1) := by decide +kernel
theorem dX3_rowAt_26 : decode cX3_rowAt 26 = .ok (.aload_n 0, 1) := by decide +kernel
theorem dX3_rowAt_27 : decode cX3_rowAt 27 = .ok (.getfield 16, 3) := by decide +kernel
theorem dX3_rowAt_30 : decode cX3_rowAt 30 = .ok (.iload_n 1, 1) := by decide +kernel
theorem dX3_rowAt_31 : decode cX3_rowAt 31 = .ok (.invokevirtual 152, 3) := by decide +kernel
theorem dX3_rowAt_34 : decode cX3_rowAt 34 = .ok (.checkcast 67, 3) := by decide +kernel
theorem dX3_rowAt_37 : decode cX3_rowAt 37 = .ok (.areturn, 1) := by decide +kernel
set_option maxRecDepth 20000 in
theorem ggX3_checkPair_X3_isBody : GoodIn wsX3_checkPair wsX3_isBody := goodIn_r _ [7, 8, 9, 10, 11, 12, 13, 14, 15, 16, 17, 18, 19, 20, 21, 22, 23, 24, 25, 26, 27, 28, 29, 30, 31, 32, 33] (by decide +kernel) (by decide +kernel)
set_option maxRecDepth 20000 in
theorem gX3_checkPair_X3_isBody : GoodIn wsX3_checkPair (wsV RX3 140 RX3 yX3_isBody wsX3_isBody) := goodIn_app (goodIn_of _ (by decide +kernel)) ggX3_checkPair_X3_isBody
theorem dX3_checkPair_0 : decode cX3_checkPair 0 = .ok (.aload_n 0, 1) := by decide +kernel
theorem dX3_checkPair_1 : decode cX3_checkPair 1 = .ok (.iload_n 1, 1) := by decide +kernel
theorem dX3_checkPair_2 : decode cX3_checkPair 2 = .ok (.invokevirtual 140, 3) := by decide +kernel
theorem dX3_checkPair_5 : decode cX3_checkPair 5 = .ok (.ifCond .eq 21, 3) := by decide +kernel
theorem dX3_checkPair_8 : decode cX3_checkPair 8 = .ok (.iload_n 2, 1) := by decide +kernel
theorem dX3_checkPair_9 : decode cX3_checkPair 9 = .ok (.iconst (-1), 1) := by decide +kernel
theorem dX3_checkPair_10 : decode cX3_checkPair 10 = .ok (.if_icmp .eq 11, 3) := by decide +kernel
theorem dX3_checkPair_13 : decode cX3_checkPair 13 = .ok (.aload_n 0, 1) := by decide +kernel
theorem dX3_checkPair_14 : decode cX3_checkPair 14 = .ok (.iload_n 2, 1) := by decide +kernel
theorem dX3_checkPair_15 : decode cX3_checkPair 15 = .ok (.invokevirtual 140, 3) := by decide +kernel
theorem dX3_checkPair_18 : decode cX3_checkPair 18 = .ok (.ifCond .eq 8, 3) := by decide +kernel
theorem dX3_checkPair_21 : decode cX3_checkPair 21 = .ok (.iload_n 1, 1) := by decide +kernel
theorem dX3_checkPair_22 : decode cX3_checkPair 22 = .ok (.iload_n 2, 1) := by decide +kernel
theorem dX3_checkPair_23 : decode cX3_checkPair 23 = .ok (.if_icmp .ne 14, 3) := by decide +kernel
theorem dX3_checkPair_26 : decode cX3_checkPair 26 = .ok (.new 144, 3) := by decide +kernel
theorem dX3_checkPair_29 : decode cX3_checkPair 29 = .ok (.dup, 1) := by decide +kernel
theorem dX3_checkPair_30 : decode cX3_checkPair 30 = .ok (.ldc_w 311, 3) := by decide +kernel
theorem dX3_checkPair_33 : decode cX3_checkPair 33 = .ok (.invokespecial 148, 3) := by decide +kernel
theorem dX3_checkPair_36 : decode cX3_checkPair 36 = .ok (.athrow, 1) := by decide +kernel
theorem dX3_checkPair_37 : decode cX3_checkPair 37 = .ok (.return_, 1) := by decide +kernel
set_option maxRecDepth 20000 in
theorem ggX3_checkRoomForRow_Jx4a65c_size_8abf5 : GoodIn wsX3_checkRoomForRow wsJx4a65c_size_8abf5 := goodIn_r _ [8, 9, 26, 27, 28] (by decide +kernel) (by decide +kernel)
set_option maxRecDepth 20000 in
theorem gX3_checkRoomForRow_Jx4a65c_size_8abf5 : GoodIn wsX3_checkRoomForRow (wsV RX3 85 RJx4a65c yJx4a65c_size_8abf5 wsJx4a65c_size_8abf5) := goodIn_app (goodIn_of _ (by decide +kernel)) ggX3_checkRoomForRow_Jx4a65c_size_8abf5
theorem dX3_checkRoomForRow_0 : decode cX3_checkRoomForRow 0 = .ok (.aload_n 0, 1) := by decide +kernel
theorem dX3_checkRoomForRow_1 : decode cX3_checkRoomForRow 1 = .ok (.getfield 16, 3) := by decide +kernel
theorem dX3_checkRoomForRow_4 : decode cX3_checkRoomForRow 4 = .ok (.invokevirtual 85, 3) := by decide +kernel
theorem dX3_checkRoomForRow_7 : decode cX3_checkRoomForRow 7 = .ok (.sipush 1024, 3) := by decide +kernel
theorem dX3_checkRoomForRow_10 : decode cX3_checkRoomForRow 10 = .ok (.if_icmp .lt 14, 3) := by decide +kernel
theorem dX3_checkRoomForRow_13 : decode cX3_checkRoomForRow 13 = .ok (.new 89, 3) := by decide +kernel
theorem dX3_checkRoomForRow_16 : decode cX3_checkRoomForRow 16 = .ok (.dup, 1) := by decide +kernel
theorem dX3_checkRoomForRow_17 : decode cX3_checkRoomForRow 17 = .ok (.ldc_w 313, 3) := by decide +kernel
theorem dX3_checkRoomForRow_20 : decode cX3_checkRoomForRow 20 = .ok (.invokespecial 93, 3) := by decide +kernel
theorem dX3_checkRoomForRow_23 : decode cX3_checkRoomForRow 23 = .ok (.athrow, 1) := by decide +kernel
theorem dX3_checkRoomForRow_24 : decode cX3_checkRoomForRow 24 = .ok (.return_, 1) := by decide +kernel
set_option maxRecDepth 20000 in
theorem ggX3_newRow_X3_bodyAt : GoodIn wsX3_newRow wsX3_bodyAt := goodIn_ca (goodIn_r _ [13, 14, 15, 16, 17, 18, 19, 20, 12, 21, 22, 23, 24, 25, 26, 27, 28, 29, 30, 31, 32, 33, 34, 35, 36, 37, 38, 39, 40, 41, 42, 43, 44, 96, 97, 98, 99, 100, 101, 102, 103, 104, 105, 106, 107, 108, 109, 110, 111, 112, 113, 114] (by decide +kernel) (by decide +kernel)) (goodIn_sub (fun _ h => List.mem_cons_of_mem _ (List.mem_append_right _ h)) (by decide +kernel))
set_option maxRecDepth 20000 in
theorem gX3_newRow_X3_bodyAt : GoodIn wsX3_newRow (wsV RX3 103 RX3 yX3_bodyAt wsX3_bodyAt) := goodIn_app (goodIn_of _ (by decide +kernel)) ggX3_newRow_X3_bodyAt
set_option maxRecDepth 20000 in
theorem ggX3_newRow_X3_otherBody : GoodIn wsX3_newRow wsX3_otherBody := goodIn_ca (goodIn_r _ [48, 9, 10, 11, 12, 13, 14, 15, 16, 17, 18, 19, 20, 21, 22, 23, 24, 25, 26, 27, 28, 29, 30, 31, 32, 33, 34, 35, 36, 37, 38, 39, 40, 41, 42, 43, 44, 96, 97, 98, 99, 100, 101, 102, 103, 104, 105, 106, 107, 108, 109, 110, 111, 112, 113, 114] (by decide +kernel) (by decide +kernel)) (goodIn_sub (fun _ h => List.mem_cons_of_mem _ (List.mem_append_right _ h)) (by decide +kernel))
set_option maxRecDepth 20000 in
theorem gX3_newRow_X3_otherBody : GoodIn wsX3_newRow (wsV RX3 221 RX3 yX3_otherBody wsX3_otherBody) := goodIn_app (goodIn_of _ (by decide +kernel)) ggX3_newRow_X3_otherBody
set_option maxRecDepth 20000 in
theorem ggX3_newRow_X1_init : GoodIn wsX3_newRow wsX1_init := goodIn_r _ [51, 52, 53, 54, 55, 56, 57, 58, 59, 60, 61, 62, 63, 64, 65, 66, 67, 68, 69, 70, 71, 72, 73, 74, 75, 76, 77, 115, 116, 117, 78, 79, 80, 81, 82, 83, 84, 85, 86, 87, 88, 89, 90, 91, 92, 93, 94, 95] (by decide +kernel) (by decide +kernel)
set_option maxRecDepth 20000 in
theorem gX3_newRow_X1_init : GoodIn wsX3_newRow (wsX1_init) := ggX3_newRow_X1_init
theorem dX3_newRow_0 : decode cX3_newRow 0 = .ok (.new 67, 3) := by decide +kernel
theorem dX3_newRow_3 : decode cX3_newRow 3 = .ok (.dup, 1) := by decide +kernel
theorem dX3_newRow_4 : decode cX3_newRow 4 = .ok (.aload_n 0, 1) := by decide +kernel
theorem dX3_newRow_5 : decode cX3_newRow 5 = .ok (.iload_n 1, 1) := by decide +kernel
theorem dX3_newRow_6 : decode cX3_newRow 6 = .ok (.invokevirtual 103, 3) := by decide +kernel
theorem dX3_newRow_9 : decode cX3_newRow 9 = .ok (.aload_n 0, 1) := by decide +kernel
theorem dX3_newRow_10 : decode cX3_newRow 10 = .ok (.iload_n 2, 1) := by decide +kernel
theorem dX3_newRow_11 : decode cX3_newRow 11 = .ok (.invokevirtual 221, 3) := by decide +kernel
theorem dX3_newRow_14 : decode cX3_newRow 14 = .ok (.aload_n 0, 1) := by decide +kernel
theorem dX3_newRow_15 : decode cX3_newRow 15 = .ok (.getfield 25, 3) := by decide +kernel
theorem dX3_newRow_18 : decode cX3_newRow 18 = .ok (.aload_n 0, 1) := by decide +kernel
theorem dX3_newRow_19 : decode cX3_newRow 19 = .ok (.getfield 29, 3) := by decide +kernel
theorem dX3_newRow_22 : decode cX3_newRow 22 = .ok (.aload_n 0, 1) := by decide +kernel
theorem dX3_newRow_23 : decode cX3_newRow 23 = .ok (.getfield 32, 3) := by decide +kernel
theorem dX3_newRow_26 : decode cX3_newRow 26 = .ok (.invokespecial 315, 3) := by decide +kernel
theorem dX3_newRow_29 : decode cX3_newRow 29 = .ok (.astore 5, 2) := by decide +kernel
theorem dX3_newRow_31 : decode cX3_newRow 31 = .ok (.aload 5, 2) := by decide +kernel
theorem dX3_newRow_33 : decode cX3_newRow 33 = .ok (.fload_n 3, 1) := by decide +kernel
theorem dX3_newRow_34 : decode cX3_newRow 34 = .ok (.putfield 318, 3) := by decide +kernel
theorem dX3_newRow_37 : decode cX3_newRow 37 = .ok (.aload 5, 2) := by decide +kernel
theorem dX3_newRow_39 : decode cX3_newRow 39 = .ok (.iload 4, 2) := by decide +kernel
theorem dX3_newRow_41 : decode cX3_newRow 41 = .ok (.putfield 321, 3) := by decide +kernel
theorem dX3_newRow_44 : decode cX3_newRow 44 = .ok (.aload 5, 2) := by decide +kernel
theorem dX3_newRow_46 : decode cX3_newRow 46 = .ok (.areturn, 1) := by decide +kernel
set_option maxRecDepth 20000 in
theorem ggX3_addRow_X3_keptRow : GoodIn wsX3_addRow wsX3_keptRow := goodIn_r _ [8, 9, 10, 1, 11, 12, 13, 14, 15, 16, 17, 18, 19, 20, 21, 22, 23, 24, 25, 26, 27, 28, 29, 30, 31, 32, 33, 136, 137, 138, 139, 140, 141, 142, 143, 144, 145, 146, 147, 148, 149, 150, 151, 118, 119, 120, 121, 122, 123, 124, 125, 126, 127, 128, 129, 130, 131, 132, 133, 134, 135, 152, 153, 154] (by decide +kernel) (by decide +kernel)
set_option maxRecDepth 20000 in
theorem gX3_addRow_X3_keptRow : GoodIn wsX3_addRow (wsV RX3 324 RX3 yX3_keptRow wsX3_keptRow) := goodIn_app (goodIn_of _ (by decide +kernel)) ggX3_addRow_X3_keptRow
set_option maxRecDepth 20000 in
theorem ggX3_addRow_X1_held : GoodIn wsX3_addRow wsX1_held := goodIn_r _ [38, 39, 40, 41, 42, 43, 44, 7, 45, 118, 119, 120, 121, 122, 123, 124, 125, 126, 127, 128, 129, 130, 131, 132, 133, 134, 135] (by decide +kernel) (by decide +kernel)
set_option maxRecDepth 20000 in
theorem gX3_addRow_X1_held : GoodIn wsX3_addRow (wsV RX3 327 RX1 yX1_held wsX1_held) := goodIn_app (goodIn_of _ (by decide +kernel)) ggX3_addRow_X1_held
set_option maxRecDepth 20000 in
theorem ggX3_addRow_X1_enterBodies : GoodIn wsX3_addRow wsX1_enterBodies := goodIn_r _ [49, 50, 51, 52, 53, 54, 55, 56, 57, 58, 59, 60, 61, 62, 63, 64, 118, 119, 120, 121, 122, 123, 124, 125, 126, 127, 128, 129, 130, 131, 132, 133, 134, 135, 155, 156, 157, 158, 159, 160, 161, 162, 163, 164, 165, 166, 167, 168, 169, 170] (by decide +kernel) (by decide +kernel)
set_option maxRecDepth 20000 in
theorem gX3_addRow_X1_enterBodies : GoodIn wsX3_addRow (wsV RX3 331 RX1 yX1_enterBodies wsX1_enterBodies) := goodIn_app (goodIn_of _ (by decide +kernel)) ggX3_addRow_X1_enterBodies
set_option maxRecDepth 20000 in
theorem ggX3_addRow_Jx4a65c_add_9ea2d : GoodIn wsX3_addRow wsJx4a65c_add_9ea2d := goodIn_r _ [68, 69, 70, 33, 16, 71, 72, 73, 14, 74, 75, 76, 77, 78, 79, 80, 81, 82, 83, 84, 85, 86, 87, 88, 89, 90, 91, 92, 93, 94, 95, 96, 97, 98, 99, 100, 101, 102, 103, 104, 105, 106, 107, 108, 109, 110, 111, 112, 113, 114, 115, 116, 117, 152, 153, 154] (by decide +kernel) (by decide +kernel)
set_option maxRecDepth 20000 in
theorem gX3_addRow_Jx4a65c_add_9ea2d : GoodIn wsX3_addRow (wsV RX3 99 RJx4a65c yJx4a65c_add_9ea2d wsJx4a65c_add_9ea2d) := goodIn_app (goodIn_of _ (by decide +kernel)) ggX3_addRow_Jx4a65c_add_9ea2d
set_option maxRecDepth 20000 in
theorem ggX3_addRow_Jx4a65c_size_8abf5 : GoodIn wsX3_addRow wsJx4a65c_size_8abf5 := goodIn_r _ [15, 16, 152, 153, 154] (by decide +kernel) (by decide +kernel)
set_option maxRecDepth 20000 in
theorem gX3_addRow_Jx4a65c_size_8abf5 : GoodIn wsX3_addRow (wsV RX3 85 RJx4a65c yJx4a65c_size_8abf5 wsJx4a65c_size_8abf5) := goodIn_app (goodIn_of _ (by decide +kernel)) ggX3_addRow_Jx4a65c_size_8abf5
theorem dX3_addRow_0 : decode cX3_addRow 0 = .ok (.aload_n 0, 1) := by decide +kernel
theorem dX3_addRow_1 : decode cX3_addRow 1 = .ok (.aload_n 1, 1) := by decide +kernel
theorem dX3_addRow_2 : decode cX3_addRow 2 = .ok (.getfield 321, 3) := by decide +kernel
theorem dX3_addRow_5 : decode cX3_addRow 5 = .ok (.invokevirtual 324, 3) := by decide +kernel
theorem dX3_addRow_8 : decode cX3_addRow 8 = .ok (.astore_n 2, 1) := by decide +kernel
theorem dX3_addRow_9 : decode cX3_addRow 9 = .ok (.aload_n 2, 1) := by decide +kernel
theorem dX3_addRow_10 : decode cX3_addRow 10 = .ok (.ifnull 15, 3) := by decide +kernel
theorem dX3_addRow_13 : decode cX3_addRow 13 = .ok (.aload_n 1, 1) := by decide +kernel
theorem dX3_addRow_14 : decode cX3_addRow 14 = .ok (.aload_n 1, 1) := by decide +kernel
theorem dX3_addRow_15 : decode cX3_addRow 15 = .ok (.aload_n 2, 1) := by decide +kernel
theorem dX3_addRow_16 : decode cX3_addRow 16 = .ok (.getfield 281, 3) := by decide +kernel
theorem dX3_addRow_19 : decode cX3_addRow 19 = .ok (.invokevirtual 327, 3) := by decide +kernel
theorem dX3_addRow_22 : decode cX3_addRow 22 = .ok (.putfield 281, 3) := by decide +kernel
theorem dX3_addRow_25 : decode cX3_addRow 25 = .ok (.aload_n 1, 1) := by decide +kernel
theorem dX3_addRow_26 : decode cX3_addRow 26 = .ok (.invokevirtual 331, 3) := by decide +kernel
theorem dX3_addRow_29 : decode cX3_addRow 29 = .ok (.aload_n 0, 1) := by decide +kernel
theorem dX3_addRow_30 : decode cX3_addRow 30 = .ok (.getfield 16, 3) := by decide +kernel
theorem dX3_addRow_33 : decode cX3_addRow 33 = .ok (.aload_n 1, 1) := by decide +kernel
theorem dX3_addRow_34 : decode cX3_addRow 34 = .ok (.invokevirtual 99, 3) := by decide +kernel
theorem dX3_addRow_37 : decode cX3_addRow 37 = .ok (.pop, 1) := by decide +kernel
theorem dX3_addRow_38 : decode cX3_addRow 38 = .ok (.aload_n 0, 1) := by decide +kernel
theorem dX3_addRow_39 : decode cX3_addRow 39 = .ok (.getfield 16, 3) := by decide +kernel
theorem dX3_addRow_42 : decode cX3_addRow 42 = .ok (.invokevirtual 85, 3) := by decide +kernel
theorem dX3_addRow_45 : decode cX3_addRow 45 = .ok (.iconst 1, 1) := by decide +kernel
theorem dX3_addRow_46 : decode cX3_addRow 46 = .ok (.isub, 1) := by decide +kernel
theorem dX3_addRow_47 : decode cX3_addRow 47 = .ok (.ireturn, 1) := by decide +kernel
set_option maxRecDepth 20000 in
theorem ggX3_keptRow_Jx4a65c_size_8abf5 : GoodIn wsX3_keptRow wsJx4a65c_size_8abf5 := goodIn_r _ [8, 9, 61, 62, 63] (by decide +kernel) (by decide +kernel)
set_option maxRecDepth 20000 in
theorem gX3_keptRow_Jx4a65c_size_8abf5 : GoodIn wsX3_keptRow (wsV RX3 85 RJx4a65c yJx4a65c_size_8abf5 wsJx4a65c_size_8abf5) := goodIn_app (goodIn_of _ (by decide +kernel)) ggX3_keptRow_Jx4a65c_size_8abf5
set_option maxRecDepth 20000 in
theorem ggX3_keptRow_Jx4a65c_get_915e3 : GoodIn wsX3_keptRow wsJx4a65c_get_915e3 := goodIn_r _ [13, 9, 14, 15, 16, 17, 18, 19, 20, 21, 22, 23, 24, 7, 25, 26, 61, 62, 63] (by decide +kernel) (by decide +kernel)
set_option maxRecDepth 20000 in
theorem gX3_keptRow_Jx4a65c_get_915e3 : GoodIn wsX3_keptRow (wsV RX3 152 RJx4a65c yJx4a65c_get_915e3 wsJx4a65c_get_915e3) := goodIn_app (goodIn_of _ (by decide +kernel)) ggX3_keptRow_Jx4a65c_get_915e3
theorem dX3_keptRow_0 : decode cX3_keptRow 0 = .ok (.iload_n 1, 1) := by decide +kernel
theorem dX3_keptRow_1 : decode cX3_keptRow 1 = .ok (.ifCond .ge 5, 3) := by decide +kernel
theorem dX3_keptRow_4 : decode cX3_keptRow 4 = .ok (.aconst_null, 1) := by decide +kernel
theorem dX3_keptRow_5 : decode cX3_keptRow 5 = .ok (.areturn, 1) := by decide +kernel
theorem dX3_keptRow_6 : decode cX3_keptRow 6 = .ok (.iconst 0, 1) := by decide +kernel
theorem dX3_keptRow_7 : decode cX3_keptRow 7 = .ok (.istore_n 2, 1) := by decide +kernel
theorem dX3_keptRow_8 : decode cX3_keptRow 8 = .ok (.iload_n 2, 1) := by decide +kernel
theorem dX3_keptRow_9 : decode cX3_keptRow 9 = .ok (.aload_n 0, 1) := by decide +kernel
theorem dX3_keptRow_10 : decode cX3_keptRow 10 = .ok (.getfield 19, 3) := by decide +kernel
theorem dX3_keptRow_13 : decode cX3_keptRow 13 = .ok (.invokevirtual 85, 3) := by decide +kernel
theorem dX3_keptRow_16 : decode cX3_keptRow 16 = .ok (.if_icmp .ge 31, 3) := by decide +kernel
theorem dX3_keptRow_19 : decode cX3_keptRow 19 = .ok (.aload_n 0, 1) := by decide +kernel
theorem dX3_keptRow_20 : decode cX3_keptRow 20 = .ok (.getfield 19, 3) := by decide +kernel
theorem dX3_keptRow_23 : decode cX3_keptRow 23 = .ok (.iload_n 2, 1) := by decide +kernel
theorem dX3_keptRow_24 : decode cX3_keptRow 24 = .ok (.invokevirtual 152, 3) := by decide +kernel
theorem dX3_keptRow_27 : decode cX3_keptRow 27 = .ok (.checkcast 67, 3) := by decide +kernel
theorem dX3_keptRow_30 : decode cX3_keptRow 30 = .ok (.astore_n 3, 1) := by decide +kernel
theorem dX3_keptRow_31 : decode cX3_keptRow 31 = .ok (.aload_n 3, 1) := by decide +kernel
theorem dX3_keptRow_32 : decode cX3_keptRow 32 = .ok (.getfield 321, 3) := by decide +kernel
theorem dX3_keptRow_35 : decode cX3_keptRow 35 = .ok (.iload_n 1, 1) := by decide +kernel
theorem dX3_keptRow_36 : decode cX3_keptRow 36 = .ok (.if_icmp .ne 5, 3) := by decide +kernel
theorem dX3_keptRow_39 : decode cX3_keptRow 39 = .ok (.aload_n 3, 1) := by decide +kernel
theorem dX3_keptRow_40 : decode cX3_keptRow 40 = .ok (.areturn, 1) := by decide +kernel
theorem dX3_keptRow_41 : decode cX3_keptRow 41 = .ok (.iinc 2 1, 3) := by decide +kernel
theorem dX3_keptRow_44 : decode cX3_keptRow 44 = .ok (.goto (-36), 3) := by decide +kernel
theorem dX3_keptRow_47 : decode cX3_keptRow 47 = .ok (.aconst_null, 1) := by decide +kernel
theorem dX3_keptRow_48 : decode cX3_keptRow 48 = .ok (.areturn, 1) := by decide +kernel
set_option maxRecDepth 20000 in
theorem ggX3_numberIslands_Jx4a65c_size_8abf5 : GoodIn wsX3_numberIslands wsJx4a65c_size_8abf5 := goodIn_r _ [10, 11, 67, 68, 69] (by decide +kernel) (by decide +kernel)
set_option maxRecDepth 20000 in
theorem gX3_numberIslands_Jx4a65c_size_8abf5 : GoodIn wsX3_numberIslands (wsV RX3 85 RJx4a65c yJx4a65c_size_8abf5 wsJx4a65c_size_8abf5) := goodIn_app (goodIn_of _ (by decide +kernel)) ggX3_numberIslands_Jx4a65c_size_8abf5
set_option maxRecDepth 20000 in
theorem ggX3_numberIslands_Jx4a65c_get_915e3 : GoodIn wsX3_numberIslands wsJx4a65c_get_915e3 := goodIn_r _ [15, 11, 16, 17, 18, 19, 20, 21, 22, 23, 24, 25, 26, 9, 27, 28, 67, 68, 69] (by decide +kernel) (by decide +kernel)
set_option maxRecDepth 20000 in
theorem gX3_numberIslands_Jx4a65c_get_915e3 : GoodIn wsX3_numberIslands (wsV RX3 152 RJx4a65c yJx4a65c_get_915e3 wsJx4a65c_get_915e3) := goodIn_app (goodIn_of _ (by decide +kernel)) ggX3_numberIslands_Jx4a65c_get_915e3
set_option maxRecDepth 20000 in
theorem ggX3_numberIslands_X0_lowest : GoodIn wsX3_numberIslands wsX0_lowest := goodIn_r _ [33, 34, 51, 52, 53, 54, 55, 56, 57, 58, 59, 60, 61, 62, 63, 64, 65, 66] (by decide +kernel) (by decide +kernel)
set_option maxRecDepth 20000 in
theorem gX3_numberIslands_X0_lowest : GoodIn wsX3_numberIslands (wsV RX3 334 RX0 yX0_lowest wsX0_lowest) := goodIn_app (goodIn_of _ (by decide +kernel)) ggX3_numberIslands_X0_lowest
theorem dX3_numberIslands_0 : decode cX3_numberIslands 0 = .ok (.aload_n 0, 1) := by decide +kernel
theorem dX3_numberIslands_1 : decode cX3_numberIslands 1 = .ok (.iconst 0, 1) := by decide +kernel
theorem dX3_numberIslands_2 : decode cX3_numberIslands 2 = .ok (.putfield 56, 3) := by decide +kernel
theorem dX3_numberIslands_5 : decode cX3_numberIslands 5 = .ok (.iconst 0, 1) := by decide +kernel
theorem dX3_numberIslands_6 : decode cX3_numberIslands 6 = .ok (.istore_n 1, 1) := by decide +kernel
theorem dX3_numberIslands_7 : decode cX3_numberIslands 7 = .ok (.iload_n 1, 1) := by decide +kernel
theorem dX3_numberIslands_8 : decode cX3_numberIslands 8 = .ok (.aload_n 0, 1) := by decide +kernel
theorem dX3_numberIslands_9 : decode cX3_numberIslands 9 = .ok (.getfield 10, 3) := by decide +kernel
theorem dX3_numberIslands_12 : decode cX3_numberIslands 12 = .ok (.invokevirtual 85, 3) := by decide +kernel
theorem dX3_numberIslands_15 : decode cX3_numberIslands 15 = .ok (.if_icmp .ge 67, 3) := by decide +kernel
theorem dX3_numberIslands_18 : decode cX3_numberIslands 18 = .ok (.aload_n 0, 1) := by decide +kernel
theorem dX3_numberIslands_19 : decode cX3_numberIslands 19 = .ok (.getfield 10, 3) := by decide +kernel
theorem dX3_numberIslands_22 : decode cX3_numberIslands 22 = .ok (.iload_n 1, 1) := by decide +kernel
theorem dX3_numberIslands_23 : decode cX3_numberIslands 23 = .ok (.invokevirtual 152, 3) := by decide +kernel
theorem dX3_numberIslands_26 : decode cX3_numberIslands 26 = .ok (.checkcast 94, 3) := by decide +kernel
theorem dX3_numberIslands_29 : decode cX3_numberIslands 29 = .ok (.astore_n 2, 1) := by decide +kernel
theorem dX3_numberIslands_30 : decode cX3_numberIslands 30 = .ok (.aload_n 2, 1) := by decide +kernel
theorem dX3_numberIslands_31 : decode cX3_numberIslands 31 = .ok (.getfield 156, 3) := by decide +kernel
theorem dX3_numberIslands_34 : decode cX3_numberIslands 34 = .ok (.ifCond .eq 42, 3) := by decide +kernel
theorem dX3_numberIslands_37 : decode cX3_numberIslands 37 = .ok (.aload_n 2, 1) := by decide +kernel
theorem dX3_numberIslands_38 : decode cX3_numberIslands 38 = .ok (.invokevirtual 334, 3) := by decide +kernel
theorem dX3_numberIslands_41 : decode cX3_numberIslands 41 = .ok (.astore_n 3, 1) := by decide +kernel
theorem dX3_numberIslands_42 : decode cX3_numberIslands 42 = .ok (.aload_n 3, 1) := by decide +kernel
theorem dX3_numberIslands_43 : decode cX3_numberIslands 43 = .ok (.aload_n 2, 1) := by decide +kernel
theorem dX3_numberIslands_44 : decode cX3_numberIslands 44 = .ok (.if_acmp .ne 24, 3) := by decide +kernel
theorem dX3_numberIslands_47 : decode cX3_numberIslands 47 = .ok (.aload_n 2, 1) := by decide +kernel
theorem dX3_numberIslands_48 : decode cX3_numberIslands 48 = .ok (.aload_n 0, 1) := by decide +kernel
theorem dX3_numberIslands_49 : decode cX3_numberIslands 49 = .ok (.getfield 56, 3) := by decide +kernel
theorem dX3_numberIslands_52 : decode cX3_numberIslands 52 = .ok (.putfield 270, 3) := by decide +kernel
theorem dX3_numberIslands_55 : decode cX3_numberIslands 55 = .ok (.aload_n 0, 1) := by decide +kernel
theorem dX3_numberIslands_56 : decode cX3_numberIslands 56 = .ok (.dup, 1) := by decide +kernel

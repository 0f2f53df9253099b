theorem dX4_row_149 : decode cX4_row 149 = .ok (.fload_n 3, 1) := by decide +kernel
theorem dX4_row_150 : decode cX4_row 150 = .ok (.iload 7, 2) := by decide +kernel
theorem dX4_row_152 : decode cX4_row 152 = .ok (.invokevirtual 146, 3) := by decide +kernel
theorem dX4_row_155 : decode cX4_row 155 = .ok (.ireturn, 1) := by decide +kernel
set_option maxRecDepth 20000 in
theorem ggX4_rub_X4_within : GoodIn wsX4_rub wsX4_within := goodIn_r _ [13] (by decide +kernel) (by decide +kernel)
set_option maxRecDepth 20000 in
theorem gX4_rub_X4_within : GoodIn wsX4_rub (va_wsS RX4 97 yX4_within wsX4_within) := goodIn_app (goodIn_of _ (by decide +kernel)) ggX4_rub_X4_within
set_option maxRecDepth 20000 in
theorem ggX4_rub_X4_pair : GoodIn wsX4_rub wsX4_pair := goodIn_r _ [17, 18, 19, 20, 12, 21, 22, 53, 54, 55, 56, 57, 58, 59, 60, 61, 62, 63, 64, 65, 66, 67, 68, 69, 70, 71, 72, 73, 74, 75, 76, 77, 78, 79, 80, 81, 82, 83, 84, 85, 86, 87] (by decide +kernel) (by decide +kernel)
set_option maxRecDepth 20000 in
theorem gX4_rub_X4_pair : GoodIn wsX4_rub (wsV RX4 142 RX4 yX4_pair wsX4_pair) := goodIn_app (goodIn_of _ (by decide +kernel)) ggX4_rub_X4_pair
set_option maxRecDepth 20000 in
theorem ggX4_rub_X4_goes : GoodIn wsX4_rub wsX4_goes := goodIn_r _ [26, 27, 53, 54, 55, 56, 57, 58, 59, 60, 61, 62, 63, 64, 65, 66, 67, 68, 69, 70, 71, 72, 73, 74, 75, 76, 77, 78, 79, 80, 81, 82, 83, 84, 85, 86, 87] (by decide +kernel) (by decide +kernel)
set_option maxRecDepth 20000 in
theorem gX4_rub_X4_goes : GoodIn wsX4_rub (wsV RX4 101 RX4 yX4_goes wsX4_goes) := goodIn_app (goodIn_of _ (by decide +kernel)) ggX4_rub_X4_goes
set_option maxRecDepth 20000 in
theorem ggX4_rub_X4_make : GoodIn wsX4_rub wsX4_make := goodIn_r _ [31, 1, 6, 7, 32, 33, 34, 35, 36, 37, 38, 39, 12, 40, 41, 42, 43, 44, 45, 46, 47, 5, 48, 49, 9, 50, 51, 52, 53, 54, 55, 56, 57, 58, 59, 60, 61, 62, 63, 64, 65, 66, 67, 68, 69, 70, 71, 72, 73, 74, 75, 76, 77, 78, 79, 80, 81, 82, 83, 84, 85, 86, 87] (by decide +kernel) (by decide +kernel)
set_option maxRecDepth 20000 in
theorem gX4_rub_X4_make : GoodIn wsX4_rub (wsV RX4 146 RX4 yX4_make wsX4_make) := goodIn_app (goodIn_of _ (by decide +kernel)) ggX4_rub_X4_make
theorem dX4_rub_0 : decode cX4_rub 0 = .ok (.iload 4, 2) := by decide +kernel
theorem dX4_rub_2 : decode cX4_rub 2 = .ok (.ifCond .lt 16, 3) := by decide +kernel
theorem dX4_rub_5 : decode cX4_rub 5 = .ok (.iload 4, 2) := by decide +kernel
theorem dX4_rub_7 : decode cX4_rub 7 = .ok (.aload_n 0, 1) := by decide +kernel
theorem dX4_rub_8 : decode cX4_rub 8 = .ok (.getfield 129, 3) := by decide +kernel
theorem dX4_rub_11 : decode cX4_rub 11 = .ok (.if_icmp .ge 7, 3) := by decide +kernel
theorem dX4_rub_14 : decode cX4_rub 14 = .ok (.iconst 1, 1) := by decide +kernel
theorem dX4_rub_15 : decode cX4_rub 15 = .ok (.goto 4, 3) := by decide +kernel
theorem dX4_rub_18 : decode cX4_rub 18 = .ok (.iconst 0, 1) := by decide +kernel
theorem dX4_rub_19 : decode cX4_rub 19 = .ok (.istore 7, 2) := by decide +kernel
theorem dX4_rub_21 : decode cX4_rub 21 = .ok (.fload_n 3, 1) := by decide +kernel
theorem dX4_rub_22 : decode cX4_rub 22 = .ok (.ldc 115, 2) := by decide +kernel
theorem dX4_rub_24 : decode cX4_rub 24 = .ok (.ldc 116, 2) := by decide +kernel
theorem dX4_rub_26 : decode cX4_rub 26 = .ok (.invokestatic 97, 3) := by decide +kernel
theorem dX4_rub_29 : decode cX4_rub 29 = .ok (.ifCond .eq 18, 3) := by decide +kernel
theorem dX4_rub_32 : decode cX4_rub 32 = .ok (.fload 5, 2) := by decide +kernel
theorem dX4_rub_34 : decode cX4_rub 34 = .ok (.fconst 0, 1) := by decide +kernel
theorem dX4_rub_35 : decode cX4_rub 35 = .ok (.ldc 150, 2) := by decide +kernel
theorem dX4_rub_37 : decode cX4_rub 37 = .ok (.invokestatic 97, 3) := by decide +kernel
theorem dX4_rub_40 : decode cX4_rub 40 = .ok (.ifCond .eq 7, 3) := by decide +kernel
theorem dX4_rub_43 : decode cX4_rub 43 = .ok (.iconst 1, 1) := by decide +kernel
theorem dX4_rub_44 : decode cX4_rub 44 = .ok (.goto 4, 3) := by decide +kernel
theorem dX4_rub_47 : decode cX4_rub 47 = .ok (.iconst 0, 1) := by decide +kernel
theorem dX4_rub_48 : decode cX4_rub 48 = .ok (.istore 8, 2) := by decide +kernel
theorem dX4_rub_50 : decode cX4_rub 50 = .ok (.iload 8, 2) := by decide +kernel
theorem dX4_rub_52 : decode cX4_rub 52 = .ok (.ifCond .eq 44, 3) := by decide +kernel
theorem dX4_rub_55 : decode cX4_rub 55 = .ok (.iload 7, 2) := by decide +kernel
theorem dX4_rub_57 : decode cX4_rub 57 = .ok (.ifCond .eq 39, 3) := by decide +kernel
theorem dX4_rub_60 : decode cX4_rub 60 = .ok (.aload_n 0, 1) := by decide +kernel
theorem dX4_rub_61 : decode cX4_rub 61 = .ok (.getfield 48, 3) := by decide +kernel
theorem dX4_rub_64 : decode cX4_rub 64 = .ok (.iload 4, 2) := by decide +kernel
theorem dX4_rub_66 : decode cX4_rub 66 = .ok (.iaload, 1) := by decide +kernel
theorem dX4_rub_67 : decode cX4_rub 67 = .ok (.ifCond .ge 29, 3) := by decide +kernel
theorem dX4_rub_70 : decode cX4_rub 70 = .ok (.aload_n 0, 1) := by decide +kernel
theorem dX4_rub_71 : decode cX4_rub 71 = .ok (.getfield 24, 3) := by decide +kernel
theorem dX4_rub_74 : decode cX4_rub 74 = .ok (.iload 4, 2) := by decide +kernel
theorem dX4_rub_76 : decode cX4_rub 76 = .ok (.iaload, 1) := by decide +kernel
theorem dX4_rub_77 : decode cX4_rub 77 = .ok (.iload_n 1, 1) := by decide +kernel
theorem dX4_rub_78 : decode cX4_rub 78 = .ok (.if_icmp .ne 18, 3) := by decide +kernel
theorem dX4_rub_81 : decode cX4_rub 81 = .ok (.aload_n 0, 1) := by decide +kernel
theorem dX4_rub_82 : decode cX4_rub 82 = .ok (.getfield 27, 3) := by decide +kernel
theorem dX4_rub_85 : decode cX4_rub 85 = .ok (.iload 4, 2) := by decide +kernel
theorem dX4_rub_87 : decode cX4_rub 87 = .ok (.iaload, 1) := by decide +kernel
theorem dX4_rub_88 : decode cX4_rub 88 = .ok (.iload_n 2, 1) := by decide +kernel
theorem dX4_rub_89 : decode cX4_rub 89 = .ok (.if_icmp .ne 7, 3) := by decide +kernel
theorem dX4_rub_92 : decode cX4_rub 92 = .ok (.iconst 1, 1) := by decide +kernel
theorem dX4_rub_93 : decode cX4_rub 93 = .ok (.goto 4, 3) := by decide +kernel
theorem dX4_rub_96 : decode cX4_rub 96 = .ok (.iconst 0, 1) := by decide +kernel
theorem dX4_rub_97 : decode cX4_rub 97 = .ok (.istore 8, 2) := by decide +kernel
theorem dX4_rub_99 : decode cX4_rub 99 = .ok (.aload_n 0, 1) := by decide +kernel
theorem dX4_rub_100 : decode cX4_rub 100 = .ok (.aload_n 0, 1) := by decide +kernel
theorem dX4_rub_101 : decode cX4_rub 101 = .ok (.iload_n 1, 1) := by decide +kernel
theorem dX4_rub_102 : decode cX4_rub 102 = .ok (.iload_n 2, 1) := by decide +kernel
theorem dX4_rub_103 : decode cX4_rub 103 = .ok (.invokevirtual 142, 3) := by decide +kernel
theorem dX4_rub_106 : decode cX4_rub 106 = .ok (.ifCond .eq 12, 3) := by decide +kernel
theorem dX4_rub_109 : decode cX4_rub 109 = .ok (.iload 7, 2) := by decide +kernel
theorem dX4_rub_111 : decode cX4_rub 111 = .ok (.ifCond .eq 7, 3) := by decide +kernel
theorem dX4_rub_114 : decode cX4_rub 114 = .ok (.iconst 1, 1) := by decide +kernel
theorem dX4_rub_115 : decode cX4_rub 115 = .ok (.goto 4, 3) := by decide +kernel
theorem dX4_rub_118 : decode cX4_rub 118 = .ok (.iconst 0, 1) := by decide +kernel
theorem dX4_rub_119 : decode cX4_rub 119 = .ok (.iload 8, 2) := by decide +kernel
theorem dX4_rub_121 : decode cX4_rub 121 = .ok (.aload_n 0, 1) := by decide +kernel
theorem dX4_rub_122 : decode cX4_rub 122 = .ok (.getfield 129, 3) := by decide +kernel
theorem dX4_rub_125 : decode cX4_rub 125 = .ok (.sipush 1024, 3) := by decide +kernel
theorem dX4_rub_128 : decode cX4_rub 128 = .ok (.if_icmp .ge 7, 3) := by decide +kernel
theorem dX4_rub_131 : decode cX4_rub 131 = .ok (.iconst 1, 1) := by decide +kernel
theorem dX4_rub_132 : decode cX4_rub 132 = .ok (.goto 4, 3) := by decide +kernel
theorem dX4_rub_135 : decode cX4_rub 135 = .ok (.iconst 0, 1) := by decide +kernel
theorem dX4_rub_136 : decode cX4_rub 136 = .ok (.invokevirtual 101, 3) := by decide +kernel
theorem dX4_rub_139 : decode cX4_rub 139 = .ok (.ifCond .ne 5, 3) := by decide +kernel
theorem dX4_rub_142 : decode cX4_rub 142 = .ok (.iconst 0, 1) := by decide +kernel
theorem dX4_rub_143 : decode cX4_rub 143 = .ok (.ireturn, 1) := by decide +kernel
theorem dX4_rub_144 : decode cX4_rub 144 = .ok (.aload_n 0, 1) := by decide +kernel
theorem dX4_rub_145 : decode cX4_rub 145 = .ok (.getfield 36, 3) := by decide +kernel
theorem dX4_rub_148 : decode cX4_rub 148 = .ok (.aload_n 0, 1) := by decide +kernel
theorem dX4_rub_149 : decode cX4_rub 149 = .ok (.getfield 129, 3) := by decide +kernel
theorem dX4_rub_152 : decode cX4_rub 152 = .ok (.fconst 0, 1) := by decide +kernel
theorem dX4_rub_153 : decode cX4_rub 153 = .ok (.fastore, 1) := by decide +kernel
theorem dX4_rub_154 : decode cX4_rub 154 = .ok (.aload_n 0, 1) := by decide +kernel
theorem dX4_rub_155 : decode cX4_rub 155 = .ok (.getfield 45, 3) := by decide +kernel
theorem dX4_rub_158 : decode cX4_rub 158 = .ok (.aload_n 0, 1) := by decide +kernel
theorem dX4_rub_159 : decode cX4_rub 159 = .ok (.getfield 129, 3) := by decide +kernel
theorem dX4_rub_162 : decode cX4_rub 162 = .ok (.fload 5, 2) := by decide +kernel
theorem dX4_rub_164 : decode cX4_rub 164 = .ok (.fastore, 1) := by decide +kernel
theorem dX4_rub_165 : decode cX4_rub 165 = .ok (.aload_n 0, 1) := by decide +kernel
theorem dX4_rub_166 : decode cX4_rub 166 = .ok (.getfield 48, 3) := by decide +kernel
theorem dX4_rub_169 : decode cX4_rub 169 = .ok (.aload_n 0, 1) := by decide +kernel
theorem dX4_rub_170 : decode cX4_rub 170 = .ok (.getfield 129, 3) := by decide +kernel
theorem dX4_rub_173 : decode cX4_rub 173 = .ok (.iload 4, 2) := by decide +kernel
theorem dX4_rub_175 : decode cX4_rub 175 = .ok (.iastore, 1) := by decide +kernel
theorem dX4_rub_176 : decode cX4_rub 176 = .ok (.aload_n 0, 1) := by decide +kernel
theorem dX4_rub_177 : decode cX4_rub 177 = .ok (.iload_n 1, 1) := by decide +kernel
theorem dX4_rub_178 : decode cX4_rub 178 = .ok (.iload_n 2, 1) := by decide +kernel
theorem dX4_rub_179 : decode cX4_rub 179 = .ok (.fload_n 3, 1) := by decide +kernel
theorem dX4_rub_180 : decode cX4_rub 180 = .ok (.iload 6, 2) := by decide +kernel
theorem dX4_rub_182 : decode cX4_rub 182 = .ok (.invokevirtual 146, 3) := by decide +kernel
theorem dX4_rub_185 : decode cX4_rub 185 = .ok (.ireturn, 1) := by decide +kernel
theorem dX4_clear_0 : decode cX4_clear 0 = .ok (.aload_n 0, 1) := by decide +kernel
theorem dX4_clear_1 : decode cX4_clear 1 = .ok (.iconst 0, 1) := by decide +kernel
theorem dX4_clear_2 : decode cX4_clear 2 = .ok (.putfield 90, 3) := by decide +kernel
theorem dX4_clear_5 : decode cX4_clear 5 = .ok (.aload_n 0, 1) := by decide +kernel
theorem dX4_clear_6 : decode cX4_clear 6 = .ok (.iconst 0, 1) := by decide +kernel
theorem dX4_clear_7 : decode cX4_clear 7 = .ok (.putfield 122, 3) := by decide +kernel
theorem dX4_clear_10 : decode cX4_clear 10 = .ok (.iconst 0, 1) := by decide +kernel
theorem dX4_clear_11 : decode cX4_clear 11 = .ok (.istore_n 1, 1) := by decide +kernel
theorem dX4_clear_12 : decode cX4_clear 12 = .ok (.iload_n 1, 1) := by decide +kernel
theorem dX4_clear_13 : decode cX4_clear 13 = .ok (.aload_n 0, 1) := by decide +kernel
theorem dX4_clear_14 : decode cX4_clear 14 = .ok (.getfield 129, 3) := by decide +kernel
theorem dX4_clear_17 : decode cX4_clear 17 = .ok (.if_icmp .ge 109, 3) := by decide +kernel
theorem dX4_clear_20 : decode cX4_clear 20 = .ok (.aload_n 0, 1) := by decide +kernel
theorem dX4_clear_21 : decode cX4_clear 21 = .ok (.getfield 51, 3) := by decide +kernel
theorem dX4_clear_24 : decode cX4_clear 24 = .ok (.iload_n 1, 1) := by decide +kernel
theorem dX4_clear_25 : decode cX4_clear 25 = .ok (.iaload, 1) := by decide +kernel
theorem dX4_clear_26 : decode cX4_clear 26 = .ok (.ifCond .ge 7, 3) := by decide +kernel
theorem dX4_clear_29 : decode cX4_clear 29 = .ok (.iconst 1, 1) := by decide +kernel
theorem dX4_clear_30 : decode cX4_clear 30 = .ok (.goto 4, 3) := by decide +kernel
theorem dX4_clear_33 : decode cX4_clear 33 = .ok (.iconst 0, 1) := by decide +kernel
theorem dX4_clear_34 : decode cX4_clear 34 = .ok (.istore_n 2, 1) := by decide +kernel
theorem dX4_clear_35 : decode cX4_clear 35 = .ok (.iconst 0, 1) := by decide +kernel
theorem dX4_clear_36 : decode cX4_clear 36 = .ok (.istore_n 3, 1) := by decide +kernel
theorem dX4_clear_37 : decode cX4_clear 37 = .ok (.iload_n 3, 1) := by decide +kernel
theorem dX4_clear_38 : decode cX4_clear 38 = .ok (.aload_n 0, 1) := by decide +kernel
theorem dX4_clear_39 : decode cX4_clear 39 = .ok (.getfield 122, 3) := by decide +kernel
theorem dX4_clear_42 : decode cX4_clear 42 = .ok (.if_icmp .ge 34, 3) := by decide +kernel
theorem dX4_clear_45 : decode cX4_clear 45 = .ok (.iload_n 2, 1) := by decide +kernel
theorem dX4_clear_46 : decode cX4_clear 46 = .ok (.ifCond .ne 18, 3) := by decide +kernel
theorem dX4_clear_49 : decode cX4_clear 49 = .ok (.aload_n 0, 1) := by decide +kernel
theorem dX4_clear_50 : decode cX4_clear 50 = .ok (.getfield 60, 3) := by decide +kernel
theorem dX4_clear_53 : decode cX4_clear 53 = .ok (.iload_n 3, 1) := by decide +kernel
theorem dX4_clear_54 : decode cX4_clear 54 = .ok (.iaload, 1) := by decide +kernel
theorem dX4_clear_55 : decode cX4_clear 55 = .ok (.aload_n 0, 1) := by decide +kernel
theorem dX4_clear_56 : decode cX4_clear 56 = .ok (.getfield 51, 3) := by decide +kernel
theorem dX4_clear_59 : decode cX4_clear 59 = .ok (.iload_n 1, 1) := by decide +kernel
theorem dX4_clear_60 : decode cX4_clear 60 = .ok (.iaload, 1) := by decide +kernel
theorem dX4_clear_61 : decode cX4_clear 61 = .ok (.if_icmp .ne 7, 3) := by decide +kernel
theorem dX4_clear_64 : decode cX4_clear 64 = .ok (.iconst 1, 1) := by decide +kernel
theorem dX4_clear_65 : decode cX4_clear 65 = .ok (.goto 4, 3) := by decide +kernel
theorem dX4_clear_68 : decode cX4_clear 68 = .ok (.iconst 0, 1) := by decide +kernel
theorem dX4_clear_69 : decode cX4_clear 69 = .ok (.istore_n 2, 1) := by decide +kernel
theorem dX4_clear_70 : decode cX4_clear 70 = .ok (.iinc 3 1, 3) := by decide +kernel
theorem dX4_clear_73 : decode cX4_clear 73 = .ok (.goto (-36), 3) := by decide +kernel
theorem dX4_clear_76 : decode cX4_clear 76 = .ok (.iload_n 2, 1) := by decide +kernel
theorem dX4_clear_77 : decode cX4_clear 77 = .ok (.ifCond .ne 43, 3) := by decide +kernel
theorem dX4_clear_80 : decode cX4_clear 80 = .ok (.aload_n 0, 1) := by decide +kernel
theorem dX4_clear_81 : decode cX4_clear 81 = .ok (.getfield 60, 3) := by decide +kernel
theorem dX4_clear_84 : decode cX4_clear 84 = .ok (.aload_n 0, 1) := by decide +kernel
theorem dX4_clear_85 : decode cX4_clear 85 = .ok (.getfield 122, 3) := by decide +kernel
theorem dX4_clear_88 : decode cX4_clear 88 = .ok (.aload_n 0, 1) := by decide +kernel
theorem dX4_clear_89 : decode cX4_clear 89 = .ok (.getfield 51, 3) := by decide +kernel
theorem dX4_clear_92 : decode cX4_clear 92 = .ok (.iload_n 1, 1) := by decide +kernel
theorem dX4_clear_93 : decode cX4_clear 93 = .ok (.iaload, 1) := by decide +kernel
theorem dX4_clear_94 : decode cX4_clear 94 = .ok (.iastore, 1) := by decide +kernel
theorem dX4_clear_95 : decode cX4_clear 95 = .ok (.aload_n 0, 1) := by decide +kernel
theorem dX4_clear_96 : decode cX4_clear 96 = .ok (.getfield 63, 3) := by decide +kernel
theorem dX4_clear_99 : decode cX4_clear 99 = .ok (.aload_n 0, 1) := by decide +kernel
theorem dX4_clear_100 : decode cX4_clear 100 = .ok (.getfield 122, 3) := by decide +kernel
theorem dX4_clear_103 : decode cX4_clear 103 = .ok (.aload_n 0, 1) := by decide +kernel
theorem dX4_clear_104 : decode cX4_clear 104 = .ok (.getfield 54, 3) := by decide +kernel
theorem dX4_clear_107 : decode cX4_clear 107 = .ok (.iload_n 1, 1) := by decide +kernel
theorem dX4_clear_108 : decode cX4_clear 108 = .ok (.faload, 1) := by decide +kernel
theorem dX4_clear_109 : decode cX4_clear 109 = .ok (.fastore, 1) := by decide +kernel
theorem dX4_clear_110 : decode cX4_clear 110 = .ok (.aload_n 0, 1) := by decide +kernel
theorem dX4_clear_111 : decode cX4_clear 111 = .ok (.dup, 1) := by decide +kernel
theorem dX4_clear_112 : decode cX4_clear 112 = .ok (.getfield 122, 3) := by decide +kernel
theorem dX4_clear_115 : decode cX4_clear 115 = .ok (.iconst 1, 1) := by decide +kernel
theorem dX4_clear_116 : decode cX4_clear 116 = .ok (.iadd, 1) := by decide +kernel
theorem dX4_clear_117 : decode cX4_clear 117 = .ok (.putfield 122, 3) := by decide +kernel
theorem dX4_clear_120 : decode cX4_clear 120 = .ok (.iinc 1 1, 3) := by decide +kernel
theorem dX4_clear_123 : decode cX4_clear 123 = .ok (.goto (-111), 3) := by decide +kernel
theorem dX4_clear_126 : decode cX4_clear 126 = .ok (.aload_n 0, 1) := by decide +kernel
theorem dX4_clear_127 : decode cX4_clear 127 = .ok (.getfield 129, 3) := by decide +kernel
theorem dX4_clear_130 : decode cX4_clear 130 = .ok (.istore_n 1, 1) := by decide +kernel
theorem dX4_clear_131 : decode cX4_clear 131 = .ok (.aload_n 0, 1) := by decide +kernel
theorem dX4_clear_132 : decode cX4_clear 132 = .ok (.iconst 0, 1) := by decide +kernel
theorem dX4_clear_133 : decode cX4_clear 133 = .ok (.putfield 129, 3) := by decide +kernel
theorem dX4_clear_136 : decode cX4_clear 136 = .ok (.iload_n 1, 1) := by decide +kernel
theorem dX4_clear_137 : decode cX4_clear 137 = .ok (.ireturn, 1) := by decide +kernel
set_option maxRecDepth 20000 in
theorem ggX4_settings_X4_within : GoodIn wsX4_settings wsX4_within := goodIn_r _ [9] (by decide +kernel) (by decide +kernel)
set_option maxRecDepth 20000 in
theorem gX4_settings_X4_within : GoodIn wsX4_settings (va_wsS RX4 97 yX4_within wsX4_within) := goodIn_app (goodIn_of _ (by decide +kernel)) ggX4_settings_X4_within
set_option maxRecDepth 20000 in
theorem ggX4_settings_X4_goes : GoodIn wsX4_settings wsX4_goes := goodIn_r _ [13, 14, 15, 16, 17, 18, 19, 20, 21, 22, 23, 24, 25, 26, 27, 28, 29, 30, 31, 32, 33, 34, 35, 36, 37, 38, 39, 40, 41, 42, 43, 44, 45, 46, 47, 48, 49] (by decide +kernel) (by decide +kernel)
set_option maxRecDepth 20000 in
theorem gX4_settings_X4_goes : GoodIn wsX4_settings (wsV RX4 101 RX4 yX4_goes wsX4_goes) := goodIn_app (goodIn_of _ (by decide +kernel)) ggX4_settings_X4_goes
theorem dX4_settings_0 : decode cX4_settings 0 = .ok (.aload_n 0, 1) := by decide +kernel
theorem dX4_settings_1 : decode cX4_settings 1 = .ok (.iload_n 1, 1) := by decide +kernel
theorem dX4_settings_2 : decode cX4_settings 2 = .ok (.iconst 1, 1) := by decide +kernel
theorem dX4_settings_3 : decode cX4_settings 3 = .ok (.if_icmp .lt 44, 3) := by decide +kernel
theorem dX4_settings_6 : decode cX4_settings 6 = .ok (.iload_n 1, 1) := by decide +kernel
theorem dX4_settings_7 : decode cX4_settings 7 = .ok (.bipush 16, 2) := by decide +kernel
theorem dX4_settings_9 : decode cX4_settings 9 = .ok (.if_icmp .gt 38, 3) := by decide +kernel
theorem dX4_settings_12 : decode cX4_settings 12 = .ok (.fload_n 2, 1) := by decide +kernel
theorem dX4_settings_13 : decode cX4_settings 13 = .ok (.fconst 0, 1) := by decide +kernel
theorem dX4_settings_14 : decode cX4_settings 14 = .ok (.fconst 1, 1) := by decide +kernel
theorem dX4_settings_15 : decode cX4_settings 15 = .ok (.invokestatic 97, 3) := by decide +kernel
theorem dX4_settings_18 : decode cX4_settings 18 = .ok (.ifCond .eq 29, 3) := by decide +kernel
theorem dX4_settings_21 : decode cX4_settings 21 = .ok (.fload_n 3, 1) := by decide +kernel
theorem dX4_settings_22 : decode cX4_settings 22 = .ok (.fconst 0, 1) := by decide +kernel
theorem dX4_settings_23 : decode cX4_settings 23 = .ok (.ldc 118, 2) := by decide +kernel
theorem dX4_settings_25 : decode cX4_settings 25 = .ok (.invokestatic 97, 3) := by decide +kernel
theorem dX4_settings_28 : decode cX4_settings 28 = .ok (.ifCond .eq 19, 3) := by decide +kernel
theorem dX4_settings_31 : decode cX4_settings 31 = .ok (.iload 4, 2) := by decide +kernel
theorem dX4_settings_33 : decode cX4_settings 33 = .ok (.ifCond .lt 14, 3) := by decide +kernel
theorem dX4_settings_36 : decode cX4_settings 36 = .ok (.iload 4, 2) := by decide +kernel
theorem dX4_settings_38 : decode cX4_settings 38 = .ok (.bipush 100, 2) := by decide +kernel
theorem dX4_settings_40 : decode cX4_settings 40 = .ok (.if_icmp .gt 7, 3) := by decide +kernel
theorem dX4_settings_43 : decode cX4_settings 43 = .ok (.iconst 1, 1) := by decide +kernel
theorem dX4_settings_44 : decode cX4_settings 44 = .ok (.goto 4, 3) := by decide +kernel
theorem dX4_settings_47 : decode cX4_settings 47 = .ok (.iconst 0, 1) := by decide +kernel
theorem dX4_settings_48 : decode cX4_settings 48 = .ok (.iconst 1, 1) := by decide +kernel
theorem dX4_settings_49 : decode cX4_settings 49 = .ok (.iconst 1, 1) := by decide +kernel
theorem dX4_settings_50 : decode cX4_settings 50 = .ok (.invokevirtual 101, 3) := by decide +kernel
theorem dX4_settings_53 : decode cX4_settings 53 = .ok (.ifCond .eq 24, 3) := by decide +kernel
theorem dX4_settings_56 : decode cX4_settings 56 = .ok (.aload_n 0, 1) := by decide +kernel
theorem dX4_settings_57 : decode cX4_settings 57 = .ok (.iload_n 1, 1) := by decide +kernel
theorem dX4_settings_58 : decode cX4_settings 58 = .ok (.putfield 66, 3) := by decide +kernel
theorem dX4_settings_61 : decode cX4_settings 61 = .ok (.aload_n 0, 1) := by decide +kernel
theorem dX4_settings_62 : decode cX4_settings 62 = .ok (.fload_n 2, 1) := by decide +kernel
theorem dX4_settings_63 : decode cX4_settings 63 = .ok (.putfield 70, 3) := by decide +kernel
theorem dX4_settings_66 : decode cX4_settings 66 = .ok (.aload_n 0, 1) := by decide +kernel
theorem dX4_settings_67 : decode cX4_settings 67 = .ok (.fload_n 3, 1) := by decide +kernel
theorem dX4_settings_68 : decode cX4_settings 68 = .ok (.putfield 75, 3) := by decide +kernel
theorem dX4_settings_71 : decode cX4_settings 71 = .ok (.aload_n 0, 1) := by decide +kernel
theorem dX4_settings_72 : decode cX4_settings 72 = .ok (.iload 4, 2) := by decide +kernel
theorem dX4_settings_74 : decode cX4_settings 74 = .ok (.putfield 151, 3) := by decide +kernel
theorem dX4_settings_77 : decode cX4_settings 77 = .ok (.return_, 1) := by decide +kernel
set_option maxRecDepth 20000 in
theorem ggX4_workers_X4_goes : GoodIn wsX4_workers wsX4_goes := goodIn_r _ [6, 7, 8, 9, 10, 11, 12, 13, 14, 15, 16, 17, 18, 19, 20, 21, 22, 23, 24, 25, 26, 27, 28, 29, 30, 31, 32, 33, 34, 35, 36, 37, 38, 39, 40, 41, 42] (by decide +kernel) (by decide +kernel)
set_option maxRecDepth 20000 in
theorem gX4_workers_X4_goes : GoodIn wsX4_workers (wsV RX4 101 RX4 yX4_goes wsX4_goes) := goodIn_app (goodIn_of _ (by decide +kernel)) ggX4_workers_X4_goes
theorem dX4_workers_0 : decode cX4_workers 0 = .ok (.aload_n 0, 1) := by decide +kernel
theorem dX4_workers_1 : decode cX4_workers 1 = .ok (.iload_n 1, 1) := by decide +kernel
theorem dX4_workers_2 : decode cX4_workers 2 = .ok (.iconst 1, 1) := by decide +kernel
theorem dX4_workers_3 : decode cX4_workers 3 = .ok (.if_icmp .lt 13, 3) := by decide +kernel
theorem dX4_workers_6 : decode cX4_workers 6 = .ok (.iload_n 1, 1) := by decide +kernel
theorem dX4_workers_7 : decode cX4_workers 7 = .ok (.bipush 8, 2) := by decide +kernel
theorem dX4_workers_9 : decode cX4_workers 9 = .ok (.if_icmp .gt 7, 3) := by decide +kernel
theorem dX4_workers_12 : decode cX4_workers 12 = .ok (.iconst 1, 1) := by decide +kernel
theorem dX4_workers_13 : decode cX4_workers 13 = .ok (.goto 4, 3) := by decide +kernel
theorem dX4_workers_16 : decode cX4_workers 16 = .ok (.iconst 0, 1) := by decide +kernel
theorem dX4_workers_17 : decode cX4_workers 17 = .ok (.iconst 1, 1) := by decide +kernel
theorem dX4_workers_18 : decode cX4_workers 18 = .ok (.iconst 1, 1) := by decide +kernel
theorem dX4_workers_19 : decode cX4_workers 19 = .ok (.invokevirtual 101, 3) := by decide +kernel
theorem dX4_workers_22 : decode cX4_workers 22 = .ok (.ifCond .ne 5, 3) := by decide +kernel
theorem dX4_workers_25 : decode cX4_workers 25 = .ok (.iconst 0, 1) := by decide +kernel
theorem dX4_workers_26 : decode cX4_workers 26 = .ok (.ireturn, 1) := by decide +kernel
theorem dX4_workers_27 : decode cX4_workers 27 = .ok (.aload_n 0, 1) := by decide +kernel
theorem dX4_workers_28 : decode cX4_workers 28 = .ok (.getfield 78, 3) := by decide +kernel
theorem dX4_workers_31 : decode cX4_workers 31 = .ok (.istore_n 2, 1) := by decide +kernel
theorem dX4_workers_32 : decode cX4_workers 32 = .ok (.aload_n 0, 1) := by decide +kernel
theorem dX4_workers_33 : decode cX4_workers 33 = .ok (.iload_n 1, 1) := by decide +kernel
theorem dX4_workers_34 : decode cX4_workers 34 = .ok (.putfield 78, 3) := by decide +kernel
theorem dX4_workers_37 : decode cX4_workers 37 = .ok (.iload_n 2, 1) := by decide +kernel
theorem dX4_workers_38 : decode cX4_workers 38 = .ok (.ireturn, 1) := by decide +kernel
theorem dX4_along_0 : decode cX4_along 0 = .ok (.bipush 9, 2) := by decide +kernel
theorem dX4_along_2 : decode cX4_along 2 = .ok (.iload_n 1, 1) := by decide +kernel
theorem dX4_along_3 : decode cX4_along 3 = .ok (.imul, 1) := by decide +kernel
theorem dX4_along_4 : decode cX4_along 4 = .ok (.iload_n 2, 1) := by decide +kernel
theorem dX4_along_5 : decode cX4_along 5 = .ok (.iadd, 1) := by decide +kernel
theorem dX4_along_6 : decode cX4_along 6 = .ok (.istore 5, 2) := by decide +kernel
theorem dX4_along_8 : decode cX4_along 8 = .ok (.bipush 13, 2) := by decide +kernel
theorem dX4_along_10 : decode cX4_along 10 = .ok (.iload_n 3, 1) := by decide +kernel
theorem dX4_along_11 : decode cX4_along 11 = .ok (.imul, 1) := by decide +kernel
theorem dX4_along_12 : decode cX4_along 12 = .ok (.iload 4, 2) := by decide +kernel
theorem dX4_along_14 : decode cX4_along 14 = .ok (.iadd, 1) := by decide +kernel
theorem dX4_along_15 : decode cX4_along 15 = .ok (.istore 6, 2) := by decide +kernel
theorem dX4_along_17 : decode cX4_along 17 = .ok (.aload_n 0, 1) := by decide +kernel
theorem dX4_along_18 : decode cX4_along 18 = .ok (.getfield 30, 3) := by decide +kernel
theorem dX4_along_21 : decode cX4_along 21 = .ok (.iload 5, 2) := by decide +kernel
theorem dX4_along_23 : decode cX4_along 23 = .ok (.faload, 1) := by decide +kernel
theorem dX4_along_24 : decode cX4_along 24 = .ok (.aload_n 0, 1) := by decide +kernel
theorem dX4_along_25 : decode cX4_along 25 = .ok (.getfield 7, 3) := by decide +kernel
theorem dX4_along_28 : decode cX4_along 28 = .ok (.iload 6, 2) := by decide +kernel
theorem dX4_along_30 : decode cX4_along 30 = .ok (.faload, 1) := by decide +kernel
theorem dX4_along_31 : decode cX4_along 31 = .ok (.fmul, 1) := by decide +kernel
theorem dX4_along_32 : decode cX4_along 32 = .ok (.aload_n 0, 1) := by decide +kernel
theorem dX4_along_33 : decode cX4_along 33 = .ok (.getfield 30, 3) := by decide +kernel
theorem dX4_along_36 : decode cX4_along 36 = .ok (.iload 5, 2) := by decide +kernel
theorem dX4_along_38 : decode cX4_along 38 = .ok (.iconst 1, 1) := by decide +kernel
theorem dX4_along_39 : decode cX4_along 39 = .ok (.iadd, 1) := by decide +kernel
theorem dX4_along_40 : decode cX4_along 40 = .ok (.faload, 1) := by decide +kernel
theorem dX4_along_41 : decode cX4_along 41 = .ok (.aload_n 0, 1) := by decide +kernel
theorem dX4_along_42 : decode cX4_along 42 = .ok (.getfield 7, 3) := by decide +kernel
theorem dX4_along_45 : decode cX4_along 45 = .ok (.iload 6, 2) := by decide +kernel
theorem dX4_along_47 : decode cX4_along 47 = .ok (.iconst 1, 1) := by decide +kernel
theorem dX4_along_48 : decode cX4_along 48 = .ok (.iadd, 1) := by decide +kernel
theorem dX4_along_49 : decode cX4_along 49 = .ok (.faload, 1) := by decide +kernel
theorem dX4_along_50 : decode cX4_along 50 = .ok (.fmul, 1) := by decide +kernel
theorem dX4_along_51 : decode cX4_along 51 = .ok (.fadd, 1) := by decide +kernel
theorem dX4_along_52 : decode cX4_along 52 = .ok (.aload_n 0, 1) := by decide +kernel
theorem dX4_along_53 : decode cX4_along 53 = .ok (.getfield 30, 3) := by decide +kernel
theorem dX4_along_56 : decode cX4_along 56 = .ok (.iload 5, 2) := by decide +kernel
theorem dX4_along_58 : decode cX4_along 58 = .ok (.iconst 2, 1) := by decide +kernel
theorem dX4_along_59 : decode cX4_along 59 = .ok (.iadd, 1) := by decide +kernel
theorem dX4_along_60 : decode cX4_along 60 = .ok (.faload, 1) := by decide +kernel
theorem dX4_along_61 : decode cX4_along 61 = .ok (.aload_n 0, 1) := by decide +kernel
theorem dX4_along_62 : decode cX4_along 62 = .ok (.getfield 7, 3) := by decide +kernel
theorem dX4_along_65 : decode cX4_along 65 = .ok (.iload 6, 2) := by decide +kernel
theorem dX4_along_67 : decode cX4_along 67 = .ok (.iconst 2, 1) := by decide +kernel
theorem dX4_along_68 : decode cX4_along 68 = .ok (.iadd, 1) := by decide +kernel
theorem dX4_along_69 : decode cX4_along 69 = .ok (.faload, 1) := by decide +kernel
theorem dX4_along_70 : decode cX4_along 70 = .ok (.fmul, 1) := by decide +kernel
theorem dX4_along_71 : decode cX4_along 71 = .ok (.fadd, 1) := by decide +kernel
theorem dX4_along_72 : decode cX4_along 72 = .ok (.freturn, 1) := by decide +kernel
set_option maxRecDepth 20000 in
theorem ggX4_speed_X4_along : GoodIn wsX4_speed wsX4_along := goodIn_r _ [7, 8, 9, 10, 11, 12, 13, 14, 15, 16, 17, 18, 19, 20, 21, 22, 23, 24, 25, 26, 27, 28, 29, 30, 31, 32, 33, 34, 35, 36, 37, 38, 39, 40, 41, 42, 43, 44] (by decide +kernel) (by decide +kernel)
set_option maxRecDepth 20000 in
theorem gX4_speed_X4_along : GoodIn wsX4_speed (wsV RX4 154 RX4 yX4_along wsX4_along) := goodIn_app (goodIn_of _ (by decide +kernel)) ggX4_speed_X4_along
theorem dX4_speed_0 : decode cX4_speed 0 = .ok (.aload_n 0, 1) := by decide +kernel
theorem dX4_speed_1 : decode cX4_speed 1 = .ok (.getfield 24, 3) := by decide +kernel
theorem dX4_speed_4 : decode cX4_speed 4 = .ok (.iload_n 1, 1) := by decide +kernel
theorem dX4_speed_5 : decode cX4_speed 5 = .ok (.iaload, 1) := by decide +kernel
theorem dX4_speed_6 : decode cX4_speed 6 = .ok (.istore_n 2, 1) := by decide +kernel
theorem dX4_speed_7 : decode cX4_speed 7 = .ok (.aload_n 0, 1) := by decide +kernel
theorem dX4_speed_8 : decode cX4_speed 8 = .ok (.getfield 27, 3) := by decide +kernel
theorem dX4_speed_11 : decode cX4_speed 11 = .ok (.iload_n 1, 1) := by decide +kernel
theorem dX4_speed_12 : decode cX4_speed 12 = .ok (.iaload, 1) := by decide +kernel
theorem dX4_speed_13 : decode cX4_speed 13 = .ok (.istore_n 3, 1) := by decide +kernel
theorem dX4_speed_14 : decode cX4_speed 14 = .ok (.aload_n 0, 1) := by decide +kernel
theorem dX4_speed_15 : decode cX4_speed 15 = .ok (.iload_n 1, 1) := by decide +kernel
theorem dX4_speed_16 : decode cX4_speed 16 = .ok (.iconst 0, 1) := by decide +kernel
theorem dX4_speed_17 : decode cX4_speed 17 = .ok (.iload_n 2, 1) := by decide +kernel
theorem dX4_speed_18 : decode cX4_speed 18 = .ok (.iconst 0, 1) := by decide +kernel
theorem dX4_speed_19 : decode cX4_speed 19 = .ok (.invokevirtual 154, 3) := by decide +kernel
theorem dX4_speed_22 : decode cX4_speed 22 = .ok (.aload_n 0, 1) := by decide +kernel
theorem dX4_speed_23 : decode cX4_speed 23 = .ok (.iload_n 1, 1) := by decide +kernel
theorem dX4_speed_24 : decode cX4_speed 24 = .ok (.iconst 3, 1) := by decide +kernel
theorem dX4_speed_25 : decode cX4_speed 25 = .ok (.iload_n 2, 1) := by decide +kernel
theorem dX4_speed_26 : decode cX4_speed 26 = .ok (.iconst 3, 1) := by decide +kernel
theorem dX4_speed_27 : decode cX4_speed 27 = .ok (.invokevirtual 154, 3) := by decide +kernel
theorem dX4_speed_30 : decode cX4_speed 30 = .ok (.fadd, 1) := by decide +kernel
theorem dX4_speed_31 : decode cX4_speed 31 = .ok (.fstore 4, 2) := by decide +kernel
theorem dX4_speed_33 : decode cX4_speed 33 = .ok (.iload_n 3, 1) := by decide +kernel
theorem dX4_speed_34 : decode cX4_speed 34 = .ok (.ifCond .ge 12, 3) := by decide +kernel
theorem dX4_speed_37 : decode cX4_speed 37 = .ok (.fload 4, 2) := by decide +kernel
theorem dX4_speed_39 : decode cX4_speed 39 = .ok (.fconst 0, 1) := by decide +kernel
theorem dX4_speed_40 : decode cX4_speed 40 = .ok (.fsub, 1) := by decide +kernel
theorem dX4_speed_41 : decode cX4_speed 41 = .ok (.fconst 0, 1) := by decide +kernel
theorem dX4_speed_42 : decode cX4_speed 42 = .ok (.fsub, 1) := by decide +kernel
theorem dX4_speed_43 : decode cX4_speed 43 = .ok (.goto 24, 3) := by decide +kernel
theorem dX4_speed_46 : decode cX4_speed 46 = .ok (.fload 4, 2) := by decide +kernel
theorem dX4_speed_48 : decode cX4_speed 48 = .ok (.aload_n 0, 1) := by decide +kernel
theorem dX4_speed_49 : decode cX4_speed 49 = .ok (.iload_n 1, 1) := by decide +kernel
theorem dX4_speed_50 : decode cX4_speed 50 = .ok (.iconst 0, 1) := by decide +kernel
theorem dX4_speed_51 : decode cX4_speed 51 = .ok (.iload_n 3, 1) := by decide +kernel
theorem dX4_speed_52 : decode cX4_speed 52 = .ok (.iconst 0, 1) := by decide +kernel
theorem dX4_speed_53 : decode cX4_speed 53 = .ok (.invokevirtual 154, 3) := by decide +kernel
theorem dX4_speed_56 : decode cX4_speed 56 = .ok (.fsub, 1) := by decide +kernel
theorem dX4_speed_57 : decode cX4_speed 57 = .ok (.aload_n 0, 1) := by decide +kernel
theorem dX4_speed_58 : decode cX4_speed 58 = .ok (.iload_n 1, 1) := by decide +kernel
theorem dX4_speed_59 : decode cX4_speed 59 = .ok (.bipush 6, 2) := by decide +kernel
theorem dX4_speed_61 : decode cX4_speed 61 = .ok (.iload_n 3, 1) := by decide +kernel
theorem dX4_speed_62 : decode cX4_speed 62 = .ok (.iconst 3, 1) := by decide +kernel
theorem dX4_speed_63 : decode cX4_speed 63 = .ok (.invokevirtual 154, 3) := by decide +kernel
theorem dX4_speed_66 : decode cX4_speed 66 = .ok (.fsub, 1) := by decide +kernel
theorem dX4_speed_67 : decode cX4_speed 67 = .ok (.freturn, 1) := by decide +kernel
set_option maxRecDepth 20000 in
theorem ggX4_turn_X4_movable : GoodIn wsX4_turn wsX4_movable := goodIn_r _ [10, 2, 11, 12, 13, 14, 15, 16, 17, 18, 19, 20, 21, 22, 23, 24, 25, 26, 27, 28, 29, 30, 31, 32, 33, 34, 35, 36, 37, 38, 39, 40, 41, 42, 43, 44, 45] (by decide +kernel) (by decide +kernel)
set_option maxRecDepth 20000 in
theorem gX4_turn_X4_movable : GoodIn wsX4_turn (wsV RX4 119 RX4 yX4_movable wsX4_movable) := goodIn_app (goodIn_of _ (by decide +kernel)) ggX4_turn_X4_movable
theorem dX4_turn_0 : decode cX4_turn 0 = .ok (.aload_n 0, 1) := by decide +kernel
theorem dX4_turn_1 : decode cX4_turn 1 = .ok (.getfield 30, 3) := by decide +kernel
theorem dX4_turn_4 : decode cX4_turn 4 = .ok (.bipush 9, 2) := by decide +kernel
theorem dX4_turn_6 : decode cX4_turn 6 = .ok (.iload_n 1, 1) := by decide +kernel
theorem dX4_turn_7 : decode cX4_turn 7 = .ok (.imul, 1) := by decide +kernel
theorem dX4_turn_8 : decode cX4_turn 8 = .ok (.iload_n 2, 1) := by decide +kernel
theorem dX4_turn_9 : decode cX4_turn 9 = .ok (.iadd, 1) := by decide +kernel
theorem dX4_turn_10 : decode cX4_turn 10 = .ok (.faload, 1) := by decide +kernel
theorem dX4_turn_11 : decode cX4_turn 11 = .ok (.fstore 4, 2) := by decide +kernel
theorem dX4_turn_13 : decode cX4_turn 13 = .ok (.aload_n 0, 1) := by decide +kernel
theorem dX4_turn_14 : decode cX4_turn 14 = .ok (.getfield 30, 3) := by decide +kernel
theorem dX4_turn_17 : decode cX4_turn 17 = .ok (.bipush 9, 2) := by decide +kernel
theorem dX4_turn_19 : decode cX4_turn 19 = .ok (.iload_n 1, 1) := by decide +kernel
theorem dX4_turn_20 : decode cX4_turn 20 = .ok (.imul, 1) := by decide +kernel
theorem dX4_turn_21 : decode cX4_turn 21 = .ok (.iload_n 2, 1) := by decide +kernel
theorem dX4_turn_22 : decode cX4_turn 22 = .ok (.iadd, 1) := by decide +kernel
theorem dX4_turn_23 : decode cX4_turn 23 = .ok (.iconst 1, 1) := by decide +kernel
theorem dX4_turn_24 : decode cX4_turn 24 = .ok (.iadd, 1) := by decide +kernel
theorem dX4_turn_25 : decode cX4_turn 25 = .ok (.faload, 1) := by decide +kernel
theorem dX4_turn_26 : decode cX4_turn 26 = .ok (.fstore 5, 2) := by decide +kernel
theorem dX4_turn_28 : decode cX4_turn 28 = .ok (.aload_n 0, 1) := by decide +kernel
theorem dX4_turn_29 : decode cX4_turn 29 = .ok (.getfield 30, 3) := by decide +kernel
theorem dX4_turn_32 : decode cX4_turn 32 = .ok (.bipush 9, 2) := by decide +kernel
theorem dX4_turn_34 : decode cX4_turn 34 = .ok (.iload_n 1, 1) := by decide +kernel
theorem dX4_turn_35 : decode cX4_turn 35 = .ok (.imul, 1) := by decide +kernel
theorem dX4_turn_36 : decode cX4_turn 36 = .ok (.iload_n 2, 1) := by decide +kernel
theorem dX4_turn_37 : decode cX4_turn 37 = .ok (.iadd, 1) := by decide +kernel
theorem dX4_turn_38 : decode cX4_turn 38 = .ok (.iconst 2, 1) := by decide +kernel
theorem dX4_turn_39 : decode cX4_turn 39 = .ok (.iadd, 1) := by decide +kernel
theorem dX4_turn_40 : decode cX4_turn 40 = .ok (.faload, 1) := by decide +kernel
theorem dX4_turn_41 : decode cX4_turn 41 = .ok (.fstore 6, 2) := by decide +kernel
theorem dX4_turn_43 : decode cX4_turn 43 = .ok (.bipush 13, 2) := by decide +kernel
theorem dX4_turn_45 : decode cX4_turn 45 = .ok (.iload_n 3, 1) := by decide +kernel
theorem dX4_turn_46 : decode cX4_turn 46 = .ok (.imul, 1) := by decide +kernel
theorem dX4_turn_47 : decode cX4_turn 47 = .ok (.istore 7, 2) := by decide +kernel
theorem dX4_turn_49 : decode cX4_turn 49 = .ok (.aload_n 0, 1) := by decide +kernel
theorem dX4_turn_50 : decode cX4_turn 50 = .ok (.iload_n 3, 1) := by decide +kernel
theorem dX4_turn_51 : decode cX4_turn 51 = .ok (.invokevirtual 119, 3) := by decide +kernel
theorem dX4_turn_54 : decode cX4_turn 54 = .ok (.istore 8, 2) := by decide +kernel
theorem dX4_turn_56 : decode cX4_turn 56 = .ok (.aload_n 0, 1) := by decide +kernel
theorem dX4_turn_57 : decode cX4_turn 57 = .ok (.iload 8, 2) := by decide +kernel
theorem dX4_turn_59 : decode cX4_turn 59 = .ok (.ifCond .eq 47, 3) := by decide +kernel
theorem dX4_turn_62 : decode cX4_turn 62 = .ok (.aload_n 0, 1) := by decide +kernel
theorem dX4_turn_63 : decode cX4_turn 63 = .ok (.getfield 7, 3) := by decide +kernel
theorem dX4_turn_66 : decode cX4_turn 66 = .ok (.iload 7, 2) := by decide +kernel
theorem dX4_turn_68 : decode cX4_turn 68 = .ok (.bipush 7, 2) := by decide +kernel
theorem dX4_turn_70 : decode cX4_turn 70 = .ok (.iadd, 1) := by decide +kernel
theorem dX4_turn_71 : decode cX4_turn 71 = .ok (.faload, 1) := by decide +kernel
theorem dX4_turn_72 : decode cX4_turn 72 = .ok (.fload 4, 2) := by decide +kernel
theorem dX4_turn_74 : decode cX4_turn 74 = .ok (.fmul, 1) := by decide +kernel
theorem dX4_turn_75 : decode cX4_turn 75 = .ok (.aload_n 0, 1) := by decide +kernel
theorem dX4_turn_76 : decode cX4_turn 76 = .ok (.getfield 7, 3) := by decide +kernel
theorem dX4_turn_79 : decode cX4_turn 79 = .ok (.iload 7, 2) := by decide +kernel
theorem dX4_turn_81 : decode cX4_turn 81 = .ok (.bipush 10, 2) := by decide +kernel
theorem dX4_turn_83 : decode cX4_turn 83 = .ok (.iadd, 1) := by decide +kernel
theorem dX4_turn_84 : decode cX4_turn 84 = .ok (.faload, 1) := by decide +kernel
theorem dX4_turn_85 : decode cX4_turn 85 = .ok (.fload 5, 2) := by decide +kernel
theorem dX4_turn_87 : decode cX4_turn 87 = .ok (.fmul, 1) := by decide +kernel
theorem dX4_turn_88 : decode cX4_turn 88 = .ok (.fadd, 1) := by decide +kernel
theorem dX4_turn_89 : decode cX4_turn 89 = .ok (.aload_n 0, 1) := by decide +kernel
theorem dX4_turn_90 : decode cX4_turn 90 = .ok (.getfield 7, 3) := by decide +kernel
theorem dX4_turn_93 : decode cX4_turn 93 = .ok (.iload 7, 2) := by decide +kernel
theorem dX4_turn_95 : decode cX4_turn 95 = .ok (.bipush 12, 2) := by decide +kernel
theorem dX4_turn_97 : decode cX4_turn 97 = .ok (.iadd, 1) := by decide +kernel
theorem dX4_turn_98 : decode cX4_turn 98 = .ok (.faload, 1) := by decide +kernel
theorem dX4_turn_99 : decode cX4_turn 99 = .ok (.fload 6, 2) := by decide +kernel
theorem dX4_turn_101 : decode cX4_turn 101 = .ok (.fmul, 1) := by decide +kernel
theorem dX4_turn_102 : decode cX4_turn 102 = .ok (.fadd, 1) := by decide +kernel
theorem dX4_turn_103 : decode cX4_turn 103 = .ok (.goto 4, 3) := by decide +kernel
theorem dX4_turn_106 : decode cX4_turn 106 = .ok (.fconst 0, 1) := by decide +kernel
theorem dX4_turn_107 : decode cX4_turn 107 = .ok (.putfield 158, 3) := by decide +kernel
theorem dX4_turn_110 : decode cX4_turn 110 = .ok (.aload_n 0, 1) := by decide +kernel
theorem dX4_turn_111 : decode cX4_turn 111 = .ok (.iload 8, 2) := by decide +kernel
theorem dX4_turn_113 : decode cX4_turn 113 = .ok (.ifCond .eq 47, 3) := by decide +kernel
theorem dX4_turn_116 : decode cX4_turn 116 = .ok (.aload_n 0, 1) := by decide +kernel
theorem dX4_turn_117 : decode cX4_turn 117 = .ok (.getfield 7, 3) := by decide +kernel
theorem dX4_turn_120 : decode cX4_turn 120 = .ok (.iload 7, 2) := by decide +kernel
theorem dX4_turn_122 : decode cX4_turn 122 = .ok (.bipush 10, 2) := by decide +kernel
theorem dX4_turn_124 : decode cX4_turn 124 = .ok (.iadd, 1) := by decide +kernel
theorem dX4_turn_125 : decode cX4_turn 125 = .ok (.faload, 1) := by decide +kernel
theorem dX4_turn_126 : decode cX4_turn 126 = .ok (.fload 4, 2) := by decide +kernel
theorem dX4_turn_128 : decode cX4_turn 128 = .ok (.fmul, 1) := by decide +kernel
theorem dX4_turn_129 : decode cX4_turn 129 = .ok (.aload_n 0, 1) := by decide +kernel
theorem dX4_turn_130 : decode cX4_turn 130 = .ok (.getfield 7, 3) := by decide +kernel
theorem dX4_turn_133 : decode cX4_turn 133 = .ok (.iload 7, 2) := by decide +kernel
theorem dX4_turn_135 : decode cX4_turn 135 = .ok (.bipush 8, 2) := by decide +kernel
theorem dX4_turn_137 : decode cX4_turn 137 = .ok (.iadd, 1) := by decide +kernel
theorem dX4_turn_138 : decode cX4_turn 138 = .ok (.faload, 1) := by decide +kernel
theorem dX4_turn_139 : decode cX4_turn 139 = .ok (.fload 5, 2) := by decide +kernel
theorem dX4_turn_141 : decode cX4_turn 141 = .ok (.fmul, 1) := by decide +kernel
theorem dX4_turn_142 : decode cX4_turn 142 = .ok (.fadd, 1) := by decide +kernel
theorem dX4_turn_143 : decode cX4_turn 143 = .ok (.aload_n 0, 1) := by decide +kernel
theorem dX4_turn_144 : decode cX4_turn 144 = .ok (.getfield 7, 3) := by decide +kernel
theorem dX4_turn_147 : decode cX4_turn 147 = .ok (.iload 7, 2) := by decide +kernel
theorem dX4_turn_149 : decode cX4_turn 149 = .ok (.bipush 11, 2) := by decide +kernel
theorem dX4_turn_151 : decode cX4_turn 151 = .ok (.iadd, 1) := by decide +kernel
theorem dX4_turn_152 : decode cX4_turn 152 = .ok (.faload, 1) := by decide +kernel
theorem dX4_turn_153 : decode cX4_turn 153 = .ok (.fload 6, 2) := by decide +kernel
theorem dX4_turn_155 : decode cX4_turn 155 = .ok (.fmul, 1) := by decide +kernel
theorem dX4_turn_156 : decode cX4_turn 156 = .ok (.fadd, 1) := by decide +kernel
theorem dX4_turn_157 : decode cX4_turn 157 = .ok (.goto 4, 3) := by decide +kernel
theorem dX4_turn_160 : decode cX4_turn 160 = .ok (.fconst 0, 1) := by decide +kernel
theorem dX4_turn_161 : decode cX4_turn 161 = .ok (.putfield 161, 3) := by decide +kernel
theorem dX4_turn_164 : decode cX4_turn 164 = .ok (.aload_n 0, 1) := by decide +kernel
theorem dX4_turn_165 : decode cX4_turn 165 = .ok (.iload 8, 2) := by decide +kernel
theorem dX4_turn_167 : decode cX4_turn 167 = .ok (.ifCond .eq 47, 3) := by decide +kernel
theorem dX4_turn_170 : decode cX4_turn 170 = .ok (.aload_n 0, 1) := by decide +kernel
theorem dX4_turn_171 : decode cX4_turn 171 = .ok (.getfield 7, 3) := by decide +kernel
theorem dX4_turn_174 : decode cX4_turn 174 = .ok (.iload 7, 2) := by decide +kernel
theorem dX4_turn_176 : decode cX4_turn 176 = .ok (.bipush 12, 2) := by decide +kernel
theorem dX4_turn_178 : decode cX4_turn 178 = .ok (.iadd, 1) := by decide +kernel
theorem dX4_turn_179 : decode cX4_turn 179 = .ok (.faload, 1) := by decide +kernel
theorem dX4_turn_180 : decode cX4_turn 180 = .ok (.fload 4, 2) := by decide +kernel
theorem dX4_turn_182 : decode cX4_turn 182 = .ok (.fmul, 1) := by decide +kernel
theorem dX4_turn_183 : decode cX4_turn 183 = .ok (.aload_n 0, 1) := by decide +kernel
theorem dX4_turn_184 : decode cX4_turn 184 = .ok (.getfield 7, 3) := by decide +kernel
theorem dX4_turn_187 : decode cX4_turn 187 = .ok (.iload 7, 2) := by decide +kernel
theorem dX4_turn_189 : decode cX4_turn 189 = .ok (.bipush 11, 2) := by decide +kernel
theorem dX4_turn_191 : decode cX4_turn 191 = .ok (.iadd, 1) := by decide +kernel
theorem dX4_turn_192 : decode cX4_turn 192 = .ok (.faload, 1) := by decide +kernel
theorem dX4_turn_193 : decode cX4_turn 193 = .ok (.fload 5, 2) := by decide +kernel
theorem dX4_turn_195 : decode cX4_turn 195 = .ok (.fmul, 1) := by decide +kernel
theorem dX4_turn_196 : decode cX4_turn 196 = .ok (.fadd, 1) := by decide +kernel
theorem dX4_turn_197 : decode cX4_turn 197 = .ok (.aload_n 0, 1) := by decide +kernel
theorem dX4_turn_198 : decode cX4_turn 198 = .ok (.getfield 7, 3) := by decide +kernel
theorem dX4_turn_201 : decode cX4_turn 201 = .ok (.iload 7, 2) := by decide +kernel
theorem dX4_turn_203 : decode cX4_turn 203 = .ok (.bipush 9, 2) := by decide +kernel
theorem dX4_turn_205 : decode cX4_turn 205 = .ok (.iadd, 1) := by decide +kernel
theorem dX4_turn_206 : decode cX4_turn 206 = .ok (.faload, 1) := by decide +kernel
theorem dX4_turn_207 : decode cX4_turn 207 = .ok (.fload 6, 2) := by decide +kernel
theorem dX4_turn_209 : decode cX4_turn 209 = .ok (.fmul, 1) := by decide +kernel
theorem dX4_turn_210 : decode cX4_turn 210 = .ok (.fadd, 1) := by decide +kernel
theorem dX4_turn_211 : decode cX4_turn 211 = .ok (.goto 4, 3) := by decide +kernel
theorem dX4_turn_214 : decode cX4_turn 214 = .ok (.fconst 0, 1) := by decide +kernel
theorem dX4_turn_215 : decode cX4_turn 215 = .ok (.putfield 164, 3) := by decide +kernel
theorem dX4_turn_218 : decode cX4_turn 218 = .ok (.return_, 1) := by decide +kernel
set_option maxRecDepth 20000 in
theorem ggX4_weight_X4_movable : GoodIn wsX4_weight wsX4_movable := goodIn_r _ [6, 1, 7, 8, 9, 10, 11, 12, 13, 14, 15, 16, 17, 18, 19, 20, 21, 22, 23, 24, 25, 26, 27, 28, 29, 30, 31, 32, 33, 34, 35, 36, 37, 38, 39, 40, 41] (by decide +kernel) (by decide +kernel)
set_option maxRecDepth 20000 in
theorem gX4_weight_X4_movable : GoodIn wsX4_weight (wsV RX4 119 RX4 yX4_movable wsX4_movable) := goodIn_app (goodIn_of _ (by decide +kernel)) ggX4_weight_X4_movable
theorem dX4_weight_0 : decode cX4_weight 0 = .ok (.aload_n 0, 1) := by decide +kernel
theorem dX4_weight_1 : decode cX4_weight 1 = .ok (.iload_n 1, 1) := by decide +kernel
theorem dX4_weight_2 : decode cX4_weight 2 = .ok (.invokevirtual 119, 3) := by decide +kernel
theorem dX4_weight_5 : decode cX4_weight 5 = .ok (.ifCond .eq 18, 3) := by decide +kernel
theorem dX4_weight_8 : decode cX4_weight 8 = .ok (.aload_n 0, 1) := by decide +kernel
theorem dX4_weight_9 : decode cX4_weight 9 = .ok (.getfield 7, 3) := by decide +kernel
theorem dX4_weight_12 : decode cX4_weight 12 = .ok (.bipush 13, 2) := by decide +kernel
theorem dX4_weight_14 : decode cX4_weight 14 = .ok (.iload_n 1, 1) := by decide +kernel
theorem dX4_weight_15 : decode cX4_weight 15 = .ok (.imul, 1) := by decide +kernel
theorem dX4_weight_16 : decode cX4_weight 16 = .ok (.bipush 6, 2) := by decide +kernel
theorem dX4_weight_18 : decode cX4_weight 18 = .ok (.iadd, 1) := by decide +kernel
theorem dX4_weight_19 : decode cX4_weight 19 = .ok (.faload, 1) := by decide +kernel
theorem dX4_weight_20 : decode cX4_weight 20 = .ok (.goto 4, 3) := by decide +kernel
theorem dX4_weight_23 : decode cX4_weight 23 = .ok (.fconst 0, 1) := by decide +kernel
theorem dX4_weight_24 : decode cX4_weight 24 = .ok (.freturn, 1) := by decide +kernel
set_option maxRecDepth 20000 in
theorem ggX4_stiffness_X4_turn : GoodIn wsX4_stiffness wsX4_turn := goodIn_r _ [12, 1, 13, 3, 4, 5, 14, 15, 16, 11, 17, 22, 23, 24, 25, 26, 27, 28, 29, 30, 31, 32, 33, 34, 35, 36, 37, 38, 39, 40, 41, 42, 43, 44, 45, 46, 47, 48, 49, 50, 51, 52, 53, 54, 55, 56] (by decide +kernel) (by decide +kernel)
set_option maxRecDepth 20000 in
theorem gX4_stiffness_X4_turn : GoodIn wsX4_stiffness (wsV RX4 167 RX4 yX4_turn wsX4_turn) := goodIn_app (goodIn_of _ (by decide +kernel)) ggX4_stiffness_X4_turn
set_option maxRecDepth 20000 in
theorem ggX4_stiffness_X4_weight : GoodIn wsX4_stiffness wsX4_weight := goodIn_r _ [21, 13, 14, 15, 16, 11, 17, 22, 23, 24, 25, 26, 27, 28, 29, 30, 31, 32, 33, 34, 35, 36, 37, 38, 39, 40, 41, 42, 43, 44, 45, 46, 47, 48, 49, 50, 51, 52, 53, 54, 55, 56] (by decide +kernel) (by decide +kernel)
set_option maxRecDepth 20000 in
theorem gX4_stiffness_X4_weight : GoodIn wsX4_stiffness (wsV RX4 171 RX4 yX4_weight wsX4_weight) := goodIn_app (goodIn_of _ (by decide +kernel)) ggX4_stiffness_X4_weight
theorem dX4_stiffness_0 : decode cX4_stiffness 0 = .ok (.bipush 9, 2) := by decide +kernel
theorem dX4_stiffness_2 : decode cX4_stiffness 2 = .ok (.iload_n 1, 1) := by decide +kernel
theorem dX4_stiffness_3 : decode cX4_stiffness 3 = .ok (.imul, 1) := by decide +kernel
theorem dX4_stiffness_4 : decode cX4_stiffness 4 = .ok (.istore_n 2, 1) := by decide +kernel
theorem dX4_stiffness_5 : decode cX4_stiffness 5 = .ok (.aload_n 0, 1) := by decide +kernel
theorem dX4_stiffness_6 : decode cX4_stiffness 6 = .ok (.getfield 30, 3) := by decide +kernel
theorem dX4_stiffness_9 : decode cX4_stiffness 9 = .ok (.iload_n 2, 1) := by decide +kernel
theorem dX4_stiffness_10 : decode cX4_stiffness 10 = .ok (.faload, 1) := by decide +kernel
theorem dX4_stiffness_11 : decode cX4_stiffness 11 = .ok (.aload_n 0, 1) := by decide +kernel
theorem dX4_stiffness_12 : decode cX4_stiffness 12 = .ok (.getfield 30, 3) := by decide +kernel
theorem dX4_stiffness_15 : decode cX4_stiffness 15 = .ok (.iload_n 2, 1) := by decide +kernel
theorem dX4_stiffness_16 : decode cX4_stiffness 16 = .ok (.faload, 1) := by decide +kernel
theorem dX4_stiffness_17 : decode cX4_stiffness 17 = .ok (.fmul, 1) := by decide +kernel
theorem dX4_stiffness_18 : decode cX4_stiffness 18 = .ok (.aload_n 0, 1) := by decide +kernel
theorem dX4_stiffness_19 : decode cX4_stiffness 19 = .ok (.getfield 30, 3) := by decide +kernel
theorem dX4_stiffness_22 : decode cX4_stiffness 22 = .ok (.iload_n 2, 1) := by decide +kernel
theorem dX4_stiffness_23 : decode cX4_stiffness 23 = .ok (.iconst 1, 1) := by decide +kernel
theorem dX4_stiffness_24 : decode cX4_stiffness 24 = .ok (.iadd, 1) := by decide +kernel
theorem dX4_stiffness_25 : decode cX4_stiffness 25 = .ok (.faload, 1) := by decide +kernel
theorem dX4_stiffness_26 : decode cX4_stiffness 26 = .ok (.aload_n 0, 1) := by decide +kernel
theorem dX4_stiffness_27 : decode cX4_stiffness 27 = .ok (.getfield 30, 3) := by decide +kernel
theorem dX4_stiffness_30 : decode cX4_stiffness 30 = .ok (.iload_n 2, 1) := by decide +kernel
theorem dX4_stiffness_31 : decode cX4_stiffness 31 = .ok (.iconst 1, 1) := by decide +kernel
theorem dX4_stiffness_32 : decode cX4_stiffness 32 = .ok (.iadd, 1) := by decide +kernel
theorem dX4_stiffness_33 : decode cX4_stiffness 33 = .ok (.faload, 1) := by decide +kernel
theorem dX4_stiffness_34 : decode cX4_stiffness 34 = .ok (.fmul, 1) := by decide +kernel
theorem dX4_stiffness_35 : decode cX4_stiffness 35 = .ok (.fadd, 1) := by decide +kernel
theorem dX4_stiffness_36 : decode cX4_stiffness 36 = .ok (.aload_n 0, 1) := by decide +kernel
theorem dX4_stiffness_37 : decode cX4_stiffness 37 = .ok (.getfield 30, 3) := by decide +kernel
theorem dX4_stiffness_40 : decode cX4_stiffness 40 = .ok (.iload_n 2, 1) := by decide +kernel
theorem dX4_stiffness_41 : decode cX4_stiffness 41 = .ok (.iconst 2, 1) := by decide +kernel
theorem dX4_stiffness_42 : decode cX4_stiffness 42 = .ok (.iadd, 1) := by decide +kernel
theorem dX4_stiffness_43 : decode cX4_stiffness 43 = .ok (.faload, 1) := by decide +kernel
theorem dX4_stiffness_44 : decode cX4_stiffness 44 = .ok (.aload_n 0, 1) := by decide +kernel
theorem dX4_stiffness_45 : decode cX4_stiffness 45 = .ok (.getfield 30, 3) := by decide +kernel
theorem dX4_stiffness_48 : decode cX4_stiffness 48 = .ok (.iload_n 2, 1) := by decide +kernel
theorem dX4_stiffness_49 : decode cX4_stiffness 49 = .ok (.iconst 2, 1) := by decide +kernel
theorem dX4_stiffness_50 : decode cX4_stiffness 50 = .ok (.iadd, 1) := by decide +kernel
theorem dX4_stiffness_51 : decode cX4_stiffness 51 = .ok (.faload, 1) := by decide +kernel
theorem dX4_stiffness_52 : decode cX4_stiffness 52 = .ok (.fmul, 1) := by decide +kernel
theorem dX4_stiffness_53 : decode cX4_stiffness 53 = .ok (.fadd, 1) := by decide +kernel
theorem dX4_stiffness_54 : decode cX4_stiffness 54 = .ok (.fstore_n 3, 1) := by decide +kernel
theorem dX4_stiffness_55 : decode cX4_stiffness 55 = .ok (.aload_n 0, 1) := by decide +kernel
theorem dX4_stiffness_56 : decode cX4_stiffness 56 = .ok (.iload_n 1, 1) := by decide +kernel
theorem dX4_stiffness_57 : decode cX4_stiffness 57 = .ok (.iconst 3, 1) := by decide +kernel
theorem dX4_stiffness_58 : decode cX4_stiffness 58 = .ok (.aload_n 0, 1) := by decide +kernel
theorem dX4_stiffness_59 : decode cX4_stiffness 59 = .ok (.getfield 24, 3) := by decide +kernel
theorem dX4_stiffness_62 : decode cX4_stiffness 62 = .ok (.iload_n 1, 1) := by decide +kernel
theorem dX4_stiffness_63 : decode cX4_stiffness 63 = .ok (.iaload, 1) := by decide +kernel
theorem dX4_stiffness_64 : decode cX4_stiffness 64 = .ok (.invokevirtual 167, 3) := by decide +kernel
theorem dX4_stiffness_67 : decode cX4_stiffness 67 = .ok (.aload_n 0, 1) := by decide +kernel
theorem dX4_stiffness_68 : decode cX4_stiffness 68 = .ok (.getfield 30, 3) := by decide +kernel
theorem dX4_stiffness_71 : decode cX4_stiffness 71 = .ok (.iload_n 2, 1) := by decide +kernel
theorem dX4_stiffness_72 : decode cX4_stiffness 72 = .ok (.iconst 3, 1) := by decide +kernel
theorem dX4_stiffness_73 : decode cX4_stiffness 73 = .ok (.iadd, 1) := by decide +kernel
theorem dX4_stiffness_74 : decode cX4_stiffness 74 = .ok (.faload, 1) := by decide +kernel
theorem dX4_stiffness_75 : decode cX4_stiffness 75 = .ok (.aload_n 0, 1) := by decide +kernel
theorem dX4_stiffness_76 : decode cX4_stiffness 76 = .ok (.getfield 158, 3) := by decide +kernel
theorem dX4_stiffness_79 : decode cX4_stiffness 79 = .ok (.fmul, 1) := by decide +kernel
theorem dX4_stiffness_80 : decode cX4_stiffness 80 = .ok (.aload_n 0, 1) := by decide +kernel
theorem dX4_stiffness_81 : decode cX4_stiffness 81 = .ok (.getfield 30, 3) := by decide +kernel
theorem dX4_stiffness_84 : decode cX4_stiffness 84 = .ok (.iload_n 2, 1) := by decide +kernel
theorem dX4_stiffness_85 : decode cX4_stiffness 85 = .ok (.iconst 4, 1) := by decide +kernel
theorem dX4_stiffness_86 : decode cX4_stiffness 86 = .ok (.iadd, 1) := by decide +kernel
theorem dX4_stiffness_87 : decode cX4_stiffness 87 = .ok (.faload, 1) := by decide +kernel
theorem dX4_stiffness_88 : decode cX4_stiffness 88 = .ok (.aload_n 0, 1) := by decide +kernel
theorem dX4_stiffness_89 : decode cX4_stiffness 89 = .ok (.getfield 161, 3) := by decide +kernel
theorem dX4_stiffness_92 : decode cX4_stiffness 92 = .ok (.fmul, 1) := by decide +kernel
theorem dX4_stiffness_93 : decode cX4_stiffness 93 = .ok (.fadd, 1) := by decide +kernel
theorem dX4_stiffness_94 : decode cX4_stiffness 94 = .ok (.aload_n 0, 1) := by decide +kernel
theorem dX4_stiffness_95 : decode cX4_stiffness 95 = .ok (.getfield 30, 3) := by decide +kernel
theorem dX4_stiffness_98 : decode cX4_stiffness 98 = .ok (.iload_n 2, 1) := by decide +kernel
theorem dX4_stiffness_99 : decode cX4_stiffness 99 = .ok (.iconst 5, 1) := by decide +kernel
theorem dX4_stiffness_100 : decode cX4_stiffness 100 = .ok (.iadd, 1) := by decide +kernel
theorem dX4_stiffness_101 : decode cX4_stiffness 101 = .ok (.faload, 1) := by decide +kernel
theorem dX4_stiffness_102 : decode cX4_stiffness 102 = .ok (.aload_n 0, 1) := by decide +kernel
theorem dX4_stiffness_103 : decode cX4_stiffness 103 = .ok (.getfield 164, 3) := by decide +kernel
theorem dX4_stiffness_106 : decode cX4_stiffness 106 = .ok (.fmul, 1) := by decide +kernel
theorem dX4_stiffness_107 : decode cX4_stiffness 107 = .ok (.fadd, 1) := by decide +kernel
theorem dX4_stiffness_108 : decode cX4_stiffness 108 = .ok (.fstore 4, 2) := by decide +kernel
theorem dX4_stiffness_110 : decode cX4_stiffness 110 = .ok (.aload_n 0, 1) := by decide +kernel
theorem dX4_stiffness_111 : decode cX4_stiffness 111 = .ok (.iload_n 1, 1) := by decide +kernel
theorem dX4_stiffness_112 : decode cX4_stiffness 112 = .ok (.bipush 6, 2) := by decide +kernel
theorem dX4_stiffness_114 : decode cX4_stiffness 114 = .ok (.aload_n 0, 1) := by decide +kernel
theorem dX4_stiffness_115 : decode cX4_stiffness 115 = .ok (.getfield 27, 3) := by decide +kernel
theorem dX4_stiffness_118 : decode cX4_stiffness 118 = .ok (.iload_n 1, 1) := by decide +kernel
theorem dX4_stiffness_119 : decode cX4_stiffness 119 = .ok (.iaload, 1) := by decide +kernel
theorem dX4_stiffness_120 : decode cX4_stiffness 120 = .ok (.invokevirtual 167, 3) := by decide +kernel
theorem dX4_stiffness_123 : decode cX4_stiffness 123 = .ok (.aload_n 0, 1) := by decide +kernel
theorem dX4_stiffness_124 : decode cX4_stiffness 124 = .ok (.getfield 30, 3) := by decide +kernel
theorem dX4_stiffness_127 : decode cX4_stiffness 127 = .ok (.iload_n 2, 1) := by decide +kernel
theorem dX4_stiffness_128 : decode cX4_stiffness 128 = .ok (.bipush 6, 2) := by decide +kernel
theorem dX4_stiffness_130 : decode cX4_stiffness 130 = .ok (.iadd, 1) := by decide +kernel
theorem dX4_stiffness_131 : decode cX4_stiffness 131 = .ok (.faload, 1) := by decide +kernel
theorem dX4_stiffness_132 : decode cX4_stiffness 132 = .ok (.aload_n 0, 1) := by decide +kernel
theorem dX4_stiffness_133 : decode cX4_stiffness 133 = .ok (.getfield 158, 3) := by decide +kernel
theorem dX4_stiffness_136 : decode cX4_stiffness 136 = .ok (.fmul, 1) := by decide +kernel
theorem dX4_stiffness_137 : decode cX4_stiffness 137 = .ok (.aload_n 0, 1) := by decide +kernel
theorem dX4_stiffness_138 : decode cX4_stiffness 138 = .ok (.getfield 30, 3) := by decide +kernel
theorem dX4_stiffness_141 : decode cX4_stiffness 141 = .ok (.iload_n 2, 1) := by decide +kernel
theorem dX4_stiffness_142 : decode cX4_stiffness 142 = .ok (.bipush 7, 2) := by decide +kernel
theorem dX4_stiffness_144 : decode cX4_stiffness 144 = .ok (.iadd, 1) := by decide +kernel
theorem dX4_stiffness_145 : decode cX4_stiffness 145 = .ok (.faload, 1) := by decide +kernel
theorem dX4_stiffness_146 : decode cX4_stiffness 146 = .ok (.aload_n 0, 1) := by decide +kernel
theorem dX4_stiffness_147 : decode cX4_stiffness 147 = .ok (.getfield 161, 3) := by decide +kernel
theorem dX4_stiffness_150 : decode cX4_stiffness 150 = .ok (.fmul, 1) := by decide +kernel
theorem dX4_stiffness_151 : decode cX4_stiffness 151 = .ok (.fadd, 1) := by decide +kernel
theorem dX4_stiffness_152 : decode cX4_stiffness 152 = .ok (.aload_n 0, 1) := by decide +kernel
theorem dX4_stiffness_153 : decode cX4_stiffness 153 = .ok (.getfield 30, 3) := by decide +kernel
theorem dX4_stiffness_156 : decode cX4_stiffness 156 = .ok (.iload_n 2, 1) := by decide +kernel
theorem dX4_stiffness_157 : decode cX4_stiffness 157 = .ok (.bipush 8, 2) := by decide +kernel
theorem dX4_stiffness_159 : decode cX4_stiffness 159 = .ok (.iadd, 1) := by decide +kernel
theorem dX4_stiffness_160 : decode cX4_stiffness 160 = .ok (.faload, 1) := by decide +kernel
theorem dX4_stiffness_161 : decode cX4_stiffness 161 = .ok (.aload_n 0, 1) := by decide +kernel
theorem dX4_stiffness_162 : decode cX4_stiffness 162 = .ok (.getfield 164, 3) := by decide +kernel
theorem dX4_stiffness_165 : decode cX4_stiffness 165 = .ok (.fmul, 1) := by decide +kernel
theorem dX4_stiffness_166 : decode cX4_stiffness 166 = .ok (.fadd, 1) := by decide +kernel
theorem dX4_stiffness_167 : decode cX4_stiffness 167 = .ok (.fstore 5, 2) := by decide +kernel
theorem dX4_stiffness_169 : decode cX4_stiffness 169 = .ok (.aload_n 0, 1) := by decide +kernel
theorem dX4_stiffness_170 : decode cX4_stiffness 170 = .ok (.aload_n 0, 1) := by decide +kernel
theorem dX4_stiffness_171 : decode cX4_stiffness 171 = .ok (.getfield 24, 3) := by decide +kernel
theorem dX4_stiffness_174 : decode cX4_stiffness 174 = .ok (.iload_n 1, 1) := by decide +kernel
theorem dX4_stiffness_175 : decode cX4_stiffness 175 = .ok (.iaload, 1) := by decide +kernel
theorem dX4_stiffness_176 : decode cX4_stiffness 176 = .ok (.invokevirtual 171, 3) := by decide +kernel
theorem dX4_stiffness_179 : decode cX4_stiffness 179 = .ok (.fload_n 3, 1) := by decide +kernel
theorem dX4_stiffness_180 : decode cX4_stiffness 180 = .ok (.fmul, 1) := by decide +kernel
theorem dX4_stiffness_181 : decode cX4_stiffness 181 = .ok (.fload 4, 2) := by decide +kernel
theorem dX4_stiffness_183 : decode cX4_stiffness 183 = .ok (.fadd, 1) := by decide +kernel
theorem dX4_stiffness_184 : decode cX4_stiffness 184 = .ok (.aload_n 0, 1) := by decide +kernel
theorem dX4_stiffness_185 : decode cX4_stiffness 185 = .ok (.aload_n 0, 1) := by decide +kernel
theorem dX4_stiffness_186 : decode cX4_stiffness 186 = .ok (.getfield 27, 3) := by decide +kernel
theorem dX4_stiffness_189 : decode cX4_stiffness 189 = .ok (.iload_n 1, 1) := by decide +kernel
theorem dX4_stiffness_190 : decode cX4_stiffness 190 = .ok (.iaload, 1) := by decide +kernel
theorem dX4_stiffness_191 : decode cX4_stiffness 191 = .ok (.invokevirtual 171, 3) := by decide +kernel
theorem dX4_stiffness_194 : decode cX4_stiffness 194 = .ok (.fload_n 3, 1) := by decide +kernel
theorem dX4_stiffness_195 : decode cX4_stiffness 195 = .ok (.fmul, 1) := by decide +kernel
theorem dX4_stiffness_196 : decode cX4_stiffness 196 = .ok (.fadd, 1) := by decide +kernel
theorem dX4_stiffness_197 : decode cX4_stiffness 197 = .ok (.fload 5, 2) := by decide +kernel
theorem dX4_stiffness_199 : decode cX4_stiffness 199 = .ok (.fadd, 1) := by decide +kernel
theorem dX4_stiffness_200 : decode cX4_stiffness 200 = .ok (.aload_n 0, 1) := by decide +kernel
theorem dX4_stiffness_201 : decode cX4_stiffness 201 = .ok (.getfield 36, 3) := by decide +kernel
theorem dX4_stiffness_204 : decode cX4_stiffness 204 = .ok (.iload_n 1, 1) := by decide +kernel
theorem dX4_stiffness_205 : decode cX4_stiffness 205 = .ok (.faload, 1) := by decide +kernel
theorem dX4_stiffness_206 : decode cX4_stiffness 206 = .ok (.fadd, 1) := by decide +kernel
theorem dX4_stiffness_207 : decode cX4_stiffness 207 = .ok (.freturn, 1) := by decide +kernel
set_option maxRecDepth 20000 in
theorem ggX4_dead_X4_movable : GoodIn wsX4_dead wsX4_movable := goodIn_r _ [8, 9, 10, 11, 12, 13, 14, 15, 16, 17, 18, 19, 20, 21, 22, 23, 24, 25, 26, 27, 28, 29, 30, 31, 32, 33, 34, 35, 36, 37, 38, 39, 40, 41, 42, 43, 44] (by decide +kernel) (by decide +kernel)
set_option maxRecDepth 20000 in
theorem gX4_dead_X4_movable : GoodIn wsX4_dead (wsV RX4 119 RX4 yX4_movable wsX4_movable) := goodIn_app (goodIn_of _ (by decide +kernel)) ggX4_dead_X4_movable
theorem dX4_dead_0 : decode cX4_dead 0 = .ok (.fload_n 2, 1) := by decide +kernel
theorem dX4_dead_1 : decode cX4_dead 1 = .ok (.ldc 174, 2) := by decide +kernel
theorem dX4_dead_3 : decode cX4_dead 3 = .ok (.fcmp .g, 1) := by decide +kernel
theorem dX4_dead_4 : decode cX4_dead 4 = .ok (.ifCond .lt 29, 3) := by decide +kernel
theorem dX4_dead_7 : decode cX4_dead 7 = .ok (.aload_n 0, 1) := by decide +kernel
theorem dX4_dead_8 : decode cX4_dead 8 = .ok (.aload_n 0, 1) := by decide +kernel
theorem dX4_dead_9 : decode cX4_dead 9 = .ok (.getfield 24, 3) := by decide +kernel
theorem dX4_dead_12 : decode cX4_dead 12 = .ok (.iload_n 1, 1) := by decide +kernel
theorem dX4_dead_13 : decode cX4_dead 13 = .ok (.iaload, 1) := by decide +kernel
theorem dX4_dead_14 : decode cX4_dead 14 = .ok (.invokevirtual 119, 3) := by decide +kernel
theorem dX4_dead_17 : decode cX4_dead 17 = .ok (.ifCond .ne 20, 3) := by decide +kernel
theorem dX4_dead_20 : decode cX4_dead 20 = .ok (.aload_n 0, 1) := by decide +kernel
theorem dX4_dead_21 : decode cX4_dead 21 = .ok (.aload_n 0, 1) := by decide +kernel
theorem dX4_dead_22 : decode cX4_dead 22 = .ok (.getfield 27, 3) := by decide +kernel
theorem dX4_dead_25 : decode cX4_dead 25 = .ok (.iload_n 1, 1) := by decide +kernel
theorem dX4_dead_26 : decode cX4_dead 26 = .ok (.iaload, 1) := by decide +kernel
theorem dX4_dead_27 : decode cX4_dead 27 = .ok (.invokevirtual 119, 3) := by decide +kernel
theorem dX4_dead_30 : decode cX4_dead 30 = .ok (.ifCond .ne 7, 3) := by decide +kernel
theorem dX4_dead_33 : decode cX4_dead 33 = .ok (.iconst 1, 1) := by decide +kernel
theorem dX4_dead_34 : decode cX4_dead 34 = .ok (.goto 4, 3) := by decide +kernel
theorem dX4_dead_37 : decode cX4_dead 37 = .ok (.iconst 0, 1) := by decide +kernel
theorem dX4_dead_38 : decode cX4_dead 38 = .ok (.ireturn, 1) := by decide +kernel
set_option maxRecDepth 20000 in
theorem ggX4_apply_X4_movable : GoodIn wsX4_apply wsX4_movable := goodIn_r _ [9, 3, 25, 26, 27, 28, 29, 30, 31, 32, 33, 34, 35, 36, 37, 38, 39, 40, 41, 42, 43, 44, 45, 46, 47, 48, 49, 50, 51, 52, 53, 54, 55, 56, 57, 58, 59] (by decide +kernel) (by decide +kernel)
set_option maxRecDepth 20000 in
theorem gX4_apply_X4_movable : GoodIn wsX4_apply (wsV RX4 119 RX4 yX4_movable wsX4_movable) := goodIn_app (goodIn_of _ (by decide +kernel)) ggX4_apply_X4_movable
set_option maxRecDepth 20000 in
theorem ggX4_apply_X4_turn : GoodIn wsX4_apply wsX4_turn := goodIn_r _ [13, 4, 3, 14, 15, 16, 5, 6, 7, 8, 9, 25, 26, 27, 28, 29, 30, 31, 32, 33, 34, 35, 36, 37, 38, 39, 40, 41, 42, 43, 44, 45, 46, 47, 48, 49, 50, 51, 52, 53, 54, 55, 56, 57, 58, 59] (by decide +kernel) (by decide +kernel)
set_option maxRecDepth 20000 in
theorem gX4_apply_X4_turn : GoodIn wsX4_apply (wsV RX4 167 RX4 yX4_turn wsX4_turn) := goodIn_app (goodIn_of _ (by decide +kernel)) ggX4_apply_X4_turn
set_option maxRecDepth 20000 in
theorem ggX4_apply_X4_push : GoodIn wsX4_apply wsX4_push := goodIn_r _ [20, 3, 14, 15, 16, 25, 26, 27, 28, 29, 30, 31, 32, 33, 34, 35, 36, 37, 38, 39, 40, 41, 42, 43, 44, 45, 46, 47, 48, 49, 50, 51, 52, 53, 54, 55, 56, 57, 58, 59] (by decide +kernel) (by decide +kernel)
set_option maxRecDepth 20000 in
theorem gX4_apply_X4_push : GoodIn wsX4_apply (wsV RX4 175 RX4 yX4_push wsX4_push) := goodIn_app (goodIn_of _ (by decide +kernel)) ggX4_apply_X4_push
set_option maxRecDepth 20000 in
theorem ggX4_apply_X4_pull : GoodIn wsX4_apply wsX4_pull := goodIn_r _ [24, 3, 14, 15, 16, 25, 26, 27, 28, 29, 30, 31, 32, 33, 34, 35, 36, 37, 38, 39, 40, 41, 42, 43, 44, 45, 46, 47, 48, 49, 50, 51, 52, 53, 54, 55, 56, 57, 58, 59] (by decide +kernel) (by decide +kernel)
set_option maxRecDepth 20000 in
theorem gX4_apply_X4_pull : GoodIn wsX4_apply (wsV RX4 179 RX4 yX4_pull wsX4_pull) := goodIn_app (goodIn_of _ (by decide +kernel)) ggX4_apply_X4_pull
theorem dX4_apply_0 : decode cX4_apply 0 = .ok (.bipush 9, 2) := by decide +kernel
theorem dX4_apply_2 : decode cX4_apply 2 = .ok (.iload_n 1, 1) := by decide +kernel
theorem dX4_apply_3 : decode cX4_apply 3 = .ok (.imul, 1) := by decide +kernel
theorem dX4_apply_4 : decode cX4_apply 4 = .ok (.istore_n 3, 1) := by decide +kernel
theorem dX4_apply_5 : decode cX4_apply 5 = .ok (.aload_n 0, 1) := by decide +kernel
theorem dX4_apply_6 : decode cX4_apply 6 = .ok (.getfield 24, 3) := by decide +kernel
theorem dX4_apply_9 : decode cX4_apply 9 = .ok (.iload_n 1, 1) := by decide +kernel
theorem dX4_apply_10 : decode cX4_apply 10 = .ok (.iaload, 1) := by decide +kernel
theorem dX4_apply_11 : decode cX4_apply 11 = .ok (.istore 4, 2) := by decide +kernel
theorem dX4_apply_13 : decode cX4_apply 13 = .ok (.aload_n 0, 1) := by decide +kernel
theorem dX4_apply_14 : decode cX4_apply 14 = .ok (.getfield 27, 3) := by decide +kernel
theorem dX4_apply_17 : decode cX4_apply 17 = .ok (.iload_n 1, 1) := by decide +kernel
theorem dX4_apply_18 : decode cX4_apply 18 = .ok (.iaload, 1) := by decide +kernel
theorem dX4_apply_19 : decode cX4_apply 19 = .ok (.istore 5, 2) := by decide +kernel
theorem dX4_apply_21 : decode cX4_apply 21 = .ok (.aload_n 0, 1) := by decide +kernel
theorem dX4_apply_22 : decode cX4_apply 22 = .ok (.iload 4, 2) := by decide +kernel
theorem dX4_apply_24 : decode cX4_apply 24 = .ok (.invokevirtual 119, 3) := by decide +kernel
theorem dX4_apply_27 : decode cX4_apply 27 = .ok (.ifCond .eq 66, 3) := by decide +kernel
theorem dX4_apply_30 : decode cX4_apply 30 = .ok (.aload_n 0, 1) := by decide +kernel
theorem dX4_apply_31 : decode cX4_apply 31 = .ok (.getfield 7, 3) := by decide +kernel
theorem dX4_apply_34 : decode cX4_apply 34 = .ok (.bipush 13, 2) := by decide +kernel
theorem dX4_apply_36 : decode cX4_apply 36 = .ok (.iload 4, 2) := by decide +kernel
theorem dX4_apply_38 : decode cX4_apply 38 = .ok (.imul, 1) := by decide +kernel
theorem dX4_apply_39 : decode cX4_apply 39 = .ok (.bipush 6, 2) := by decide +kernel
theorem dX4_apply_41 : decode cX4_apply 41 = .ok (.iadd, 1) := by decide +kernel
theorem dX4_apply_42 : decode cX4_apply 42 = .ok (.faload, 1) := by decide +kernel
theorem dX4_apply_43 : decode cX4_apply 43 = .ok (.fload_n 2, 1) := by decide +kernel
theorem dX4_apply_44 : decode cX4_apply 44 = .ok (.fmul, 1) := by decide +kernel
theorem dX4_apply_45 : decode cX4_apply 45 = .ok (.fstore 6, 2) := by decide +kernel
theorem dX4_apply_47 : decode cX4_apply 47 = .ok (.aload_n 0, 1) := by decide +kernel
theorem dX4_apply_48 : decode cX4_apply 48 = .ok (.iload_n 1, 1) := by decide +kernel
theorem dX4_apply_49 : decode cX4_apply 49 = .ok (.iconst 3, 1) := by decide +kernel
theorem dX4_apply_50 : decode cX4_apply 50 = .ok (.iload 4, 2) := by decide +kernel
theorem dX4_apply_52 : decode cX4_apply 52 = .ok (.invokevirtual 167, 3) := by decide +kernel
theorem dX4_apply_55 : decode cX4_apply 55 = .ok (.aload_n 0, 1) := by decide +kernel
theorem dX4_apply_56 : decode cX4_apply 56 = .ok (.iload 4, 2) := by decide +kernel
theorem dX4_apply_58 : decode cX4_apply 58 = .ok (.aload_n 0, 1) := by decide +kernel
theorem dX4_apply_59 : decode cX4_apply 59 = .ok (.getfield 30, 3) := by decide +kernel
theorem dX4_apply_62 : decode cX4_apply 62 = .ok (.iload_n 3, 1) := by decide +kernel
theorem dX4_apply_63 : decode cX4_apply 63 = .ok (.faload, 1) := by decide +kernel
theorem dX4_apply_64 : decode cX4_apply 64 = .ok (.fload 6, 2) := by decide +kernel
theorem dX4_apply_66 : decode cX4_apply 66 = .ok (.fmul, 1) := by decide +kernel
theorem dX4_apply_67 : decode cX4_apply 67 = .ok (.aload_n 0, 1) := by decide +kernel
theorem dX4_apply_68 : decode cX4_apply 68 = .ok (.getfield 30, 3) := by decide +kernel
theorem dX4_apply_71 : decode cX4_apply 71 = .ok (.iload_n 3, 1) := by decide +kernel
theorem dX4_apply_72 : decode cX4_apply 72 = .ok (.iconst 1, 1) := by decide +kernel
theorem dX4_apply_73 : decode cX4_apply 73 = .ok (.iadd, 1) := by decide +kernel
theorem dX4_apply_74 : decode cX4_apply 74 = .ok (.faload, 1) := by decide +kernel
theorem dX4_apply_75 : decode cX4_apply 75 = .ok (.fload 6, 2) := by decide +kernel
theorem dX4_apply_77 : decode cX4_apply 77 = .ok (.fmul, 1) := by decide +kernel
theorem dX4_apply_78 : decode cX4_apply 78 = .ok (.aload_n 0, 1) := by decide +kernel
theorem dX4_apply_79 : decode cX4_apply 79 = .ok (.getfield 30, 3) := by decide +kernel
theorem dX4_apply_82 : decode cX4_apply 82 = .ok (.iload_n 3, 1) := by decide +kernel
theorem dX4_apply_83 : decode cX4_apply 83 = .ok (.iconst 2, 1) := by decide +kernel
theorem dX4_apply_84 : decode cX4_apply 84 = .ok (.iadd, 1) := by decide +kernel
theorem dX4_apply_85 : decode cX4_apply 85 = .ok (.faload, 1) := by decide +kernel
theorem dX4_apply_86 : decode cX4_apply 86 = .ok (.fload 6, 2) := by decide +kernel
theorem dX4_apply_88 : decode cX4_apply 88 = .ok (.fmul, 1) := by decide +kernel
theorem dX4_apply_89 : decode cX4_apply 89 = .ok (.fload_n 2, 1) := by decide +kernel
theorem dX4_apply_90 : decode cX4_apply 90 = .ok (.invokevirtual 175, 3) := by decide +kernel
theorem dX4_apply_93 : decode cX4_apply 93 = .ok (.aload_n 0, 1) := by decide +kernel
theorem dX4_apply_94 : decode cX4_apply 94 = .ok (.iload 5, 2) := by decide +kernel
theorem dX4_apply_96 : decode cX4_apply 96 = .ok (.invokevirtual 119, 3) := by decide +kernel
theorem dX4_apply_99 : decode cX4_apply 99 = .ok (.ifCond .eq 67, 3) := by decide +kernel
theorem dX4_apply_102 : decode cX4_apply 102 = .ok (.aload_n 0, 1) := by decide +kernel
theorem dX4_apply_103 : decode cX4_apply 103 = .ok (.getfield 7, 3) := by decide +kernel
theorem dX4_apply_106 : decode cX4_apply 106 = .ok (.bipush 13, 2) := by decide +kernel
theorem dX4_apply_108 : decode cX4_apply 108 = .ok (.iload 5, 2) := by decide +kernel
theorem dX4_apply_110 : decode cX4_apply 110 = .ok (.imul, 1) := by decide +kernel
theorem dX4_apply_111 : decode cX4_apply 111 = .ok (.bipush 6, 2) := by decide +kernel
theorem dX4_apply_113 : decode cX4_apply 113 = .ok (.iadd, 1) := by decide +kernel
theorem dX4_apply_114 : decode cX4_apply 114 = .ok (.faload, 1) := by decide +kernel
theorem dX4_apply_115 : decode cX4_apply 115 = .ok (.fload_n 2, 1) := by decide +kernel
theorem dX4_apply_116 : decode cX4_apply 116 = .ok (.fmul, 1) := by decide +kernel
theorem dX4_apply_117 : decode cX4_apply 117 = .ok (.fstore 6, 2) := by decide +kernel
theorem dX4_apply_119 : decode cX4_apply 119 = .ok (.aload_n 0, 1) := by decide +kernel
theorem dX4_apply_120 : decode cX4_apply 120 = .ok (.iload_n 1, 1) := by decide +kernel
theorem dX4_apply_121 : decode cX4_apply 121 = .ok (.bipush 6, 2) := by decide +kernel
theorem dX4_apply_123 : decode cX4_apply 123 = .ok (.iload 5, 2) := by decide +kernel
theorem dX4_apply_125 : decode cX4_apply 125 = .ok (.invokevirtual 167, 3) := by decide +kernel
theorem dX4_apply_128 : decode cX4_apply 128 = .ok (.aload_n 0, 1) := by decide +kernel
theorem dX4_apply_129 : decode cX4_apply 129 = .ok (.iload 5, 2) := by decide +kernel
theorem dX4_apply_131 : decode cX4_apply 131 = .ok (.aload_n 0, 1) := by decide +kernel
theorem dX4_apply_132 : decode cX4_apply 132 = .ok (.getfield 30, 3) := by decide +kernel
theorem dX4_apply_135 : decode cX4_apply 135 = .ok (.iload_n 3, 1) := by decide +kernel
theorem dX4_apply_136 : decode cX4_apply 136 = .ok (.faload, 1) := by decide +kernel
theorem dX4_apply_137 : decode cX4_apply 137 = .ok (.fload 6, 2) := by decide +kernel
theorem dX4_apply_139 : decode cX4_apply 139 = .ok (.fmul, 1) := by decide +kernel
theorem dX4_apply_140 : decode cX4_apply 140 = .ok (.aload_n 0, 1) := by decide +kernel
theorem dX4_apply_141 : decode cX4_apply 141 = .ok (.getfield 30, 3) := by decide +kernel
theorem dX4_apply_144 : decode cX4_apply 144 = .ok (.iload_n 3, 1) := by decide +kernel
theorem dX4_apply_145 : decode cX4_apply 145 = .ok (.iconst 1, 1) := by decide +kernel
theorem dX4_apply_146 : decode cX4_apply 146 = .ok (.iadd, 1) := by decide +kernel
theorem dX4_apply_147 : decode cX4_apply 147 = .ok (.faload, 1) := by decide +kernel
theorem dX4_apply_148 : decode cX4_apply 148 = .ok (.fload 6, 2) := by decide +kernel
theorem dX4_apply_150 : decode cX4_apply 150 = .ok (.fmul, 1) := by decide +kernel
theorem dX4_apply_151 : decode cX4_apply 151 = .ok (.aload_n 0, 1) := by decide +kernel
theorem dX4_apply_152 : decode cX4_apply 152 = .ok (.getfield 30, 3) := by decide +kernel
theorem dX4_apply_155 : decode cX4_apply 155 = .ok (.iload_n 3, 1) := by decide +kernel
theorem dX4_apply_156 : decode cX4_apply 156 = .ok (.iconst 2, 1) := by decide +kernel
theorem dX4_apply_157 : decode cX4_apply 157 = .ok (.iadd, 1) := by decide +kernel
theorem dX4_apply_158 : decode cX4_apply 158 = .ok (.faload, 1) := by decide +kernel
theorem dX4_apply_159 : decode cX4_apply 159 = .ok (.fload 6, 2) := by decide +kernel
theorem dX4_apply_161 : decode cX4_apply 161 = .ok (.fmul, 1) := by decide +kernel
theorem dX4_apply_162 : decode cX4_apply 162 = .ok (.fload_n 2, 1) := by decide +kernel
theorem dX4_apply_163 : decode cX4_apply 163 = .ok (.invokevirtual 179, 3) := by decide +kernel
theorem dX4_apply_166 : decode cX4_apply 166 = .ok (.return_, 1) := by decide +kernel
theorem dX4_push_0 : decode cX4_push 0 = .ok (.bipush 13, 2) := by decide +kernel
theorem dX4_push_2 : decode cX4_push 2 = .ok (.iload_n 1, 1) := by decide +kernel
theorem dX4_push_3 : decode cX4_push 3 = .ok (.imul, 1) := by decide +kernel
theorem dX4_push_4 : decode cX4_push 4 = .ok (.istore 6, 2) := by decide +kernel
theorem dX4_push_6 : decode cX4_push 6 = .ok (.aload_n 0, 1) := by decide +kernel
theorem dX4_push_7 : decode cX4_push 7 = .ok (.getfield 7, 3) := by decide +kernel
theorem dX4_push_10 : decode cX4_push 10 = .ok (.iload 6, 2) := by decide +kernel
theorem dX4_push_12 : decode cX4_push 12 = .ok (.aload_n 0, 1) := by decide +kernel
theorem dX4_push_13 : decode cX4_push 13 = .ok (.getfield 7, 3) := by decide +kernel
theorem dX4_push_16 : decode cX4_push 16 = .ok (.iload 6, 2) := by decide +kernel
theorem dX4_push_18 : decode cX4_push 18 = .ok (.faload, 1) := by decide +kernel
theorem dX4_push_19 : decode cX4_push 19 = .ok (.fload_n 2, 1) := by decide +kernel
theorem dX4_push_20 : decode cX4_push 20 = .ok (.fadd, 1) := by decide +kernel
theorem dX4_push_21 : decode cX4_push 21 = .ok (.fastore, 1) := by decide +kernel
theorem dX4_push_22 : decode cX4_push 22 = .ok (.aload_n 0, 1) := by decide +kernel
theorem dX4_push_23 : decode cX4_push 23 = .ok (.getfield 7, 3) := by decide +kernel
theorem dX4_push_26 : decode cX4_push 26 = .ok (.iload 6, 2) := by decide +kernel
theorem dX4_push_28 : decode cX4_push 28 = .ok (.iconst 1, 1) := by decide +kernel
theorem dX4_push_29 : decode cX4_push 29 = .ok (.iadd, 1) := by decide +kernel
theorem dX4_push_30 : decode cX4_push 30 = .ok (.aload_n 0, 1) := by decide +kernel
theorem dX4_push_31 : decode cX4_push 31 = .ok (.getfield 7, 3) := by decide +kernel
theorem dX4_push_34 : decode cX4_push 34 = .ok (.iload 6, 2) := by decide +kernel
theorem dX4_push_36 : decode cX4_push 36 = .ok (.iconst 1, 1) := by decide +kernel
theorem dX4_push_37 : decode cX4_push 37 = .ok (.iadd, 1) := by decide +kernel
theorem dX4_push_38 : decode cX4_push 38 = .ok (.faload, 1) := by decide +kernel
theorem dX4_push_39 : decode cX4_push 39 = .ok (.fload_n 3, 1) := by decide +kernel
theorem dX4_push_40 : decode cX4_push 40 = .ok (.fadd, 1) := by decide +kernel
theorem dX4_push_41 : decode cX4_push 41 = .ok (.fastore, 1) := by decide +kernel
theorem dX4_push_42 : decode cX4_push 42 = .ok (.aload_n 0, 1) := by decide +kernel
theorem dX4_push_43 : decode cX4_push 43 = .ok (.getfield 7, 3) := by decide +kernel
theorem dX4_push_46 : decode cX4_push 46 = .ok (.iload 6, 2) := by decide +kernel
theorem dX4_push_48 : decode cX4_push 48 = .ok (.iconst 2, 1) := by decide +kernel
theorem dX4_push_49 : decode cX4_push 49 = .ok (.iadd, 1) := by decide +kernel
theorem dX4_push_50 : decode cX4_push 50 = .ok (.aload_n 0, 1) := by decide +kernel
theorem dX4_push_51 : decode cX4_push 51 = .ok (.getfield 7, 3) := by decide +kernel
theorem dX4_push_54 : decode cX4_push 54 = .ok (.iload 6, 2) := by decide +kernel
theorem dX4_push_56 : decode cX4_push 56 = .ok (.iconst 2, 1) := by decide +kernel
theorem dX4_push_57 : decode cX4_push 57 = .ok (.iadd, 1) := by decide +kernel
theorem dX4_push_58 : decode cX4_push 58 = .ok (.faload, 1) := by decide +kernel
theorem dX4_push_59 : decode cX4_push 59 = .ok (.fload 4, 2) := by decide +kernel
theorem dX4_push_61 : decode cX4_push 61 = .ok (.fadd, 1) := by decide +kernel
theorem dX4_push_62 : decode cX4_push 62 = .ok (.fastore, 1) := by decide +kernel
theorem dX4_push_63 : decode cX4_push 63 = .ok (.aload_n 0, 1) := by decide +kernel
theorem dX4_push_64 : decode cX4_push 64 = .ok (.getfield 7, 3) := by decide +kernel
theorem dX4_push_67 : decode cX4_push 67 = .ok (.iload 6, 2) := by decide +kernel
theorem dX4_push_69 : decode cX4_push 69 = .ok (.iconst 3, 1) := by decide +kernel
theorem dX4_push_70 : decode cX4_push 70 = .ok (.iadd, 1) := by decide +kernel
theorem dX4_push_71 : decode cX4_push 71 = .ok (.aload_n 0, 1) := by decide +kernel
theorem dX4_push_72 : decode cX4_push 72 = .ok (.getfield 7, 3) := by decide +kernel
theorem dX4_push_75 : decode cX4_push 75 = .ok (.iload 6, 2) := by decide +kernel
theorem dX4_push_77 : decode cX4_push 77 = .ok (.iconst 3, 1) := by decide +kernel
theorem dX4_push_78 : decode cX4_push 78 = .ok (.iadd, 1) := by decide +kernel
theorem dX4_push_79 : decode cX4_push 79 = .ok (.faload, 1) := by decide +kernel
theorem dX4_push_80 : decode cX4_push 80 = .ok (.aload_n 0, 1) := by decide +kernel
theorem dX4_push_81 : decode cX4_push 81 = .ok (.getfield 158, 3) := by decide +kernel
theorem dX4_push_84 : decode cX4_push 84 = .ok (.fload 5, 2) := by decide +kernel
theorem dX4_push_86 : decode cX4_push 86 = .ok (.fmul, 1) := by decide +kernel
theorem dX4_push_87 : decode cX4_push 87 = .ok (.fadd, 1) := by decide +kernel
theorem dX4_push_88 : decode cX4_push 88 = .ok (.fastore, 1) := by decide +kernel
theorem dX4_push_89 : decode cX4_push 89 = .ok (.aload_n 0, 1) := by decide +kernel
theorem dX4_push_90 : decode cX4_push 90 = .ok (.getfield 7, 3) := by decide +kernel
theorem dX4_push_93 : decode cX4_push 93 = .ok (.iload 6, 2) := by decide +kernel
theorem dX4_push_95 : decode cX4_push 95 = .ok (.iconst 4, 1) := by decide +kernel
theorem dX4_push_96 : decode cX4_push 96 = .ok (.iadd, 1) := by decide +kernel
theorem dX4_push_97 : decode cX4_push 97 = .ok (.aload_n 0, 1) := by decide +kernel
theorem dX4_push_98 : decode cX4_push 98 = .ok (.getfield 7, 3) := by decide +kernel
theorem dX4_push_101 : decode cX4_push 101 = .ok (.iload 6, 2) := by decide +kernel
theorem dX4_push_103 : decode cX4_push 103 = .ok (.iconst 4, 1) := by decide +kernel
theorem dX4_push_104 : decode cX4_push 104 = .ok (.iadd, 1) := by decide +kernel
theorem dX4_push_105 : decode cX4_push 105 = .ok (.faload, 1) := by decide +kernel
theorem dX4_push_106 : decode cX4_push 106 = .ok (.aload_n 0, 1) := by decide +kernel
theorem dX4_push_107 : decode cX4_push 107 = .ok (.getfield 161, 3) := by decide +kernel
theorem dX4_push_110 : decode cX4_push 110 = .ok (.fload 5, 2) := by decide +kernel
theorem dX4_push_112 : decode cX4_push 112 = .ok (.fmul, 1) := by decide +kernel
theorem dX4_push_113 : decode cX4_push 113 = .ok (.fadd, 1) := by decide +kernel
theorem dX4_push_114 : decode cX4_push 114 = .ok (.fastore, 1) := by decide +kernel
theorem dX4_push_115 : decode cX4_push 115 = .ok (.aload_n 0, 1) := by decide +kernel
theorem dX4_push_116 : decode cX4_push 116 = .ok (.getfield 7, 3) := by decide +kernel
theorem dX4_push_119 : decode cX4_push 119 = .ok (.iload 6, 2) := by decide +kernel
theorem dX4_push_121 : decode cX4_push 121 = .ok (.iconst 5, 1) := by decide +kernel
theorem dX4_push_122 : decode cX4_push 122 = .ok (.iadd, 1) := by decide +kernel
theorem dX4_push_123 : decode cX4_push 123 = .ok (.aload_n 0, 1) := by decide +kernel
theorem dX4_push_124 : decode cX4_push 124 = .ok (.getfield 7, 3) := by decide +kernel
theorem dX4_push_127 : decode cX4_push 127 = .ok (.iload 6, 2) := by decide +kernel
theorem dX4_push_129 : decode cX4_push 129 = .ok (.iconst 5, 1) := by decide +kernel
theorem dX4_push_130 : decode cX4_push 130 = .ok (.iadd, 1) := by decide +kernel
theorem dX4_push_131 : decode cX4_push 131 = .ok (.faload, 1) := by decide +kernel
theorem dX4_push_132 : decode cX4_push 132 = .ok (.aload_n 0, 1) := by decide +kernel
theorem dX4_push_133 : decode cX4_push 133 = .ok (.getfield 164, 3) := by decide +kernel
theorem dX4_push_136 : decode cX4_push 136 = .ok (.fload 5, 2) := by decide +kernel
theorem dX4_push_138 : decode cX4_push 138 = .ok (.fmul, 1) := by decide +kernel
theorem dX4_push_139 : decode cX4_push 139 = .ok (.fadd, 1) := by decide +kernel
theorem dX4_push_140 : decode cX4_push 140 = .ok (.fastore, 1) := by decide +kernel
theorem dX4_push_141 : decode cX4_push 141 = .ok (.return_, 1) := by decide +kernel
theorem dX4_pull_0 : decode cX4_pull 0 = .ok (.bipush 13, 2) := by decide +kernel
theorem dX4_pull_2 : decode cX4_pull 2 = .ok (.iload_n 1, 1) := by decide +kernel
theorem dX4_pull_3 : decode cX4_pull 3 = .ok (.imul, 1) := by decide +kernel
theorem dX4_pull_4 : decode cX4_pull 4 = .ok (.istore 6, 2) := by decide +kernel
theorem dX4_pull_6 : decode cX4_pull 6 = .ok (.aload_n 0, 1) := by decide +kernel
theorem dX4_pull_7 : decode cX4_pull 7 = .ok (.getfield 7, 3) := by decide +kernel
theorem dX4_pull_10 : decode cX4_pull 10 = .ok (.iload 6, 2) := by decide +kernel
theorem dX4_pull_12 : decode cX4_pull 12 = .ok (.aload_n 0, 1) := by decide +kernel
theorem dX4_pull_13 : decode cX4_pull 13 = .ok (.getfield 7, 3) := by decide +kernel
theorem dX4_pull_16 : decode cX4_pull 16 = .ok (.iload 6, 2) := by decide +kernel
theorem dX4_pull_18 : decode cX4_pull 18 = .ok (.faload, 1) := by decide +kernel
theorem dX4_pull_19 : decode cX4_pull 19 = .ok (.fload_n 2, 1) := by decide +kernel
theorem dX4_pull_20 : decode cX4_pull 20 = .ok (.fsub, 1) := by decide +kernel
theorem dX4_pull_21 : decode cX4_pull 21 = .ok (.fastore, 1) := by decide +kernel
theorem dX4_pull_22 : decode cX4_pull 22 = .ok (.aload_n 0, 1) := by decide +kernel
theorem dX4_pull_23 : decode cX4_pull 23 = .ok (.getfield 7, 3) := by decide +kernel
theorem dX4_pull_26 : decode cX4_pull 26 = .ok (.iload 6, 2) := by decide +kernel
theorem dX4_pull_28 : decode cX4_pull 28 = .ok (.iconst 1, 1) := by decide +kernel
theorem dX4_pull_29 : decode cX4_pull 29 = .ok (.iadd, 1) := by decide +kernel
theorem dX4_pull_30 : decode cX4_pull 30 = .ok (.aload_n 0, 1) := by decide +kernel
theorem dX4_pull_31 : decode cX4_pull 31 = .ok (.getfield 7, 3) := by decide +kernel
theorem dX4_pull_34 : decode cX4_pull 34 = .ok (.iload 6, 2) := by decide +kernel
theorem dX4_pull_36 : decode cX4_pull 36 = .ok (.iconst 1, 1) := by decide +kernel
theorem dX4_pull_37 : decode cX4_pull 37 = .ok (.iadd, 1) := by decide +kernel
theorem dX4_pull_38 : decode cX4_pull 38 = .ok (.faload, 1) := by decide +kernel
theorem dX4_pull_39 : decode cX4_pull 39 = .ok (.fload_n 3, 1) := by decide +kernel
theorem dX4_pull_40 : decode cX4_pull 40 = .ok (.fsub, 1) := by decide +kernel
theorem dX4_pull_41 : decode cX4_pull 41 = .ok (.fastore, 1) := by decide +kernel
theorem dX4_pull_42 : decode cX4_pull 42 = .ok (.aload_n 0, 1) := by decide +kernel
theorem dX4_pull_43 : decode cX4_pull 43 = .ok (.getfield 7, 3) := by decide +kernel
theorem dX4_pull_46 : decode cX4_pull 46 = .ok (.iload 6, 2) := by decide +kernel
theorem dX4_pull_48 : decode cX4_pull 48 = .ok (.iconst 2, 1) := by decide +kernel
theorem dX4_pull_49 : decode cX4_pull 49 = .ok (.iadd, 1) := by decide +kernel
theorem dX4_pull_50 : decode cX4_pull 50 = .ok (.aload_n 0, 1) := by decide +kernel
theorem dX4_pull_51 : decode cX4_pull 51 = .ok (.getfield 7, 3) := by decide +kernel
theorem dX4_pull_54 : decode cX4_pull 54 = .ok (.iload 6, 2) := by decide +kernel
theorem dX4_pull_56 : decode cX4_pull 56 = .ok (.iconst 2, 1) := by decide +kernel
theorem dX4_pull_57 : decode cX4_pull 57 = .ok (.iadd, 1) := by decide +kernel
theorem dX4_pull_58 : decode cX4_pull 58 = .ok (.faload, 1) := by decide +kernel
theorem dX4_pull_59 : decode cX4_pull 59 = .ok (.fload 4, 2) := by decide +kernel
theorem dX4_pull_61 : decode cX4_pull 61 = .ok (.fsub, 1) := by decide +kernel
theorem dX4_pull_62 : decode cX4_pull 62 = .ok (.fastore, 1) := by decide +kernel
theorem dX4_pull_63 : decode cX4_pull 63 = .ok (.aload_n 0, 1) := by decide +kernel
theorem dX4_pull_64 : decode cX4_pull 64 = .ok (.getfield 7, 3) := by decide +kernel
theorem dX4_pull_67 : decode cX4_pull 67 = .ok (.iload 6, 2) := by decide +kernel
theorem dX4_pull_69 : decode cX4_pull 69 = .ok (.iconst 3, 1) := by decide +kernel
theorem dX4_pull_70 : decode cX4_pull 70 = .ok (.iadd, 1) := by decide +kernel
theorem dX4_pull_71 : decode cX4_pull 71 = .ok (.aload_n 0, 1) := by decide +kernel
theorem dX4_pull_72 : decode cX4_pull 72 = .ok (.getfield 7, 3) := by decide +kernel
theorem dX4_pull_75 : decode cX4_pull 75 = .ok (.iload 6, 2) := by decide +kernel
theorem dX4_pull_77 : decode cX4_pull 77 = .ok (.iconst 3, 1) := by decide +kernel
theorem dX4_pull_78 : decode cX4_pull 78 = .ok (.iadd, 1) := by decide +kernel
theorem dX4_pull_79 : decode cX4_pull 79 = .ok (.faload, 1) := by decide +kernel
theorem dX4_pull_80 : decode cX4_pull 80 = .ok (.aload_n 0, 1) := by decide +kernel
theorem dX4_pull_81 : decode cX4_pull 81 = .ok (.getfield 158, 3) := by decide +kernel
theorem dX4_pull_84 : decode cX4_pull 84 = .ok (.fload 5, 2) := by decide +kernel
theorem dX4_pull_86 : decode cX4_pull 86 = .ok (.fmul, 1) := by decide +kernel
theorem dX4_pull_87 : decode cX4_pull 87 = .ok (.fsub, 1) := by decide +kernel
theorem dX4_pull_88 : decode cX4_pull 88 = .ok (.fastore, 1) := by decide +kernel
theorem dX4_pull_89 : decode cX4_pull 89 = .ok (.aload_n 0, 1) := by decide +kernel
theorem dX4_pull_90 : decode cX4_pull 90 = .ok (.getfield 7, 3) := by decide +kernel
theorem dX4_pull_93 : decode cX4_pull 93 = .ok (.iload 6, 2) := by decide +kernel
theorem dX4_pull_95 : decode cX4_pull 95 = .ok (.iconst 4, 1) := by decide +kernel
theorem dX4_pull_96 : decode cX4_pull 96 = .ok (.iadd, 1) := by decide +kernel
theorem dX4_pull_97 : decode cX4_pull 97 = .ok (.aload_n 0, 1) := by decide +kernel
theorem dX4_pull_98 : decode cX4_pull 98 = .ok (.getfield 7, 3) := by decide +kernel
theorem dX4_pull_101 : decode cX4_pull 101 = .ok (.iload 6, 2) := by decide +kernel
theorem dX4_pull_103 : decode cX4_pull 103 = .ok (.iconst 4, 1) := by decide +kernel
theorem dX4_pull_104 : decode cX4_pull 104 = .ok (.iadd, 1) := by decide +kernel
theorem dX4_pull_105 : decode cX4_pull 105 = .ok (.faload, 1) := by decide +kernel
theorem dX4_pull_106 : decode cX4_pull 106 = .ok (.aload_n 0, 1) := by decide +kernel
theorem dX4_pull_107 : decode cX4_pull 107 = .ok (.getfield 161, 3) := by decide +kernel
theorem dX4_pull_110 : decode cX4_pull 110 = .ok (.fload 5, 2) := by decide +kernel
theorem dX4_pull_112 : decode cX4_pull 112 = .ok (.fmul, 1) := by decide +kernel
theorem dX4_pull_113 : decode cX4_pull 113 = .ok (.fsub, 1) := by decide +kernel
theorem dX4_pull_114 : decode cX4_pull 114 = .ok (.fastore, 1) := by decide +kernel
theorem dX4_pull_115 : decode cX4_pull 115 = .ok (.aload_n 0, 1) := by decide +kernel
theorem dX4_pull_116 : decode cX4_pull 116 = .ok (.getfield 7, 3) := by decide +kernel
theorem dX4_pull_119 : decode cX4_pull 119 = .ok (.iload 6, 2) := by decide +kernel
theorem dX4_pull_121 : decode cX4_pull 121 = .ok (.iconst 5, 1) := by decide +kernel
theorem dX4_pull_122 : decode cX4_pull 122 = .ok (.iadd, 1) := by decide +kernel
theorem dX4_pull_123 : decode cX4_pull 123 = .ok (.aload_n 0, 1) := by decide +kernel
theorem dX4_pull_124 : decode cX4_pull 124 = .ok (.getfield 7, 3) := by decide +kernel
theorem dX4_pull_127 : decode cX4_pull 127 = .ok (.iload 6, 2) := by decide +kernel
theorem dX4_pull_129 : decode cX4_pull 129 = .ok (.iconst 5, 1) := by decide +kernel
theorem dX4_pull_130 : decode cX4_pull 130 = .ok (.iadd, 1) := by decide +kernel
theorem dX4_pull_131 : decode cX4_pull 131 = .ok (.faload, 1) := by decide +kernel
theorem dX4_pull_132 : decode cX4_pull 132 = .ok (.aload_n 0, 1) := by decide +kernel
theorem dX4_pull_133 : decode cX4_pull 133 = .ok (.getfield 164, 3) := by decide +kernel
theorem dX4_pull_136 : decode cX4_pull 136 = .ok (.fload 5, 2) := by decide +kernel
theorem dX4_pull_138 : decode cX4_pull 138 = .ok (.fmul, 1) := by decide +kernel
theorem dX4_pull_139 : decode cX4_pull 139 = .ok (.fsub, 1) := by decide +kernel
theorem dX4_pull_140 : decode cX4_pull 140 = .ok (.fastore, 1) := by decide +kernel
theorem dX4_pull_141 : decode cX4_pull 141 = .ok (.return_, 1) := by decide +kernel
set_option maxRecDepth 20000 in
theorem ggX4_solve_X4_speed : GoodIn wsX4_solve wsX4_speed := goodIn_r _ [9, 10, 11, 12, 13, 14, 8, 15, 16, 17, 52, 53, 54, 55, 56, 57, 58, 59, 60, 61, 62, 63, 64, 65, 66, 67, 68, 69, 70, 71, 72, 73, 74, 75, 76, 77, 78, 79, 80, 81, 82, 83, 84, 85, 86] (by decide +kernel) (by decide +kernel)
set_option maxRecDepth 20000 in
theorem gX4_solve_X4_speed : GoodIn wsX4_solve (wsV RX4 182 RX4 yX4_speed wsX4_speed) := goodIn_app (goodIn_of _ (by decide +kernel)) ggX4_solve_X4_speed
set_option maxRecDepth 20000 in
theorem ggX4_solve_X4_limited : GoodIn wsX4_solve wsX4_limited := goodIn_r _ [21, 22, 23, 24, 25, 1, 26, 27, 8, 28, 52, 53, 54, 55, 56, 57, 58, 59, 60, 61, 62, 63, 64, 65, 66, 67, 68, 69, 70, 71, 72, 73, 74, 75, 76, 77, 78, 79, 80, 81, 82, 83, 84, 85, 86] (by decide +kernel) (by decide +kernel)
set_option maxRecDepth 20000 in
theorem gX4_solve_X4_limited : GoodIn wsX4_solve (wsV RX4 136 RX4 yX4_limited wsX4_limited) := goodIn_app (goodIn_of _ (by decide +kernel)) ggX4_solve_X4_limited
set_option maxRecDepth 20000 in
theorem ggX4_solve_X4_apply : GoodIn wsX4_solve wsX4_apply := goodIn_r _ [32, 10, 11, 17, 16, 33, 34, 35, 8, 36, 37, 38, 39, 40, 41, 42, 43, 44, 45, 46, 47, 48, 49, 50, 51, 52, 53, 54, 55, 56, 57, 58, 59, 60, 61, 62, 63, 64, 65, 66, 67, 68, 69, 70, 71, 72, 73, 74, 75, 76, 77, 78, 79, 80, 81, 82, 83, 84, 85, 86] (by decide +kernel) (by decide +kernel)
set_option maxRecDepth 20000 in
theorem gX4_solve_X4_apply : GoodIn wsX4_solve (wsV RX4 185 RX4 yX4_apply wsX4_apply) := goodIn_app (goodIn_of _ (by decide +kernel)) ggX4_solve_X4_apply
theorem dX4_solve_0 : decode cX4_solve 0 = .ok (.aload_n 0, 1) := by decide +kernel
theorem dX4_solve_1 : decode cX4_solve 1 = .ok (.getfield 54, 3) := by decide +kernel
theorem dX4_solve_4 : decode cX4_solve 4 = .ok (.iload_n 1, 1) := by decide +kernel
theorem dX4_solve_5 : decode cX4_solve 5 = .ok (.faload, 1) := by decide +kernel
theorem dX4_solve_6 : decode cX4_solve 6 = .ok (.fstore_n 2, 1) := by decide +kernel
theorem dX4_solve_7 : decode cX4_solve 7 = .ok (.fload_n 2, 1) := by decide +kernel
theorem dX4_solve_8 : decode cX4_solve 8 = .ok (.aload_n 0, 1) := by decide +kernel
theorem dX4_solve_9 : decode cX4_solve 9 = .ok (.getfield 33, 3) := by decide +kernel
theorem dX4_solve_12 : decode cX4_solve 12 = .ok (.iload_n 1, 1) := by decide +kernel
theorem dX4_solve_13 : decode cX4_solve 13 = .ok (.faload, 1) := by decide +kernel
theorem dX4_solve_14 : decode cX4_solve 14 = .ok (.aload_n 0, 1) := by decide +kernel
theorem dX4_solve_15 : decode cX4_solve 15 = .ok (.iload_n 1, 1) := by decide +kernel
theorem dX4_solve_16 : decode cX4_solve 16 = .ok (.invokevirtual 182, 3) := by decide +kernel
theorem dX4_solve_19 : decode cX4_solve 19 = .ok (.fsub, 1) := by decide +kernel
theorem dX4_solve_20 : decode cX4_solve 20 = .ok (.aload_n 0, 1) := by decide +kernel
theorem dX4_solve_21 : decode cX4_solve 21 = .ok (.getfield 36, 3) := by decide +kernel
theorem dX4_solve_24 : decode cX4_solve 24 = .ok (.iload_n 1, 1) := by decide +kernel
theorem dX4_solve_25 : decode cX4_solve 25 = .ok (.faload, 1) := by decide +kernel
theorem dX4_solve_26 : decode cX4_solve 26 = .ok (.fload_n 2, 1) := by decide +kernel
theorem dX4_solve_27 : decode cX4_solve 27 = .ok (.fmul, 1) := by decide +kernel
theorem dX4_solve_28 : decode cX4_solve 28 = .ok (.fsub, 1) := by decide +kernel
theorem dX4_solve_29 : decode cX4_solve 29 = .ok (.aload_n 0, 1) := by decide +kernel
theorem dX4_solve_30 : decode cX4_solve 30 = .ok (.getfield 57, 3) := by decide +kernel
theorem dX4_solve_33 : decode cX4_solve 33 = .ok (.iload_n 1, 1) := by decide +kernel
theorem dX4_solve_34 : decode cX4_solve 34 = .ok (.faload, 1) := by decide +kernel
theorem dX4_solve_35 : decode cX4_solve 35 = .ok (.fdiv, 1) := by decide +kernel
theorem dX4_solve_36 : decode cX4_solve 36 = .ok (.fadd, 1) := by decide +kernel
theorem dX4_solve_37 : decode cX4_solve 37 = .ok (.fstore_n 3, 1) := by decide +kernel
theorem dX4_solve_38 : decode cX4_solve 38 = .ok (.aload_n 0, 1) := by decide +kernel
theorem dX4_solve_39 : decode cX4_solve 39 = .ok (.iload_n 1, 1) := by decide +kernel
theorem dX4_solve_40 : decode cX4_solve 40 = .ok (.fload_n 3, 1) := by decide +kernel
theorem dX4_solve_41 : decode cX4_solve 41 = .ok (.invokevirtual 136, 3) := by decide +kernel
theorem dX4_solve_44 : decode cX4_solve 44 = .ok (.fstore_n 3, 1) := by decide +kernel
theorem dX4_solve_45 : decode cX4_solve 45 = .ok (.aload_n 0, 1) := by decide +kernel
theorem dX4_solve_46 : decode cX4_solve 46 = .ok (.getfield 54, 3) := by decide +kernel
theorem dX4_solve_49 : decode cX4_solve 49 = .ok (.iload_n 1, 1) := by decide +kernel
theorem dX4_solve_50 : decode cX4_solve 50 = .ok (.fload_n 3, 1) := by decide +kernel
theorem dX4_solve_51 : decode cX4_solve 51 = .ok (.fastore, 1) := by decide +kernel
theorem dX4_solve_52 : decode cX4_solve 52 = .ok (.aload_n 0, 1) := by decide +kernel
theorem dX4_solve_53 : decode cX4_solve 53 = .ok (.iload_n 1, 1) := by decide +kernel
theorem dX4_solve_54 : decode cX4_solve 54 = .ok (.fload_n 3, 1) := by decide +kernel
theorem dX4_solve_55 : decode cX4_solve 55 = .ok (.fload_n 2, 1) := by decide +kernel
theorem dX4_solve_56 : decode cX4_solve 56 = .ok (.fsub, 1) := by decide +kernel
theorem dX4_solve_57 : decode cX4_solve 57 = .ok (.invokevirtual 185, 3) := by decide +kernel
theorem dX4_solve_60 : decode cX4_solve 60 = .ok (.return_, 1) := by decide +kernel
set_option maxRecDepth 20000 in
theorem ggX4_findIslands_X4_movable : GoodIn wsX4_findIslands wsX4_movable := goodIn_r _ [14, 15, 16, 17, 18, 19, 20, 21, 22, 23, 24, 25, 26, 27, 28, 29, 30, 31, 32, 33, 34, 35, 36, 37, 38, 39, 40, 41, 42, 43, 44, 45, 46, 47, 48, 49, 50] (by decide +kernel) (by decide +kernel)
set_option maxRecDepth 20000 in
theorem gX4_findIslands_X4_movable : GoodIn wsX4_findIslands (wsV RX4 119 RX4 yX4_movable wsX4_movable) := goodIn_app (goodIn_of _ (by decide +kernel)) ggX4_findIslands_X4_movable
theorem dX4_findIslands_0 : decode cX4_findIslands 0 = .ok (.iconst 0, 1) := by decide +kernel
theorem dX4_findIslands_1 : decode cX4_findIslands 1 = .ok (.istore_n 1, 1) := by decide +kernel
theorem dX4_findIslands_2 : decode cX4_findIslands 2 = .ok (.iload_n 1, 1) := by decide +kernel
theorem dX4_findIslands_3 : decode cX4_findIslands 3 = .ok (.aload_n 0, 1) := by decide +kernel
theorem dX4_findIslands_4 : decode cX4_findIslands 4 = .ok (.getfield 93, 3) := by decide +kernel
theorem dX4_findIslands_7 : decode cX4_findIslands 7 = .ok (.if_icmp .ge 28, 3) := by decide +kernel
theorem dX4_findIslands_10 : decode cX4_findIslands 10 = .ok (.aload_n 0, 1) := by decide +kernel
theorem dX4_findIslands_11 : decode cX4_findIslands 11 = .ok (.getfield 84, 3) := by decide +kernel
theorem dX4_findIslands_14 : decode cX4_findIslands 14 = .ok (.iload_n 1, 1) := by decide +kernel
theorem dX4_findIslands_15 : decode cX4_findIslands 15 = .ok (.aload_n 0, 1) := by decide +kernel
theorem dX4_findIslands_16 : decode cX4_findIslands 16 = .ok (.iload_n 1, 1) := by decide +kernel
theorem dX4_findIslands_17 : decode cX4_findIslands 17 = .ok (.invokevirtual 119, 3) := by decide +kernel
theorem dX4_findIslands_20 : decode cX4_findIslands 20 = .ok (.ifCond .eq 7, 3) := by decide +kernel
theorem dX4_findIslands_23 : decode cX4_findIslands 23 = .ok (.iload_n 1, 1) := by decide +kernel
theorem dX4_findIslands_24 : decode cX4_findIslands 24 = .ok (.goto 4, 3) := by decide +kernel
theorem dX4_findIslands_27 : decode cX4_findIslands 27 = .ok (.iconst (-1), 1) := by decide +kernel
theorem dX4_findIslands_28 : decode cX4_findIslands 28 = .ok (.iastore, 1) := by decide +kernel
theorem dX4_findIslands_29 : decode cX4_findIslands 29 = .ok (.iinc 1 1, 3) := by decide +kernel
theorem dX4_findIslands_32 : decode cX4_findIslands 32 = .ok (.goto (-30), 3) := by decide +kernel
theorem dX4_findIslands_35 : decode cX4_findIslands 35 = .ok (.iconst 1, 1) := by decide +kernel
theorem dX4_findIslands_36 : decode cX4_findIslands 36 = .ok (.istore_n 1, 1) := by decide +kernel
theorem dX4_findIslands_37 : decode cX4_findIslands 37 = .ok (.iconst 0, 1) := by decide +kernel
theorem dX4_findIslands_38 : decode cX4_findIslands 38 = .ok (.istore_n 2, 1) := by decide +kernel
theorem dX4_findIslands_39 : decode cX4_findIslands 39 = .ok (.iload_n 2, 1) := by decide +kernel
theorem dX4_findIslands_40 : decode cX4_findIslands 40 = .ok (.sipush 257, 3) := by decide +kernel
theorem dX4_findIslands_43 : decode cX4_findIslands 43 = .ok (.if_icmp .ge 138, 3) := by decide +kernel
theorem dX4_findIslands_46 : decode cX4_findIslands 46 = .ok (.iload_n 1, 1) := by decide +kernel
theorem dX4_findIslands_47 : decode cX4_findIslands 47 = .ok (.ifCond .eq 134, 3) := by decide +kernel
theorem dX4_findIslands_50 : decode cX4_findIslands 50 = .ok (.iconst 0, 1) := by decide +kernel
theorem dX4_findIslands_51 : decode cX4_findIslands 51 = .ok (.istore_n 1, 1) := by decide +kernel
theorem dX4_findIslands_52 : decode cX4_findIslands 52 = .ok (.iconst 0, 1) := by decide +kernel
theorem dX4_findIslands_53 : decode cX4_findIslands 53 = .ok (.istore_n 3, 1) := by decide +kernel
theorem dX4_findIslands_54 : decode cX4_findIslands 54 = .ok (.iload_n 3, 1) := by decide +kernel
theorem dX4_findIslands_55 : decode cX4_findIslands 55 = .ok (.aload_n 0, 1) := by decide +kernel
theorem dX4_findIslands_56 : decode cX4_findIslands 56 = .ok (.getfield 129, 3) := by decide +kernel
theorem dX4_findIslands_59 : decode cX4_findIslands 59 = .ok (.if_icmp .ge 116, 3) := by decide +kernel
theorem dX4_findIslands_62 : decode cX4_findIslands 62 = .ok (.aload_n 0, 1) := by decide +kernel
theorem dX4_findIslands_63 : decode cX4_findIslands 63 = .ok (.getfield 24, 3) := by decide +kernel
theorem dX4_findIslands_66 : decode cX4_findIslands 66 = .ok (.iload_n 3, 1) := by decide +kernel
theorem dX4_findIslands_67 : decode cX4_findIslands 67 = .ok (.iaload, 1) := by decide +kernel
theorem dX4_findIslands_68 : decode cX4_findIslands 68 = .ok (.istore 4, 2) := by decide +kernel
theorem dX4_findIslands_70 : decode cX4_findIslands 70 = .ok (.aload_n 0, 1) := by decide +kernel
theorem dX4_findIslands_71 : decode cX4_findIslands 71 = .ok (.getfield 27, 3) := by decide +kernel
theorem dX4_findIslands_74 : decode cX4_findIslands 74 = .ok (.iload_n 3, 1) := by decide +kernel
theorem dX4_findIslands_75 : decode cX4_findIslands 75 = .ok (.iaload, 1) := by decide +kernel
theorem dX4_findIslands_76 : decode cX4_findIslands 76 = .ok (.istore 5, 2) := by decide +kernel
theorem dX4_findIslands_78 : decode cX4_findIslands 78 = .ok (.aload_n 0, 1) := by decide +kernel
theorem dX4_findIslands_79 : decode cX4_findIslands 79 = .ok (.iload 4, 2) := by decide +kernel
theorem dX4_findIslands_81 : decode cX4_findIslands 81 = .ok (.invokevirtual 119, 3) := by decide +kernel
theorem dX4_findIslands_84 : decode cX4_findIslands 84 = .ok (.ifCond .eq 85, 3) := by decide +kernel
theorem dX4_findIslands_87 : decode cX4_findIslands 87 = .ok (.aload_n 0, 1) := by decide +kernel
theorem dX4_findIslands_88 : decode cX4_findIslands 88 = .ok (.iload 5, 2) := by decide +kernel
theorem dX4_findIslands_90 : decode cX4_findIslands 90 = .ok (.invokevirtual 119, 3) := by decide +kernel
theorem dX4_findIslands_93 : decode cX4_findIslands 93 = .ok (.ifCond .eq 76, 3) := by decide +kernel
theorem dX4_findIslands_96 : decode cX4_findIslands 96 = .ok (.aload_n 0, 1) := by decide +kernel
theorem dX4_findIslands_97 : decode cX4_findIslands 97 = .ok (.getfield 84, 3) := by decide +kernel
theorem dX4_findIslands_100 : decode cX4_findIslands 100 = .ok (.iload 4, 2) := by decide +kernel
theorem dX4_findIslands_102 : decode cX4_findIslands 102 = .ok (.iaload, 1) := by decide +kernel
theorem dX4_findIslands_103 : decode cX4_findIslands 103 = .ok (.aload_n 0, 1) := by decide +kernel
theorem dX4_findIslands_104 : decode cX4_findIslands 104 = .ok (.getfield 84, 3) := by decide +kernel
theorem dX4_findIslands_107 : decode cX4_findIslands 107 = .ok (.iload 5, 2) := by decide +kernel
theorem dX4_findIslands_109 : decode cX4_findIslands 109 = .ok (.iaload, 1) := by decide +kernel
theorem dX4_findIslands_110 : decode cX4_findIslands 110 = .ok (.if_icmp .eq 59, 3) := by decide +kernel
theorem dX4_findIslands_113 : decode cX4_findIslands 113 = .ok (.aload_n 0, 1) := by decide +kernel
theorem dX4_findIslands_114 : decode cX4_findIslands 114 = .ok (.getfield 84, 3) := by decide +kernel
theorem dX4_findIslands_117 : decode cX4_findIslands 117 = .ok (.iload 4, 2) := by decide +kernel
theorem dX4_findIslands_119 : decode cX4_findIslands 119 = .ok (.iaload, 1) := by decide +kernel
theorem dX4_findIslands_120 : decode cX4_findIslands 120 = .ok (.aload_n 0, 1) := by decide +kernel
theorem dX4_findIslands_121 : decode cX4_findIslands 121 = .ok (.getfield 84, 3) := by decide +kernel
theorem dX4_findIslands_124 : decode cX4_findIslands 124 = .ok (.iload 5, 2) := by decide +kernel
theorem dX4_findIslands_126 : decode cX4_findIslands 126 = .ok (.iaload, 1) := by decide +kernel
theorem dX4_findIslands_127 : decode cX4_findIslands 127 = .ok (.if_icmp .ge 13, 3) := by decide +kernel
theorem dX4_findIslands_130 : decode cX4_findIslands 130 = .ok (.aload_n 0, 1) := by decide +kernel
theorem dX4_findIslands_131 : decode cX4_findIslands 131 = .ok (.getfield 84, 3) := by decide +kernel
theorem dX4_findIslands_134 : decode cX4_findIslands 134 = .ok (.iload 4, 2) := by decide +kernel
theorem dX4_findIslands_136 : decode cX4_findIslands 136 = .ok (.iaload, 1) := by decide +kernel
theorem dX4_findIslands_137 : decode cX4_findIslands 137 = .ok (.goto 10, 3) := by decide +kernel
theorem dX4_findIslands_140 : decode cX4_findIslands 140 = .ok (.aload_n 0, 1) := by decide +kernel
theorem dX4_findIslands_141 : decode cX4_findIslands 141 = .ok (.getfield 84, 3) := by decide +kernel
theorem dX4_findIslands_144 : decode cX4_findIslands 144 = .ok (.iload 5, 2) := by decide +kernel
theorem dX4_findIslands_146 : decode cX4_findIslands 146 = .ok (.iaload, 1) := by decide +kernel
theorem dX4_findIslands_147 : decode cX4_findIslands 147 = .ok (.istore 6, 2) := by decide +kernel
theorem dX4_findIslands_149 : decode cX4_findIslands 149 = .ok (.aload_n 0, 1) := by decide +kernel
theorem dX4_findIslands_150 : decode cX4_findIslands 150 = .ok (.getfield 84, 3) := by decide +kernel
theorem dX4_findIslands_153 : decode cX4_findIslands 153 = .ok (.iload 4, 2) := by decide +kernel
theorem dX4_findIslands_155 : decode cX4_findIslands 155 = .ok (.iload 6, 2) := by decide +kernel
theorem dX4_findIslands_157 : decode cX4_findIslands 157 = .ok (.iastore, 1) := by decide +kernel
theorem dX4_findIslands_158 : decode cX4_findIslands 158 = .ok (.aload_n 0, 1) := by decide +kernel
theorem dX4_findIslands_159 : decode cX4_findIslands 159 = .ok (.getfield 84, 3) := by decide +kernel
theorem dX4_findIslands_162 : decode cX4_findIslands 162 = .ok (.iload 5, 2) := by decide +kernel
theorem dX4_findIslands_164 : decode cX4_findIslands 164 = .ok (.iload 6, 2) := by decide +kernel
theorem dX4_findIslands_166 : decode cX4_findIslands 166 = .ok (.iastore, 1) := by decide +kernel
theorem dX4_findIslands_167 : decode cX4_findIslands 167 = .ok (.iconst 1, 1) := by decide +kernel
theorem dX4_findIslands_168 : decode cX4_findIslands 168 = .ok (.istore_n 1, 1) := by decide +kernel
theorem dX4_findIslands_169 : decode cX4_findIslands 169 = .ok (.iinc 3 1, 3) := by decide +kernel
theorem dX4_findIslands_172 : decode cX4_findIslands 172 = .ok (.goto (-118), 3) := by decide +kernel
theorem dX4_findIslands_175 : decode cX4_findIslands 175 = .ok (.iinc 2 1, 3) := by decide +kernel
theorem dX4_findIslands_178 : decode cX4_findIslands 178 = .ok (.goto (-139), 3) := by decide +kernel
theorem dX4_findIslands_181 : decode cX4_findIslands 181 = .ok (.aload_n 0, 1) := by decide +kernel
theorem dX4_findIslands_182 : decode cX4_findIslands 182 = .ok (.iconst 0, 1) := by decide +kernel
theorem dX4_findIslands_183 : decode cX4_findIslands 183 = .ok (.putfield 189, 3) := by decide +kernel
theorem dX4_findIslands_186 : decode cX4_findIslands 186 = .ok (.iconst 0, 1) := by decide +kernel
theorem dX4_findIslands_187 : decode cX4_findIslands 187 = .ok (.istore_n 2, 1) := by decide +kernel
theorem dX4_findIslands_188 : decode cX4_findIslands 188 = .ok (.iload_n 2, 1) := by decide +kernel
theorem dX4_findIslands_189 : decode cX4_findIslands 189 = .ok (.aload_n 0, 1) := by decide +kernel
theorem dX4_findIslands_190 : decode cX4_findIslands 190 = .ok (.getfield 93, 3) := by decide +kernel
theorem dX4_findIslands_193 : decode cX4_findIslands 193 = .ok (.if_icmp .ge 87, 3) := by decide +kernel
theorem dX4_findIslands_196 : decode cX4_findIslands 196 = .ok (.aload_n 0, 1) := by decide +kernel
theorem dX4_findIslands_197 : decode cX4_findIslands 197 = .ok (.getfield 84, 3) := by decide +kernel
theorem dX4_findIslands_200 : decode cX4_findIslands 200 = .ok (.iload_n 2, 1) := by decide +kernel
theorem dX4_findIslands_201 : decode cX4_findIslands 201 = .ok (.iaload, 1) := by decide +kernel
theorem dX4_findIslands_202 : decode cX4_findIslands 202 = .ok (.iload_n 2, 1) := by decide +kernel
theorem dX4_findIslands_203 : decode cX4_findIslands 203 = .ok (.if_icmp .ne 7, 3) := by decide +kernel
theorem dX4_findIslands_206 : decode cX4_findIslands 206 = .ok (.iconst 1, 1) := by decide +kernel
theorem dX4_findIslands_207 : decode cX4_findIslands 207 = .ok (.goto 4, 3) := by decide +kernel
theorem dX4_findIslands_210 : decode cX4_findIslands 210 = .ok (.iconst 0, 1) := by decide +kernel
theorem dX4_findIslands_211 : decode cX4_findIslands 211 = .ok (.istore_n 3, 1) := by decide +kernel
theorem dX4_findIslands_212 : decode cX4_findIslands 212 = .ok (.aload_n 0, 1) := by decide +kernel
theorem dX4_findIslands_213 : decode cX4_findIslands 213 = .ok (.getfield 81, 3) := by decide +kernel
theorem dX4_findIslands_216 : decode cX4_findIslands 216 = .ok (.iload_n 2, 1) := by decide +kernel
theorem dX4_findIslands_217 : decode cX4_findIslands 217 = .ok (.aload_n 0, 1) := by decide +kernel
theorem dX4_findIslands_218 : decode cX4_findIslands 218 = .ok (.getfield 84, 3) := by decide +kernel
theorem dX4_findIslands_221 : decode cX4_findIslands 221 = .ok (.iload_n 2, 1) := by decide +kernel
theorem dX4_findIslands_222 : decode cX4_findIslands 222 = .ok (.iaload, 1) := by decide +kernel
theorem dX4_findIslands_223 : decode cX4_findIslands 223 = .ok (.ifCond .ge 7, 3) := by decide +kernel
theorem dX4_findIslands_226 : decode cX4_findIslands 226 = .ok (.iconst (-1), 1) := by decide +kernel
theorem dX4_findIslands_227 : decode cX4_findIslands 227 = .ok (.goto 25, 3) := by decide +kernel
theorem dX4_findIslands_230 : decode cX4_findIslands 230 = .ok (.iload_n 3, 1) := by decide +kernel
theorem dX4_findIslands_231 : decode cX4_findIslands 231 = .ok (.ifCond .eq 10, 3) := by decide +kernel
theorem dX4_findIslands_234 : decode cX4_findIslands 234 = .ok (.aload_n 0, 1) := by decide +kernel
theorem dX4_findIslands_235 : decode cX4_findIslands 235 = .ok (.getfield 189, 3) := by decide +kernel
theorem dX4_findIslands_238 : decode cX4_findIslands 238 = .ok (.goto 14, 3) := by decide +kernel
theorem dX4_findIslands_241 : decode cX4_findIslands 241 = .ok (.aload_n 0, 1) := by decide +kernel
theorem dX4_findIslands_242 : decode cX4_findIslands 242 = .ok (.getfield 81, 3) := by decide +kernel
theorem dX4_findIslands_245 : decode cX4_findIslands 245 = .ok (.aload_n 0, 1) := by decide +kernel
theorem dX4_findIslands_246 : decode cX4_findIslands 246 = .ok (.getfield 84, 3) := by decide +kernel
theorem dX4_findIslands_249 : decode cX4_findIslands 249 = .ok (.iload_n 2, 1) := by decide +kernel
theorem dX4_findIslands_250 : decode cX4_findIslands 250 = .ok (.iaload, 1) := by decide +kernel
theorem dX4_findIslands_251 : decode cX4_findIslands 251 = .ok (.iaload, 1) := by decide +kernel
theorem dX4_findIslands_252 : decode cX4_findIslands 252 = .ok (.iastore, 1) := by decide +kernel
theorem dX4_findIslands_253 : decode cX4_findIslands 253 = .ok (.aload_n 0, 1) := by decide +kernel
theorem dX4_findIslands_254 : decode cX4_findIslands 254 = .ok (.iload_n 3, 1) := by decide +kernel
theorem dX4_findIslands_255 : decode cX4_findIslands 255 = .ok (.ifCond .eq 12, 3) := by decide +kernel
theorem dX4_findIslands_258 : decode cX4_findIslands 258 = .ok (.aload_n 0, 1) := by decide +kernel
theorem dX4_findIslands_259 : decode cX4_findIslands 259 = .ok (.getfield 189, 3) := by decide +kernel
theorem dX4_findIslands_262 : decode cX4_findIslands 262 = .ok (.iconst 1, 1) := by decide +kernel
theorem dX4_findIslands_263 : decode cX4_findIslands 263 = .ok (.iadd, 1) := by decide +kernel
theorem dX4_findIslands_264 : decode cX4_findIslands 264 = .ok (.goto 7, 3) := by decide +kernel
theorem dX4_findIslands_267 : decode cX4_findIslands 267 = .ok (.aload_n 0, 1) := by decide +kernel
theorem dX4_findIslands_268 : decode cX4_findIslands 268 = .ok (.getfield 189, 3) := by decide +kernel
theorem dX4_findIslands_271 : decode cX4_findIslands 271 = .ok (.putfield 189, 3) := by decide +kernel
theorem dX4_findIslands_274 : decode cX4_findIslands 274 = .ok (.iinc 2 1, 3) := by decide +kernel
theorem dX4_findIslands_277 : decode cX4_findIslands 277 = .ok (.goto (-89), 3) := by decide +kernel
theorem dX4_findIslands_280 : decode cX4_findIslands 280 = .ok (.iconst 0, 1) := by decide +kernel
theorem dX4_findIslands_281 : decode cX4_findIslands 281 = .ok (.istore_n 2, 1) := by decide +kernel
theorem dX4_findIslands_282 : decode cX4_findIslands 282 = .ok (.iload_n 2, 1) := by decide +kernel
theorem dX4_findIslands_283 : decode cX4_findIslands 283 = .ok (.aload_n 0, 1) := by decide +kernel
theorem dX4_findIslands_284 : decode cX4_findIslands 284 = .ok (.getfield 189, 3) := by decide +kernel
theorem dX4_findIslands_287 : decode cX4_findIslands 287 = .ok (.if_icmp .ge 16, 3) := by decide +kernel
theorem dX4_findIslands_290 : decode cX4_findIslands 290 = .ok (.aload_n 0, 1) := by decide +kernel
theorem dX4_findIslands_291 : decode cX4_findIslands 291 = .ok (.getfield 87, 3) := by decide +kernel
theorem dX4_findIslands_294 : decode cX4_findIslands 294 = .ok (.iload_n 2, 1) := by decide +kernel
theorem dX4_findIslands_295 : decode cX4_findIslands 295 = .ok (.iconst 0, 1) := by decide +kernel
theorem dX4_findIslands_296 : decode cX4_findIslands 296 = .ok (.bastore, 1) := by decide +kernel
theorem dX4_findIslands_297 : decode cX4_findIslands 297 = .ok (.iinc 2 1, 3) := by decide +kernel
theorem dX4_findIslands_300 : decode cX4_findIslands 300 = .ok (.goto (-18), 3) := by decide +kernel
theorem dX4_findIslands_303 : decode cX4_findIslands 303 = .ok (.iconst 0, 1) := by decide +kernel
theorem dX4_findIslands_304 : decode cX4_findIslands 304 = .ok (.istore_n 2, 1) := by decide +kernel
theorem dX4_findIslands_305 : decode cX4_findIslands 305 = .ok (.iload_n 2, 1) := by decide +kernel
theorem dX4_findIslands_306 : decode cX4_findIslands 306 = .ok (.aload_n 0, 1) := by decide +kernel
theorem dX4_findIslands_307 : decode cX4_findIslands 307 = .ok (.getfield 93, 3) := by decide +kernel
theorem dX4_findIslands_310 : decode cX4_findIslands 310 = .ok (.if_icmp .ge 39, 3) := by decide +kernel
theorem dX4_findIslands_313 : decode cX4_findIslands 313 = .ok (.aload_n 0, 1) := by decide +kernel
theorem dX4_findIslands_314 : decode cX4_findIslands 314 = .ok (.getfield 81, 3) := by decide +kernel
theorem dX4_findIslands_317 : decode cX4_findIslands 317 = .ok (.iload_n 2, 1) := by decide +kernel
theorem dX4_findIslands_318 : decode cX4_findIslands 318 = .ok (.iaload, 1) := by decide +kernel
theorem dX4_findIslands_319 : decode cX4_findIslands 319 = .ok (.ifCond .lt 24, 3) := by decide +kernel
theorem dX4_findIslands_322 : decode cX4_findIslands 322 = .ok (.aload_n 0, 1) := by decide +kernel
theorem dX4_findIslands_323 : decode cX4_findIslands 323 = .ok (.getfield 13, 3) := by decide +kernel
theorem dX4_findIslands_326 : decode cX4_findIslands 326 = .ok (.iload_n 2, 1) := by decide +kernel
theorem dX4_findIslands_327 : decode cX4_findIslands 327 = .ok (.baload, 1) := by decide +kernel
theorem dX4_findIslands_328 : decode cX4_findIslands 328 = .ok (.ifCond .ne 15, 3) := by decide +kernel
theorem dX4_findIslands_331 : decode cX4_findIslands 331 = .ok (.aload_n 0, 1) := by decide +kernel
theorem dX4_findIslands_332 : decode cX4_findIslands 332 = .ok (.getfield 87, 3) := by decide +kernel
theorem dX4_findIslands_335 : decode cX4_findIslands 335 = .ok (.aload_n 0, 1) := by decide +kernel
theorem dX4_findIslands_336 : decode cX4_findIslands 336 = .ok (.getfield 81, 3) := by decide +kernel
theorem dX4_findIslands_339 : decode cX4_findIslands 339 = .ok (.iload_n 2, 1) := by decide +kernel
theorem dX4_findIslands_340 : decode cX4_findIslands 340 = .ok (.iaload, 1) := by decide +kernel
theorem dX4_findIslands_341 : decode cX4_findIslands 341 = .ok (.iconst 1, 1) := by decide +kernel
theorem dX4_findIslands_342 : decode cX4_findIslands 342 = .ok (.bastore, 1) := by decide +kernel
theorem dX4_findIslands_343 : decode cX4_findIslands 343 = .ok (.iinc 2 1, 3) := by decide +kernel
theorem dX4_findIslands_346 : decode cX4_findIslands 346 = .ok (.goto (-41), 3) := by decide +kernel
theorem dX4_findIslands_349 : decode cX4_findIslands 349 = .ok (.return_, 1) := by decide +kernel
theorem dX4_up_0 : decode cX4_up 0 = .ok (.iload_n 1, 1) := by decide +kernel
theorem dX4_up_1 : decode cX4_up 1 = .ok (.ifCond .lt 30, 3) := by decide +kernel
theorem dX4_up_4 : decode cX4_up 4 = .ok (.aload_n 0, 1) := by decide +kernel
theorem dX4_up_5 : decode cX4_up 5 = .ok (.getfield 81, 3) := by decide +kernel
theorem dX4_up_8 : decode cX4_up 8 = .ok (.iload_n 1, 1) := by decide +kernel
theorem dX4_up_9 : decode cX4_up 9 = .ok (.iaload, 1) := by decide +kernel
theorem dX4_up_10 : decode cX4_up 10 = .ok (.ifCond .lt 21, 3) := by decide +kernel
theorem dX4_up_13 : decode cX4_up 13 = .ok (.aload_n 0, 1) := by decide +kernel
theorem dX4_up_14 : decode cX4_up 14 = .ok (.getfield 87, 3) := by decide +kernel
theorem dX4_up_17 : decode cX4_up 17 = .ok (.aload_n 0, 1) := by decide +kernel
theorem dX4_up_18 : decode cX4_up 18 = .ok (.getfield 81, 3) := by decide +kernel
theorem dX4_up_21 : decode cX4_up 21 = .ok (.iload_n 1, 1) := by decide +kernel
theorem dX4_up_22 : decode cX4_up 22 = .ok (.iaload, 1) := by decide +kernel
theorem dX4_up_23 : decode cX4_up 23 = .ok (.baload, 1) := by decide +kernel
theorem dX4_up_24 : decode cX4_up 24 = .ok (.ifCond .eq 7, 3) := by decide +kernel
theorem dX4_up_27 : decode cX4_up 27 = .ok (.iconst 1, 1) := by decide +kernel
theorem dX4_up_28 : decode cX4_up 28 = .ok (.goto 4, 3) := by decide +kernel
theorem dX4_up_31 : decode cX4_up 31 = .ok (.iconst 0, 1) := by decide +kernel
theorem dX4_up_32 : decode cX4_up 32 = .ok (.ireturn, 1) := by decide +kernel
set_option maxRecDepth 20000 in
theorem ggX4_takesPart_X4_up : GoodIn wsX4_takesPart wsX4_up := goodIn_r _ [7, 8, 9, 10, 11, 12, 13, 14, 15, 16, 17, 18, 19, 20, 21, 22, 23, 24, 25, 26, 27, 28, 29, 30, 31, 32, 33, 34, 35, 36, 37, 38, 39, 40, 41, 42, 43, 44] (by decide +kernel) (by decide +kernel)
set_option maxRecDepth 20000 in
theorem gX4_takesPart_X4_up : GoodIn wsX4_takesPart (wsV RX4 192 RX4 yX4_up wsX4_up) := goodIn_app (goodIn_of _ (by decide +kernel)) ggX4_takesPart_X4_up
theorem dX4_takesPart_0 : decode cX4_takesPart 0 = .ok (.aload_n 0, 1) := by decide +kernel
theorem dX4_takesPart_1 : decode cX4_takesPart 1 = .ok (.aload_n 0, 1) := by decide +kernel
theorem dX4_takesPart_2 : decode cX4_takesPart 2 = .ok (.getfield 24, 3) := by decide +kernel
theorem dX4_takesPart_5 : decode cX4_takesPart 5 = .ok (.iload_n 1, 1) := by decide +kernel
theorem dX4_takesPart_6 : decode cX4_takesPart 6 = .ok (.iaload, 1) := by decide +kernel
theorem dX4_takesPart_7 : decode cX4_takesPart 7 = .ok (.invokevirtual 192, 3) := by decide +kernel
theorem dX4_takesPart_10 : decode cX4_takesPart 10 = .ok (.ifCond .ne 16, 3) := by decide +kernel
theorem dX4_takesPart_13 : decode cX4_takesPart 13 = .ok (.aload_n 0, 1) := by decide +kernel
theorem dX4_takesPart_14 : decode cX4_takesPart 14 = .ok (.aload_n 0, 1) := by decide +kernel
theorem dX4_takesPart_15 : decode cX4_takesPart 15 = .ok (.getfield 27, 3) := by decide +kernel
theorem dX4_takesPart_18 : decode cX4_takesPart 18 = .ok (.iload_n 1, 1) := by decide +kernel
theorem dX4_takesPart_19 : decode cX4_takesPart 19 = .ok (.iaload, 1) := by decide +kernel
theorem dX4_takesPart_20 : decode cX4_takesPart 20 = .ok (.invokevirtual 192, 3) := by decide +kernel
theorem dX4_takesPart_23 : decode cX4_takesPart 23 = .ok (.ifCond .eq 7, 3) := by decide +kernel
theorem dX4_takesPart_26 : decode cX4_takesPart 26 = .ok (.iconst 1, 1) := by decide +kernel
theorem dX4_takesPart_27 : decode cX4_takesPart 27 = .ok (.goto 4, 3) := by decide +kernel
theorem dX4_takesPart_30 : decode cX4_takesPart 30 = .ok (.iconst 0, 1) := by decide +kernel
theorem dX4_takesPart_31 : decode cX4_takesPart 31 = .ok (.ireturn, 1) := by decide +kernel
theorem dX4_square_0 : decode cX4_square 0 = .ok (.bipush 13, 2) := by decide +kernel
theorem dX4_square_2 : decode cX4_square 2 = .ok (.iload_n 1, 1) := by decide +kernel
theorem dX4_square_3 : decode cX4_square 3 = .ok (.imul, 1) := by decide +kernel
theorem dX4_square_4 : decode cX4_square 4 = .ok (.istore_n 2, 1) := by decide +kernel
theorem dX4_square_5 : decode cX4_square 5 = .ok (.aload_n 0, 1) := by decide +kernel
theorem dX4_square_6 : decode cX4_square 6 = .ok (.getfield 7, 3) := by decide +kernel
theorem dX4_square_9 : decode cX4_square 9 = .ok (.iload_n 2, 1) := by decide +kernel
theorem dX4_square_10 : decode cX4_square 10 = .ok (.faload, 1) := by decide +kernel
theorem dX4_square_11 : decode cX4_square 11 = .ok (.aload_n 0, 1) := by decide +kernel
theorem dX4_square_12 : decode cX4_square 12 = .ok (.getfield 7, 3) := by decide +kernel
theorem dX4_square_15 : decode cX4_square 15 = .ok (.iload_n 2, 1) := by decide +kernel
theorem dX4_square_16 : decode cX4_square 16 = .ok (.faload, 1) := by decide +kernel
theorem dX4_square_17 : decode cX4_square 17 = .ok (.fmul, 1) := by decide +kernel
theorem dX4_square_18 : decode cX4_square 18 = .ok (.aload_n 0, 1) := by decide +kernel
theorem dX4_square_19 : decode cX4_square 19 = .ok (.getfield 7, 3) := by decide +kernel
theorem dX4_square_22 : decode cX4_square 22 = .ok (.iload_n 2, 1) := by decide +kernel
theorem dX4_square_23 : decode cX4_square 23 = .ok (.iconst 1, 1) := by decide +kernel
theorem dX4_square_24 : decode cX4_square 24 = .ok (.iadd, 1) := by decide +kernel
theorem dX4_square_25 : decode cX4_square 25 = .ok (.faload, 1) := by decide +kernel
theorem dX4_square_26 : decode cX4_square 26 = .ok (.aload_n 0, 1) := by decide +kernel
theorem dX4_square_27 : decode cX4_square 27 = .ok (.getfield 7, 3) := by decide +kernel
theorem dX4_square_30 : decode cX4_square 30 = .ok (.iload_n 2, 1) := by decide +kernel
theorem dX4_square_31 : decode cX4_square 31 = .ok (.iconst 1, 1) := by decide +kernel
theorem dX4_square_32 : decode cX4_square 32 = .ok (.iadd, 1) := by decide +kernel
theorem dX4_square_33 : decode cX4_square 33 = .ok (.faload, 1) := by decide +kernel
theorem dX4_square_34 : decode cX4_square 34 = .ok (.fmul, 1) := by decide +kernel
theorem dX4_square_35 : decode cX4_square 35 = .ok (.fadd, 1) := by decide +kernel
theorem dX4_square_36 : decode cX4_square 36 = .ok (.aload_n 0, 1) := by decide +kernel
theorem dX4_square_37 : decode cX4_square 37 = .ok (.getfield 7, 3) := by decide +kernel
theorem dX4_square_40 : decode cX4_square 40 = .ok (.iload_n 2, 1) := by decide +kernel
theorem dX4_square_41 : decode cX4_square 41 = .ok (.iconst 2, 1) := by decide +kernel
theorem dX4_square_42 : decode cX4_square 42 = .ok (.iadd, 1) := by decide +kernel
theorem dX4_square_43 : decode cX4_square 43 = .ok (.faload, 1) := by decide +kernel
theorem dX4_square_44 : decode cX4_square 44 = .ok (.aload_n 0, 1) := by decide +kernel
theorem dX4_square_45 : decode cX4_square 45 = .ok (.getfield 7, 3) := by decide +kernel
theorem dX4_square_48 : decode cX4_square 48 = .ok (.iload_n 2, 1) := by decide +kernel
theorem dX4_square_49 : decode cX4_square 49 = .ok (.iconst 2, 1) := by decide +kernel
theorem dX4_square_50 : decode cX4_square 50 = .ok (.iadd, 1) := by decide +kernel
theorem dX4_square_51 : decode cX4_square 51 = .ok (.faload, 1) := by decide +kernel
theorem dX4_square_52 : decode cX4_square 52 = .ok (.fmul, 1) := by decide +kernel
theorem dX4_square_53 : decode cX4_square 53 = .ok (.fadd, 1) := by decide +kernel
theorem dX4_square_54 : decode cX4_square 54 = .ok (.fstore_n 3, 1) := by decide +kernel
theorem dX4_square_55 : decode cX4_square 55 = .ok (.aload_n 0, 1) := by decide +kernel
theorem dX4_square_56 : decode cX4_square 56 = .ok (.getfield 7, 3) := by decide +kernel
theorem dX4_square_59 : decode cX4_square 59 = .ok (.iload_n 2, 1) := by decide +kernel
theorem dX4_square_60 : decode cX4_square 60 = .ok (.iconst 3, 1) := by decide +kernel
theorem dX4_square_61 : decode cX4_square 61 = .ok (.iadd, 1) := by decide +kernel
theorem dX4_square_62 : decode cX4_square 62 = .ok (.faload, 1) := by decide +kernel
theorem dX4_square_63 : decode cX4_square 63 = .ok (.aload_n 0, 1) := by decide +kernel
theorem dX4_square_64 : decode cX4_square 64 = .ok (.getfield 7, 3) := by decide +kernel
theorem dX4_square_67 : decode cX4_square 67 = .ok (.iload_n 2, 1) := by decide +kernel
theorem dX4_square_68 : decode cX4_square 68 = .ok (.iconst 3, 1) := by decide +kernel
theorem dX4_square_69 : decode cX4_square 69 = .ok (.iadd, 1) := by decide +kernel
theorem dX4_square_70 : decode cX4_square 70 = .ok (.faload, 1) := by decide +kernel
theorem dX4_square_71 : decode cX4_square 71 = .ok (.fmul, 1) := by decide +kernel
theorem dX4_square_72 : decode cX4_square 72 = .ok (.aload_n 0, 1) := by decide +kernel
theorem dX4_square_73 : decode cX4_square 73 = .ok (.getfield 7, 3) := by decide +kernel
theorem dX4_square_76 : decode cX4_square 76 = .ok (.iload_n 2, 1) := by decide +kernel
theorem dX4_square_77 : decode cX4_square 77 = .ok (.iconst 4, 1) := by decide +kernel
theorem dX4_square_78 : decode cX4_square 78 = .ok (.iadd, 1) := by decide +kernel
theorem dX4_square_79 : decode cX4_square 79 = .ok (.faload, 1) := by decide +kernel
theorem dX4_square_80 : decode cX4_square 80 = .ok (.aload_n 0, 1) := by decide +kernel
theorem dX4_square_81 : decode cX4_square 81 = .ok (.getfield 7, 3) := by decide +kernel
theorem dX4_square_84 : decode cX4_square 84 = .ok (.iload_n 2, 1) := by decide +kernel
theorem dX4_square_85 : decode cX4_square 85 = .ok (.iconst 4, 1) := by decide +kernel
theorem dX4_square_86 : decode cX4_square 86 = .ok (.iadd, 1) := by decide +kernel
theorem dX4_square_87 : decode cX4_square 87 = .ok (.faload, 1) := by decide +kernel
theorem dX4_square_88 : decode cX4_square 88 = .ok (.fmul, 1) := by decide +kernel
theorem dX4_square_89 : decode cX4_square 89 = .ok (.fadd, 1) := by decide +kernel
theorem dX4_square_90 : decode cX4_square 90 = .ok (.aload_n 0, 1) := by decide +kernel
theorem dX4_square_91 : decode cX4_square 91 = .ok (.getfield 7, 3) := by decide +kernel
theorem dX4_square_94 : decode cX4_square 94 = .ok (.iload_n 2, 1) := by decide +kernel
theorem dX4_square_95 : decode cX4_square 95 = .ok (.iconst 5, 1) := by decide +kernel
theorem dX4_square_96 : decode cX4_square 96 = .ok (.iadd, 1) := by decide +kernel
theorem dX4_square_97 : decode cX4_square 97 = .ok (.faload, 1) := by decide +kernel
theorem dX4_square_98 : decode cX4_square 98 = .ok (.aload_n 0, 1) := by decide +kernel
theorem dX4_square_99 : decode cX4_square 99 = .ok (.getfield 7, 3) := by decide +kernel
theorem dX4_square_102 : decode cX4_square 102 = .ok (.iload_n 2, 1) := by decide +kernel
theorem dX4_square_103 : decode cX4_square 103 = .ok (.iconst 5, 1) := by decide +kernel
theorem dX4_square_104 : decode cX4_square 104 = .ok (.iadd, 1) := by decide +kernel
theorem dX4_square_105 : decode cX4_square 105 = .ok (.faload, 1) := by decide +kernel
theorem dX4_square_106 : decode cX4_square 106 = .ok (.fmul, 1) := by decide +kernel
theorem dX4_square_107 : decode cX4_square 107 = .ok (.fadd, 1) := by decide +kernel
theorem dX4_square_108 : decode cX4_square 108 = .ok (.fstore 4, 2) := by decide +kernel
theorem dX4_square_110 : decode cX4_square 110 = .ok (.fload_n 3, 1) := by decide +kernel
theorem dX4_square_111 : decode cX4_square 111 = .ok (.fload 4, 2) := by decide +kernel
theorem dX4_square_113 : decode cX4_square 113 = .ok (.fadd, 1) := by decide +kernel
theorem dX4_square_114 : decode cX4_square 114 = .ok (.freturn, 1) := by decide +kernel
set_option maxRecDepth 20000 in
theorem ggX4_settle_X4_up : GoodIn wsX4_settle wsX4_up := goodIn_r _ [16, 10, 8, 24, 25, 26, 27, 28, 29, 30, 31, 32, 33, 34, 35, 36, 37, 38, 39, 40, 41, 42, 43, 44, 45, 46, 47, 48, 49, 50, 51, 52, 53, 54, 55, 56, 57, 58] (by decide +kernel) (by decide +kernel)
set_option maxRecDepth 20000 in
theorem gX4_settle_X4_up : GoodIn wsX4_settle (wsV RX4 192 RX4 yX4_up wsX4_up) := goodIn_app (goodIn_of _ (by decide +kernel)) ggX4_settle_X4_up
set_option maxRecDepth 20000 in
theorem ggX4_settle_X4_held : GoodIn wsX4_settle wsX4_held := goodIn_r _ [19] (by decide +kernel) (by decide +kernel)
set_option maxRecDepth 20000 in
theorem gX4_settle_X4_held : GoodIn wsX4_settle (va_wsS RX4 125 yX4_held wsX4_held) := goodIn_app (goodIn_of _ (by decide +kernel)) ggX4_settle_X4_held
set_option maxRecDepth 20000 in
theorem ggX4_settle_X4_square : GoodIn wsX4_settle wsX4_square := goodIn_r _ [23, 2, 24, 25, 26, 27, 28, 29, 30, 31, 32, 33, 34, 35, 36, 37, 38, 39, 40, 41, 42, 43, 44, 45, 46, 47, 48, 49, 50, 51, 52, 53, 54, 55, 56, 57, 58] (by decide +kernel) (by decide +kernel)
set_option maxRecDepth 20000 in
theorem gX4_settle_X4_square : GoodIn wsX4_settle (wsV RX4 197 RX4 yX4_square wsX4_square) := goodIn_app (goodIn_of _ (by decide +kernel)) ggX4_settle_X4_square
theorem dX4_settle_0 : decode cX4_settle 0 = .ok (.iconst 0, 1) := by decide +kernel
theorem dX4_settle_1 : decode cX4_settle 1 = .ok (.istore_n 1, 1) := by decide +kernel
theorem dX4_settle_2 : decode cX4_settle 2 = .ok (.iload_n 1, 1) := by decide +kernel
theorem dX4_settle_3 : decode cX4_settle 3 = .ok (.aload_n 0, 1) := by decide +kernel
theorem dX4_settle_4 : decode cX4_settle 4 = .ok (.getfield 93, 3) := by decide +kernel
theorem dX4_settle_7 : decode cX4_settle 7 = .ok (.if_icmp .ge 91, 3) := by decide +kernel
theorem dX4_settle_10 : decode cX4_settle 10 = .ok (.aload_n 0, 1) := by decide +kernel
theorem dX4_settle_11 : decode cX4_settle 11 = .ok (.iload_n 1, 1) := by decide +kernel
theorem dX4_settle_12 : decode cX4_settle 12 = .ok (.invokevirtual 192, 3) := by decide +kernel
theorem dX4_settle_15 : decode cX4_settle 15 = .ok (.ifCond .eq 77, 3) := by decide +kernel
theorem dX4_settle_18 : decode cX4_settle 18 = .ok (.iconst 0, 1) := by decide +kernel
theorem dX4_settle_19 : decode cX4_settle 19 = .ok (.istore_n 2, 1) := by decide +kernel
theorem dX4_settle_20 : decode cX4_settle 20 = .ok (.iload_n 2, 1) := by decide +kernel
theorem dX4_settle_21 : decode cX4_settle 21 = .ok (.bipush 6, 2) := by decide +kernel
theorem dX4_settle_23 : decode cX4_settle 23 = .ok (.if_icmp .ge 38, 3) := by decide +kernel
theorem dX4_settle_26 : decode cX4_settle 26 = .ok (.aload_n 0, 1) := by decide +kernel
theorem dX4_settle_27 : decode cX4_settle 27 = .ok (.getfield 7, 3) := by decide +kernel
theorem dX4_settle_30 : decode cX4_settle 30 = .ok (.bipush 13, 2) := by decide +kernel
theorem dX4_settle_32 : decode cX4_settle 32 = .ok (.iload_n 1, 1) := by decide +kernel
theorem dX4_settle_33 : decode cX4_settle 33 = .ok (.imul, 1) := by decide +kernel
theorem dX4_settle_34 : decode cX4_settle 34 = .ok (.iload_n 2, 1) := by decide +kernel
theorem dX4_settle_35 : decode cX4_settle 35 = .ok (.iadd, 1) := by decide +kernel
theorem dX4_settle_36 : decode cX4_settle 36 = .ok (.aload_n 0, 1) := by decide +kernel
theorem dX4_settle_37 : decode cX4_settle 37 = .ok (.getfield 7, 3) := by decide +kernel
theorem dX4_settle_40 : decode cX4_settle 40 = .ok (.bipush 13, 2) := by decide +kernel
theorem dX4_settle_42 : decode cX4_settle 42 = .ok (.iload_n 1, 1) := by decide +kernel
theorem dX4_settle_43 : decode cX4_settle 43 = .ok (.imul, 1) := by decide +kernel
theorem dX4_settle_44 : decode cX4_settle 44 = .ok (.iload_n 2, 1) := by decide +kernel
theorem dX4_settle_45 : decode cX4_settle 45 = .ok (.iadd, 1) := by decide +kernel
theorem dX4_settle_46 : decode cX4_settle 46 = .ok (.faload, 1) := by decide +kernel
theorem dX4_settle_47 : decode cX4_settle 47 = .ok (.ldc 195, 2) := by decide +kernel
theorem dX4_settle_49 : decode cX4_settle 49 = .ok (.ldc 196, 2) := by decide +kernel
theorem dX4_settle_51 : decode cX4_settle 51 = .ok (.invokestatic 125, 3) := by decide +kernel
theorem dX4_settle_54 : decode cX4_settle 54 = .ok (.fastore, 1) := by decide +kernel
theorem dX4_settle_55 : decode cX4_settle 55 = .ok (.iinc 2 1, 3) := by decide +kernel
theorem dX4_settle_58 : decode cX4_settle 58 = .ok (.goto (-38), 3) := by decide +kernel
theorem dX4_settle_61 : decode cX4_settle 61 = .ok (.aload_n 0, 1) := by decide +kernel
theorem dX4_settle_62 : decode cX4_settle 62 = .ok (.getfield 17, 3) := by decide +kernel
theorem dX4_settle_65 : decode cX4_settle 65 = .ok (.iload_n 1, 1) := by decide +kernel
theorem dX4_settle_66 : decode cX4_settle 66 = .ok (.aload_n 0, 1) := by decide +kernel
theorem dX4_settle_67 : decode cX4_settle 67 = .ok (.iload_n 1, 1) := by decide +kernel
theorem dX4_settle_68 : decode cX4_settle 68 = .ok (.invokevirtual 197, 3) := by decide +kernel
theorem dX4_settle_71 : decode cX4_settle 71 = .ok (.aload_n 0, 1) := by decide +kernel
theorem dX4_settle_72 : decode cX4_settle 72 = .ok (.getfield 75, 3) := by decide +kernel
theorem dX4_settle_75 : decode cX4_settle 75 = .ok (.fcmp .g, 1) := by decide +kernel
theorem dX4_settle_76 : decode cX4_settle 76 = .ok (.ifCond .ge 14, 3) := by decide +kernel
theorem dX4_settle_79 : decode cX4_settle 79 = .ok (.aload_n 0, 1) := by decide +kernel
theorem dX4_settle_80 : decode cX4_settle 80 = .ok (.getfield 17, 3) := by decide +kernel
theorem dX4_settle_83 : decode cX4_settle 83 = .ok (.iload_n 1, 1) := by decide +kernel
theorem dX4_settle_84 : decode cX4_settle 84 = .ok (.iaload, 1) := by decide +kernel
theorem dX4_settle_85 : decode cX4_settle 85 = .ok (.iconst 1, 1) := by decide +kernel
theorem dX4_settle_86 : decode cX4_settle 86 = .ok (.iadd, 1) := by decide +kernel
theorem dX4_settle_87 : decode cX4_settle 87 = .ok (.goto 4, 3) := by decide +kernel
theorem dX4_settle_90 : decode cX4_settle 90 = .ok (.iconst 0, 1) := by decide +kernel
theorem dX4_settle_91 : decode cX4_settle 91 = .ok (.iastore, 1) := by decide +kernel
theorem dX4_settle_92 : decode cX4_settle 92 = .ok (.iinc 1 1, 3) := by decide +kernel
theorem dX4_settle_95 : decode cX4_settle 95 = .ok (.goto (-93), 3) := by decide +kernel
theorem dX4_settle_98 : decode cX4_settle 98 = .ok (.iconst 0, 1) := by decide +kernel
theorem dX4_settle_99 : decode cX4_settle 99 = .ok (.istore_n 1, 1) := by decide +kernel
theorem dX4_settle_100 : decode cX4_settle 100 = .ok (.iload_n 1, 1) := by decide +kernel
theorem dX4_settle_101 : decode cX4_settle 101 = .ok (.aload_n 0, 1) := by decide +kernel
theorem dX4_settle_102 : decode cX4_settle 102 = .ok (.getfield 189, 3) := by decide +kernel
theorem dX4_settle_105 : decode cX4_settle 105 = .ok (.if_icmp .ge 146, 3) := by decide +kernel
theorem dX4_settle_108 : decode cX4_settle 108 = .ok (.aload_n 0, 1) := by decide +kernel
theorem dX4_settle_109 : decode cX4_settle 109 = .ok (.getfield 87, 3) := by decide +kernel
theorem dX4_settle_112 : decode cX4_settle 112 = .ok (.iload_n 1, 1) := by decide +kernel
theorem dX4_settle_113 : decode cX4_settle 113 = .ok (.baload, 1) := by decide +kernel
theorem dX4_settle_114 : decode cX4_settle 114 = .ok (.ifCond .eq 14, 3) := by decide +kernel
theorem dX4_settle_117 : decode cX4_settle 117 = .ok (.aload_n 0, 1) := by decide +kernel
theorem dX4_settle_118 : decode cX4_settle 118 = .ok (.getfield 151, 3) := by decide +kernel
theorem dX4_settle_121 : decode cX4_settle 121 = .ok (.ifCond .le 7, 3) := by decide +kernel
theorem dX4_settle_124 : decode cX4_settle 124 = .ok (.iconst 1, 1) := by decide +kernel
theorem dX4_settle_125 : decode cX4_settle 125 = .ok (.goto 4, 3) := by decide +kernel
theorem dX4_settle_128 : decode cX4_settle 128 = .ok (.iconst 0, 1) := by decide +kernel
theorem dX4_settle_129 : decode cX4_settle 129 = .ok (.istore_n 2, 1) := by decide +kernel
theorem dX4_settle_130 : decode cX4_settle 130 = .ok (.iconst 0, 1) := by decide +kernel
theorem dX4_settle_131 : decode cX4_settle 131 = .ok (.istore_n 3, 1) := by decide +kernel
theorem dX4_settle_132 : decode cX4_settle 132 = .ok (.iload_n 3, 1) := by decide +kernel
theorem dX4_settle_133 : decode cX4_settle 133 = .ok (.aload_n 0, 1) := by decide +kernel
theorem dX4_settle_134 : decode cX4_settle 134 = .ok (.getfield 93, 3) := by decide +kernel
theorem dX4_settle_137 : decode cX4_settle 137 = .ok (.if_icmp .ge 42, 3) := by decide +kernel
theorem dX4_settle_140 : decode cX4_settle 140 = .ok (.iload_n 2, 1) := by decide +kernel
theorem dX4_settle_141 : decode cX4_settle 141 = .ok (.ifCond .eq 30, 3) := by decide +kernel
theorem dX4_settle_144 : decode cX4_settle 144 = .ok (.aload_n 0, 1) := by decide +kernel
theorem dX4_settle_145 : decode cX4_settle 145 = .ok (.getfield 81, 3) := by decide +kernel
theorem dX4_settle_148 : decode cX4_settle 148 = .ok (.iload_n 3, 1) := by decide +kernel
theorem dX4_settle_149 : decode cX4_settle 149 = .ok (.iaload, 1) := by decide +kernel
theorem dX4_settle_150 : decode cX4_settle 150 = .ok (.iload_n 1, 1) := by decide +kernel
theorem dX4_settle_151 : decode cX4_settle 151 = .ok (.if_icmp .ne 16, 3) := by decide +kernel
theorem dX4_settle_154 : decode cX4_settle 154 = .ok (.aload_n 0, 1) := by decide +kernel
theorem dX4_settle_155 : decode cX4_settle 155 = .ok (.getfield 17, 3) := by decide +kernel
theorem dX4_settle_158 : decode cX4_settle 158 = .ok (.iload_n 3, 1) := by decide +kernel
theorem dX4_settle_159 : decode cX4_settle 159 = .ok (.iaload, 1) := by decide +kernel
theorem dX4_settle_160 : decode cX4_settle 160 = .ok (.aload_n 0, 1) := by decide +kernel
theorem dX4_settle_161 : decode cX4_settle 161 = .ok (.getfield 151, 3) := by decide +kernel
theorem dX4_settle_164 : decode cX4_settle 164 = .ok (.if_icmp .lt 7, 3) := by decide +kernel
theorem dX4_settle_167 : decode cX4_settle 167 = .ok (.iconst 1, 1) := by decide +kernel
theorem dX4_settle_168 : decode cX4_settle 168 = .ok (.goto 4, 3) := by decide +kernel
theorem dX4_settle_171 : decode cX4_settle 171 = .ok (.iconst 0, 1) := by decide +kernel
theorem dX4_settle_172 : decode cX4_settle 172 = .ok (.istore_n 2, 1) := by decide +kernel
theorem dX4_settle_173 : decode cX4_settle 173 = .ok (.iinc 3 1, 3) := by decide +kernel
theorem dX4_settle_176 : decode cX4_settle 176 = .ok (.goto (-44), 3) := by decide +kernel
theorem dX4_settle_179 : decode cX4_settle 179 = .ok (.iconst 0, 1) := by decide +kernel
theorem dX4_settle_180 : decode cX4_settle 180 = .ok (.istore_n 3, 1) := by decide +kernel
theorem dX4_settle_181 : decode cX4_settle 181 = .ok (.iload_n 3, 1) := by decide +kernel
theorem dX4_settle_182 : decode cX4_settle 182 = .ok (.aload_n 0, 1) := by decide +kernel
theorem dX4_settle_183 : decode cX4_settle 183 = .ok (.getfield 93, 3) := by decide +kernel
theorem dX4_settle_186 : decode cX4_settle 186 = .ok (.if_icmp .ge 59, 3) := by decide +kernel
theorem dX4_settle_189 : decode cX4_settle 189 = .ok (.iload_n 2, 1) := by decide +kernel
theorem dX4_settle_190 : decode cX4_settle 190 = .ok (.ifCond .eq 49, 3) := by decide +kernel
theorem dX4_settle_193 : decode cX4_settle 193 = .ok (.aload_n 0, 1) := by decide +kernel
theorem dX4_settle_194 : decode cX4_settle 194 = .ok (.getfield 81, 3) := by decide +kernel
theorem dX4_settle_197 : decode cX4_settle 197 = .ok (.iload_n 3, 1) := by decide +kernel
theorem dX4_settle_198 : decode cX4_settle 198 = .ok (.iaload, 1) := by decide +kernel
theorem dX4_settle_199 : decode cX4_settle 199 = .ok (.iload_n 1, 1) := by decide +kernel
theorem dX4_settle_200 : decode cX4_settle 200 = .ok (.if_icmp .ne 39, 3) := by decide +kernel
theorem dX4_settle_203 : decode cX4_settle 203 = .ok (.aload_n 0, 1) := by decide +kernel
theorem dX4_settle_204 : decode cX4_settle 204 = .ok (.getfield 13, 3) := by decide +kernel
theorem dX4_settle_207 : decode cX4_settle 207 = .ok (.iload_n 3, 1) := by decide +kernel
theorem dX4_settle_208 : decode cX4_settle 208 = .ok (.iconst 1, 1) := by decide +kernel
theorem dX4_settle_209 : decode cX4_settle 209 = .ok (.bastore, 1) := by decide +kernel
theorem dX4_settle_210 : decode cX4_settle 210 = .ok (.iconst 0, 1) := by decide +kernel
theorem dX4_settle_211 : decode cX4_settle 211 = .ok (.istore 4, 2) := by decide +kernel
theorem dX4_settle_213 : decode cX4_settle 213 = .ok (.iload 4, 2) := by decide +kernel
theorem dX4_settle_215 : decode cX4_settle 215 = .ok (.bipush 6, 2) := by decide +kernel
theorem dX4_settle_217 : decode cX4_settle 217 = .ok (.if_icmp .ge 22, 3) := by decide +kernel
theorem dX4_settle_220 : decode cX4_settle 220 = .ok (.aload_n 0, 1) := by decide +kernel
theorem dX4_settle_221 : decode cX4_settle 221 = .ok (.getfield 7, 3) := by decide +kernel
theorem dX4_settle_224 : decode cX4_settle 224 = .ok (.bipush 13, 2) := by decide +kernel
theorem dX4_settle_226 : decode cX4_settle 226 = .ok (.iload_n 3, 1) := by decide +kernel
theorem dX4_settle_227 : decode cX4_settle 227 = .ok (.imul, 1) := by decide +kernel
theorem dX4_settle_228 : decode cX4_settle 228 = .ok (.iload 4, 2) := by decide +kernel
theorem dX4_settle_230 : decode cX4_settle 230 = .ok (.iadd, 1) := by decide +kernel
theorem dX4_settle_231 : decode cX4_settle 231 = .ok (.fconst 0, 1) := by decide +kernel
theorem dX4_settle_232 : decode cX4_settle 232 = .ok (.fastore, 1) := by decide +kernel
theorem dX4_settle_233 : decode cX4_settle 233 = .ok (.iinc 4 1, 3) := by decide +kernel
theorem dX4_settle_236 : decode cX4_settle 236 = .ok (.goto (-23), 3) := by decide +kernel
theorem dX4_settle_239 : decode cX4_settle 239 = .ok (.iinc 3 1, 3) := by decide +kernel
theorem dX4_settle_242 : decode cX4_settle 242 = .ok (.goto (-61), 3) := by decide +kernel
theorem dX4_settle_245 : decode cX4_settle 245 = .ok (.iinc 1 1, 3) := by decide +kernel
theorem dX4_settle_248 : decode cX4_settle 248 = .ok (.goto (-148), 3) := by decide +kernel
theorem dX4_settle_251 : decode cX4_settle 251 = .ok (.return_, 1) := by decide +kernel
set_option maxRecDepth 20000 in
theorem ggX4_once_X4_findIslands : GoodIn wsX4_once wsX4_findIslands := goodIn_r _ [13, 1, 14, 3, 15, 16, 17, 18, 19, 2, 20, 21, 22, 12, 23, 24, 108, 109, 110, 111, 112, 113, 114, 115, 116, 117, 118, 119, 120, 121, 122, 123, 124, 125, 126, 127, 128, 129, 130, 131, 132, 133, 134, 135, 136, 137, 138, 139, 140, 141, 142] (by decide +kernel) (by decide +kernel)
set_option maxRecDepth 20000 in
theorem gX4_once_X4_findIslands : GoodIn wsX4_once (wsV RX4 200 RX4 yX4_findIslands wsX4_findIslands) := goodIn_app (goodIn_of _ (by decide +kernel)) ggX4_once_X4_findIslands
set_option maxRecDepth 20000 in
theorem ggX4_once_X4_up : GoodIn wsX4_once wsX4_up := goodIn_r _ [28, 18, 19, 108, 109, 110, 111, 112, 113, 114, 115, 116, 117, 118, 119, 120, 121, 122, 123, 124, 125, 126, 127, 128, 129, 130, 131, 132, 133, 134, 135, 136, 137, 138, 139, 140, 141, 142] (by decide +kernel) (by decide +kernel)
set_option maxRecDepth 20000 in
theorem gX4_once_X4_up : GoodIn wsX4_once (wsV RX4 192 RX4 yX4_up wsX4_up) := goodIn_app (goodIn_of _ (by decide +kernel)) ggX4_once_X4_up
set_option maxRecDepth 20000 in
theorem ggX4_once_X4_rouse : GoodIn wsX4_once wsX4_rouse := goodIn_r _ [32, 2, 33, 108, 109, 110, 111, 112, 113, 114, 115, 116, 117, 118, 119, 120, 121, 122, 123, 124, 125, 126, 127, 128, 129, 130, 131, 132, 133, 134, 135, 136, 137, 138, 139, 140, 141, 142] (by decide +kernel) (by decide +kernel)
set_option maxRecDepth 20000 in
theorem gX4_once_X4_rouse : GoodIn wsX4_once (wsV RX4 111 RX4 yX4_rouse wsX4_rouse) := goodIn_app (goodIn_of _ (by decide +kernel)) ggX4_once_X4_rouse
set_option maxRecDepth 20000 in
theorem ggX4_once_X4_stiffness : GoodIn wsX4_once wsX4_stiffness := goodIn_r _ [37, 38, 15, 39, 40, 41, 16, 42, 43, 44, 45, 12, 46, 24, 20, 21, 22, 23, 47, 48, 49, 50, 108, 109, 110, 111, 112, 113, 114, 115, 116, 117, 118, 119, 120, 121, 122, 123, 124, 125, 126, 127, 128, 129, 130, 131, 132, 133, 134, 135, 136, 137, 138, 139, 140, 141, 142] (by decide +kernel) (by decide +kernel)
set_option maxRecDepth 20000 in
theorem gX4_once_X4_stiffness : GoodIn wsX4_once (wsV RX4 203 RX4 yX4_stiffness wsX4_stiffness) := goodIn_app (goodIn_of _ (by decide +kernel)) ggX4_once_X4_stiffness
set_option maxRecDepth 20000 in
theorem ggX4_once_X4_takesPart : GoodIn wsX4_once wsX4_takesPart := goodIn_r _ [54, 15, 16, 25, 26, 27, 12, 28, 18, 19, 108, 109, 110, 111, 112, 113, 114, 115, 116, 117, 118, 119, 120, 121, 122, 123, 124, 125, 126, 127, 128, 129, 130, 131, 132, 133, 134, 135, 136, 137, 138, 139, 140, 141, 142] (by decide +kernel) (by decide +kernel)
set_option maxRecDepth 20000 in
theorem gX4_once_X4_takesPart : GoodIn wsX4_once (wsV RX4 206 RX4 yX4_takesPart wsX4_takesPart) := goodIn_app (goodIn_of _ (by decide +kernel)) ggX4_once_X4_takesPart
set_option maxRecDepth 20000 in
theorem ggX4_once_X4_dead : GoodIn wsX4_once wsX4_dead := goodIn_r _ [58, 59, 15, 16, 20, 21, 22, 12, 23, 24, 108, 109, 110, 111, 112, 113, 114, 115, 116, 117, 118, 119, 120, 121, 122, 123, 124, 125, 126, 127, 128, 129, 130, 131, 132, 133, 134, 135, 136, 137, 138, 139, 140, 141, 142] (by decide +kernel) (by decide +kernel)
set_option maxRecDepth 20000 in
theorem gX4_once_X4_dead : GoodIn wsX4_once (wsV RX4 209 RX4 yX4_dead wsX4_dead) := goodIn_app (goodIn_of _ (by decide +kernel)) ggX4_once_X4_dead
set_option maxRecDepth 20000 in
theorem ggX4_once_X4_limited : GoodIn wsX4_once wsX4_limited := goodIn_r _ [63, 64, 65, 66, 67, 5, 68, 69, 12, 70, 108, 109, 110, 111, 112, 113, 114, 115, 116, 117, 118, 119, 120, 121, 122, 123, 124, 125, 126, 127, 128, 129, 130, 131, 132, 133, 134, 135, 136, 137, 138, 139, 140, 141, 142] (by decide +kernel) (by decide +kernel)
set_option maxRecDepth 20000 in
theorem gX4_once_X4_limited : GoodIn wsX4_once (wsV RX4 136 RX4 yX4_limited wsX4_limited) := goodIn_app (goodIn_of _ (by decide +kernel)) ggX4_once_X4_limited
set_option maxRecDepth 20000 in
theorem ggX4_once_X4_apply : GoodIn wsX4_once wsX4_apply := goodIn_r _ [74, 15, 16, 24, 38, 20, 21, 22, 12, 23, 43, 44, 45, 46, 39, 40, 41, 75, 76, 77, 78, 79, 80, 81, 82, 108, 109, 110, 111, 112, 113, 114, 115, 116, 117, 118, 119, 120, 121, 122, 123, 124, 125, 126, 127, 128, 129, 130, 131, 132, 133, 134, 135, 136, 137, 138, 139, 140, 141, 142] (by decide +kernel) (by decide +kernel)
set_option maxRecDepth 20000 in
theorem gX4_once_X4_apply : GoodIn wsX4_once (wsV RX4 185 RX4 yX4_apply wsX4_apply) := goodIn_app (goodIn_of _ (by decide +kernel)) ggX4_once_X4_apply
set_option maxRecDepth 20000 in
theorem ggX4_once_X4_solve : GoodIn wsX4_once wsX4_solve := goodIn_r _ [86, 5, 87, 42, 4, 88, 89, 90, 12, 91, 15, 16, 92, 93, 94, 95, 38, 24, 60, 61, 62, 63, 64, 65, 66, 67, 68, 69, 70, 71, 72, 73, 74, 20, 21, 22, 23, 43, 44, 45, 46, 39, 40, 41, 75, 76, 77, 78, 79, 80, 81, 82, 108, 109, 110, 111, 112, 113, 114, 115, 116, 117, 118, 119, 120, 121, 122, 123, 124, 125, 126, 127, 128, 129, 130, 131, 132, 133, 134, 135, 136, 137, 138, 139, 140, 141, 142] (by decide +kernel) (by decide +kernel)
set_option maxRecDepth 20000 in
theorem gX4_once_X4_solve : GoodIn wsX4_once (wsV RX4 213 RX4 yX4_solve wsX4_solve) := goodIn_app (goodIn_of _ (by decide +kernel)) ggX4_once_X4_solve
set_option maxRecDepth 20000 in
theorem ggX4_once_X4_settle : GoodIn wsX4_once wsX4_settle := goodIn_r _ [99, 1, 24, 100, 101, 33, 102, 17, 19, 103, 18, 2, 25, 26, 27, 12, 28, 68, 69, 70, 104, 105, 106, 107, 108, 109, 110, 111, 112, 113, 114, 115, 116, 117, 118, 119, 120, 121, 122, 123, 124, 125, 126, 127, 128, 129, 130, 131, 132, 133, 134, 135, 136, 137, 138, 139, 140, 141, 142] (by decide +kernel) (by decide +kernel)
set_option maxRecDepth 20000 in
theorem gX4_once_X4_settle : GoodIn wsX4_once (wsV RX4 216 RX4 yX4_settle wsX4_settle) := goodIn_app (goodIn_of _ (by decide +kernel)) ggX4_once_X4_settle

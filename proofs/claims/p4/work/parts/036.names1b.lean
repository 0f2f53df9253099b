theorem wsL_law_x0 : ∀ w ∈ (vx_atS RX3 82 "java/lang/IllegalArgumentException" ["java/lang/RuntimeException", "java/lang/Exception"]).filter goodWord, w ∈ lw_tbl := by decide +kernel
theorem wsL_law_x1 : ∀ w ∈ (vx_atS RX3 93 "java/lang/IllegalStateException" ["java/lang/RuntimeException", "java/lang/Exception"]).filter goodWord, w ∈ lw_tbl := by decide +kernel
theorem wsL_law_x2 : ∀ w ∈ (vx_atS RX3 148 "java/lang/IndexOutOfBoundsException" ["java/lang/RuntimeException", "java/lang/Exception"]).filter goodWord, w ∈ lw_tbl := by decide +kernel
theorem wsL_law_in : ∀ w ∈ wsL_law, w ∈ lw_tbl := fun w h => (List.mem_append.mp h).elim (fun h => (List.mem_append.mp h).elim (fun h => (List.mem_append.mp h).elim (fun h => wsL_law_in0 w h) (fun h => wsL_law_x0 w h)) (fun h => wsL_law_x1 w h)) (fun h => wsL_law_x2 w h)
theorem inlX0 : ∀ w ∈ wsX00, w ∈ wsL_law := fun _ h => List.mem_append_left _ (List.mem_append_left _ (List.mem_append_left _ (List.mem_append_left _ (List.mem_append_left _ (List.mem_append_right _ h)))))
theorem inX0 : ∀ w ∈ wsX00, w ∈ lw_tbl := fun w h => wsL_law_in w (inlX0 w h)
theorem inlX1 : ∀ w ∈ wsX10, w ∈ wsL_law := fun _ h => List.mem_append_left _ (List.mem_append_left _ (List.mem_append_left _ (List.mem_append_left _ (List.mem_append_right _ h))))
theorem inX1 : ∀ w ∈ wsX10, w ∈ lw_tbl := fun w h => wsL_law_in w (inlX1 w h)
theorem inlX2 : ∀ w ∈ wsX20, w ∈ wsL_law := fun _ h => List.mem_append_left _ (List.mem_append_left _ (List.mem_append_left _ (List.mem_append_left _ (List.mem_append_left _ (List.mem_append_left _ (List.mem_append_right _ h))))))
theorem inX2 : ∀ w ∈ wsX20, w ∈ lw_tbl := fun w h => wsL_law_in w (inlX2 w h)
theorem inlX3 : ∀ w ∈ wsX30, w ∈ wsL_law := fun _ h => List.mem_append_left _ (List.mem_append_left _ (List.mem_append_left _ (List.mem_append_left _ (List.mem_append_left _ (List.mem_append_left _ (List.mem_append_left _ (List.mem_append_left _ (List.mem_append_left _ (List.mem_append_right _ h)))))))))
theorem inX3 : ∀ w ∈ wsX30, w ∈ lw_tbl := fun w h => wsL_law_in w (inlX3 w h)
theorem inlX4 : ∀ w ∈ wsX40, w ∈ wsL_law := fun _ h => List.mem_append_left _ (List.mem_append_left _ (List.mem_append_left _ (List.mem_append_left _ (List.mem_append_left _ (List.mem_append_left _ (List.mem_append_left _ (List.mem_append_left _ (List.mem_append_right _ h))))))))
theorem inX4 : ∀ w ∈ wsX40, w ∈ lw_tbl := fun w h => wsL_law_in w (inlX4 w h)
theorem inJx145de : ∀ w ∈ wsJx145de0, w ∈ lw_tbl := by decide +kernel
theorem inJx8e188 : ∀ w ∈ wsJx8e1880, w ∈ lw_tbl := by decide +kernel
theorem inJxab1ab : ∀ w ∈ wsJxab1ab0, w ∈ lw_tbl := by decide +kernel
theorem inJ9 : ∀ w ∈ wsJ90, w ∈ lw_tbl := by decide +kernel
theorem inJ0 : ∀ w ∈ wsJ00, w ∈ lw_tbl := by decide +kernel
theorem inJ10 : ∀ w ∈ wsJ100, w ∈ lw_tbl := by decide +kernel
theorem inJxa1e45 : ∀ w ∈ wsJxa1e450, w ∈ lw_tbl := by decide +kernel
theorem inJxc12de : ∀ w ∈ wsJxc12de0, w ∈ lw_tbl := by decide +kernel
theorem inlJx4a65c : ∀ w ∈ wsJx4a65c0, w ∈ wsL_law := fun _ h => List.mem_append_left _ (List.mem_append_left _ (List.mem_append_left _ (List.mem_append_left _ (List.mem_append_left _ (List.mem_append_left _ (List.mem_append_left _ (List.mem_append_right _ h)))))))
theorem inJx4a65c : ∀ w ∈ wsJx4a65c0, w ∈ lw_tbl := fun w h => wsL_law_in w (inlJx4a65c w h)
theorem inJ7 : ∀ w ∈ wsJ70, w ∈ lw_tbl := by decide +kernel
theorem inJx5ef63 : ∀ w ∈ wsJx5ef630, w ∈ lw_tbl := by decide +kernel
theorem inJxbd725 : ∀ w ∈ wsJxbd7250, w ∈ lw_tbl := by decide +kernel
theorem inJ15 : ∀ w ∈ wsJ150, w ∈ lw_tbl := by decide +kernel
theorem inJxf0a74 : ∀ w ∈ wsJxf0a740, w ∈ lw_tbl := by decide +kernel
theorem inJxa66e6 : ∀ w ∈ wsJxa66e60, w ∈ lw_tbl := by decide +kernel
theorem inJ8 : ∀ w ∈ wsJ80, w ∈ lw_tbl := by decide +kernel
theorem inJ3 : ∀ w ∈ wsJ30, w ∈ lw_tbl := by decide +kernel
set_option maxRecDepth 20000 in
theorem ggX0_init_X2_init : GoodIn wsX0_init wsX2_init := goodIn_r _ [17, 18, 2, 3] (by decide +kernel) (by decide +kernel)
set_option maxRecDepth 20000 in
theorem gX0_init_X2_init_n11 : GoodIn wsX0_init (wsX2_init) := ggX0_init_X2_init
theorem dX0_init_0 : decode cX0_init 0 = .ok (.aload_n 0, 1) := by decide +kernel
theorem dX0_init_1 : decode cX0_init 1 = .ok (.invokespecial 3, 3) := by decide +kernel
theorem dX0_init_4 : decode cX0_init 4 = .ok (.aload_n 0, 1) := by decide +kernel
theorem dX0_init_5 : decode cX0_init 5 = .ok (.new 9, 3) := by decide +kernel
theorem dX0_init_8 : decode cX0_init 8 = .ok (.dup, 1) := by decide +kernel
theorem dX0_init_9 : decode cX0_init 9 = .ok (.invokespecial 11, 3) := by decide +kernel
theorem dX0_init_12 : decode cX0_init 12 = .ok (.putfield 12, 3) := by decide +kernel
theorem dX0_init_15 : decode cX0_init 15 = .ok (.aload_n 0, 1) := by decide +kernel
theorem dX0_init_16 : decode cX0_init 16 = .ok (.new 9, 3) := by decide +kernel
theorem dX0_init_19 : decode cX0_init 19 = .ok (.dup, 1) := by decide +kernel
theorem dX0_init_20 : decode cX0_init 20 = .ok (.invokespecial 11, 3) := by decide +kernel
theorem dX0_init_23 : decode cX0_init 23 = .ok (.putfield 18, 3) := by decide +kernel
theorem dX0_init_26 : decode cX0_init 26 = .ok (.aload_n 0, 1) := by decide +kernel
theorem dX0_init_27 : decode cX0_init 27 = .ok (.iconst (-1), 1) := by decide +kernel
theorem dX0_init_28 : decode cX0_init 28 = .ok (.putfield 21, 3) := by decide +kernel
theorem dX0_init_31 : decode cX0_init 31 = .ok (.aload_n 0, 1) := by decide +kernel
theorem dX0_init_32 : decode cX0_init 32 = .ok (.iload_n 1, 1) := by decide +kernel
theorem dX0_init_33 : decode cX0_init 33 = .ok (.putfield 25, 3) := by decide +kernel
theorem dX0_init_36 : decode cX0_init 36 = .ok (.aload_n 0, 1) := by decide +kernel
theorem dX0_init_37 : decode cX0_init 37 = .ok (.fload_n 2, 1) := by decide +kernel
theorem dX0_init_38 : decode cX0_init 38 = .ok (.putfield 28, 3) := by decide +kernel
theorem dX0_init_41 : decode cX0_init 41 = .ok (.aload_n 0, 1) := by decide +kernel
theorem dX0_init_42 : decode cX0_init 42 = .ok (.fload_n 3, 1) := by decide +kernel
theorem dX0_init_43 : decode cX0_init 43 = .ok (.putfield 32, 3) := by decide +kernel
theorem dX0_init_46 : decode cX0_init 46 = .ok (.aload_n 0, 1) := by decide +kernel
theorem dX0_init_47 : decode cX0_init 47 = .ok (.fload 4, 2) := by decide +kernel
theorem dX0_init_49 : decode cX0_init 49 = .ok (.putfield 35, 3) := by decide +kernel
theorem dX0_init_52 : decode cX0_init 52 = .ok (.aload_n 0, 1) := by decide +kernel
theorem dX0_init_53 : decode cX0_init 53 = .ok (.fload 5, 2) := by decide +kernel
theorem dX0_init_55 : decode cX0_init 55 = .ok (.putfield 38, 3) := by decide +kernel
theorem dX0_init_58 : decode cX0_init 58 = .ok (.aload_n 0, 1) := by decide +kernel
theorem dX0_init_59 : decode cX0_init 59 = .ok (.fload_n 2, 1) := by decide +kernel
theorem dX0_init_60 : decode cX0_init 60 = .ok (.fconst 0, 1) := by decide +kernel
theorem dX0_init_61 : decode cX0_init 61 = .ok (.fcmp .l, 1) := by decide +kernel
theorem dX0_init_62 : decode cX0_init 62 = .ok (.ifCond .gt 15, 3) := by decide +kernel
theorem dX0_init_65 : decode cX0_init 65 = .ok (.fload_n 3, 1) := by decide +kernel
theorem dX0_init_66 : decode cX0_init 66 = .ok (.fload 4, 2) := by decide +kernel
theorem dX0_init_68 : decode cX0_init 68 = .ok (.fadd, 1) := by decide +kernel
theorem dX0_init_69 : decode cX0_init 69 = .ok (.fload 5, 2) := by decide +kernel
theorem dX0_init_71 : decode cX0_init 71 = .ok (.fadd, 1) := by decide +kernel
theorem dX0_init_72 : decode cX0_init 72 = .ok (.fconst 0, 1) := by decide +kernel
theorem dX0_init_73 : decode cX0_init 73 = .ok (.fcmp .l, 1) := by decide +kernel
theorem dX0_init_74 : decode cX0_init 74 = .ok (.ifCond .le 7, 3) := by decide +kernel
theorem dX0_init_77 : decode cX0_init 77 = .ok (.iconst 1, 1) := by decide +kernel
theorem dX0_init_78 : decode cX0_init 78 = .ok (.goto 4, 3) := by decide +kernel
theorem dX0_init_81 : decode cX0_init 81 = .ok (.iconst 0, 1) := by decide +kernel
theorem dX0_init_82 : decode cX0_init 82 = .ok (.putfield 41, 3) := by decide +kernel
theorem dX0_init_85 : decode cX0_init 85 = .ok (.return_, 1) := by decide +kernel
theorem dX0_lowest_0 : decode cX0_lowest 0 = .ok (.aload_n 0, 1) := by decide +kernel
theorem dX0_lowest_1 : decode cX0_lowest 1 = .ok (.astore_n 1, 1) := by decide +kernel
theorem dX0_lowest_2 : decode cX0_lowest 2 = .ok (.aload_n 1, 1) := by decide +kernel
theorem dX0_lowest_3 : decode cX0_lowest 3 = .ok (.getfield 45, 3) := by decide +kernel
theorem dX0_lowest_6 : decode cX0_lowest 6 = .ok (.ifnull 11, 3) := by decide +kernel
theorem dX0_lowest_9 : decode cX0_lowest 9 = .ok (.aload_n 1, 1) := by decide +kernel
theorem dX0_lowest_10 : decode cX0_lowest 10 = .ok (.getfield 45, 3) := by decide +kernel
theorem dX0_lowest_13 : decode cX0_lowest 13 = .ok (.astore_n 1, 1) := by decide +kernel
theorem dX0_lowest_14 : decode cX0_lowest 14 = .ok (.goto (-12), 3) := by decide +kernel
theorem dX0_lowest_17 : decode cX0_lowest 17 = .ok (.aload_n 1, 1) := by decide +kernel
theorem dX0_lowest_18 : decode cX0_lowest 18 = .ok (.aload_n 0, 1) := by decide +kernel
theorem dX0_lowest_19 : decode cX0_lowest 19 = .ok (.if_acmp .eq 8, 3) := by decide +kernel
theorem dX0_lowest_22 : decode cX0_lowest 22 = .ok (.aload_n 0, 1) := by decide +kernel
theorem dX0_lowest_23 : decode cX0_lowest 23 = .ok (.aload_n 1, 1) := by decide +kernel
theorem dX0_lowest_24 : decode cX0_lowest 24 = .ok (.putfield 45, 3) := by decide +kernel
theorem dX0_lowest_27 : decode cX0_lowest 27 = .ok (.aload_n 1, 1) := by decide +kernel
theorem dX0_lowest_28 : decode cX0_lowest 28 = .ok (.areturn, 1) := by decide +kernel
set_option maxRecDepth 20000 in
theorem ggX0_join_X0_lowest : GoodIn wsX0_join wsX0_lowest := goodIn_r _ [7, 2, 8, 9, 10, 11, 12, 13, 14, 15, 16, 17, 18, 19, 20, 21, 22, 23] (by decide +kernel) (by decide +kernel)
set_option maxRecDepth 20000 in
theorem gX0_join_X0_lowest : GoodIn wsX0_join (wsV RX0 49 RX0 yX0_lowest wsX0_lowest) := goodIn_app (goodIn_of _ (by decide +kernel)) ggX0_join_X0_lowest
theorem dX0_join_0 : decode cX0_join 0 = .ok (.aload_n 0, 1) := by decide +kernel
theorem dX0_join_1 : decode cX0_join 1 = .ok (.invokevirtual 49, 3) := by decide +kernel
theorem dX0_join_4 : decode cX0_join 4 = .ok (.astore_n 2, 1) := by decide +kernel
theorem dX0_join_5 : decode cX0_join 5 = .ok (.aload_n 1, 1) := by decide +kernel
theorem dX0_join_6 : decode cX0_join 6 = .ok (.invokevirtual 49, 3) := by decide +kernel
theorem dX0_join_9 : decode cX0_join 9 = .ok (.astore_n 3, 1) := by decide +kernel
theorem dX0_join_10 : decode cX0_join 10 = .ok (.aload_n 2, 1) := by decide +kernel
theorem dX0_join_11 : decode cX0_join 11 = .ok (.getfield 25, 3) := by decide +kernel
theorem dX0_join_14 : decode cX0_join 14 = .ok (.aload_n 3, 1) := by decide +kernel
theorem dX0_join_15 : decode cX0_join 15 = .ok (.getfield 25, 3) := by decide +kernel
theorem dX0_join_18 : decode cX0_join 18 = .ok (.if_icmp .ge 11, 3) := by decide +kernel
theorem dX0_join_21 : decode cX0_join 21 = .ok (.aload_n 3, 1) := by decide +kernel
theorem dX0_join_22 : decode cX0_join 22 = .ok (.aload_n 2, 1) := by decide +kernel
theorem dX0_join_23 : decode cX0_join 23 = .ok (.putfield 45, 3) := by decide +kernel
theorem dX0_join_26 : decode cX0_join 26 = .ok (.goto 19, 3) := by decide +kernel
theorem dX0_join_29 : decode cX0_join 29 = .ok (.aload_n 3, 1) := by decide +kernel
theorem dX0_join_30 : decode cX0_join 30 = .ok (.getfield 25, 3) := by decide +kernel
theorem dX0_join_33 : decode cX0_join 33 = .ok (.aload_n 2, 1) := by decide +kernel
theorem dX0_join_34 : decode cX0_join 34 = .ok (.getfield 25, 3) := by decide +kernel
theorem dX0_join_37 : decode cX0_join 37 = .ok (.if_icmp .ge 8, 3) := by decide +kernel
theorem dX0_join_40 : decode cX0_join 40 = .ok (.aload_n 2, 1) := by decide +kernel
theorem dX0_join_41 : decode cX0_join 41 = .ok (.aload_n 3, 1) := by decide +kernel
theorem dX0_join_42 : decode cX0_join 42 = .ok (.putfield 45, 3) := by decide +kernel
theorem dX0_join_45 : decode cX0_join 45 = .ok (.return_, 1) := by decide +kernel
theorem dX0_leaveRows_0 : decode cX0_leaveRows 0 = .ok (.aload_n 0, 1) := by decide +kernel
theorem dX0_leaveRows_1 : decode cX0_leaveRows 1 = .ok (.aconst_null, 1) := by decide +kernel
theorem dX0_leaveRows_2 : decode cX0_leaveRows 2 = .ok (.putfield 45, 3) := by decide +kernel
theorem dX0_leaveRows_5 : decode cX0_leaveRows 5 = .ok (.aload_n 0, 1) := by decide +kernel
theorem dX0_leaveRows_6 : decode cX0_leaveRows 6 = .ok (.iconst 0, 1) := by decide +kernel
theorem dX0_leaveRows_7 : decode cX0_leaveRows 7 = .ok (.putfield 53, 3) := by decide +kernel
theorem dX0_leaveRows_10 : decode cX0_leaveRows 10 = .ok (.return_, 1) := by decide +kernel
theorem dX0_rouse_0 : decode cX0_rouse 0 = .ok (.aload_n 0, 1) := by decide +kernel
theorem dX0_rouse_1 : decode cX0_rouse 1 = .ok (.iconst 0, 1) := by decide +kernel
theorem dX0_rouse_2 : decode cX0_rouse 2 = .ok (.putfield 56, 3) := by decide +kernel
theorem dX0_rouse_5 : decode cX0_rouse 5 = .ok (.aload_n 0, 1) := by decide +kernel
theorem dX0_rouse_6 : decode cX0_rouse 6 = .ok (.iconst 0, 1) := by decide +kernel
theorem dX0_rouse_7 : decode cX0_rouse 7 = .ok (.putfield 59, 3) := by decide +kernel
theorem dX0_rouse_10 : decode cX0_rouse 10 = .ok (.return_, 1) := by decide +kernel
set_option maxRecDepth 20000 in
theorem ggX0_fallAsleep_X2_put : GoodIn wsX0_fallAsleep wsX2_put := goodIn_r _ [8, 9, 10, 11, 28, 29, 30] (by decide +kernel) (by decide +kernel)
set_option maxRecDepth 20000 in
theorem gX0_fallAsleep_X2_put : GoodIn wsX0_fallAsleep (wsV RX0 62 RX2 yX2_put wsX2_put) := goodIn_app (goodIn_of _ (by decide +kernel)) ggX0_fallAsleep_X2_put
theorem dX0_fallAsleep_0 : decode cX0_fallAsleep 0 = .ok (.aload_n 0, 1) := by decide +kernel
theorem dX0_fallAsleep_1 : decode cX0_fallAsleep 1 = .ok (.iconst 1, 1) := by decide +kernel
theorem dX0_fallAsleep_2 : decode cX0_fallAsleep 2 = .ok (.putfield 56, 3) := by decide +kernel
theorem dX0_fallAsleep_5 : decode cX0_fallAsleep 5 = .ok (.aload_n 0, 1) := by decide +kernel
theorem dX0_fallAsleep_6 : decode cX0_fallAsleep 6 = .ok (.getfield 12, 3) := by decide +kernel
theorem dX0_fallAsleep_9 : decode cX0_fallAsleep 9 = .ok (.fconst 0, 1) := by decide +kernel
theorem dX0_fallAsleep_10 : decode cX0_fallAsleep 10 = .ok (.fconst 0, 1) := by decide +kernel
theorem dX0_fallAsleep_11 : decode cX0_fallAsleep 11 = .ok (.fconst 0, 1) := by decide +kernel
theorem dX0_fallAsleep_12 : decode cX0_fallAsleep 12 = .ok (.invokevirtual 62, 3) := by decide +kernel
theorem dX0_fallAsleep_15 : decode cX0_fallAsleep 15 = .ok (.aload_n 0, 1) := by decide +kernel
theorem dX0_fallAsleep_16 : decode cX0_fallAsleep 16 = .ok (.getfield 18, 3) := by decide +kernel
theorem dX0_fallAsleep_19 : decode cX0_fallAsleep 19 = .ok (.fconst 0, 1) := by decide +kernel
theorem dX0_fallAsleep_20 : decode cX0_fallAsleep 20 = .ok (.fconst 0, 1) := by decide +kernel
theorem dX0_fallAsleep_21 : decode cX0_fallAsleep 21 = .ok (.fconst 0, 1) := by decide +kernel
theorem dX0_fallAsleep_22 : decode cX0_fallAsleep 22 = .ok (.invokevirtual 62, 3) := by decide +kernel
theorem dX0_fallAsleep_25 : decode cX0_fallAsleep 25 = .ok (.return_, 1) := by decide +kernel
set_option maxRecDepth 20000 in
theorem ggX0_energy_X2_dot : GoodIn wsX0_energy wsX2_dot := goodIn_r _ [7, 8, 9, 10, 27, 28, 29] (by decide +kernel) (by decide +kernel)
set_option maxRecDepth 20000 in
theorem gX0_energy_X2_dot : GoodIn wsX0_energy (wsV RX0 66 RX2 yX2_dot wsX2_dot) := goodIn_app (goodIn_of _ (by decide +kernel)) ggX0_energy_X2_dot
theorem dX0_energy_0 : decode cX0_energy 0 = .ok (.aload_n 0, 1) := by decide +kernel
theorem dX0_energy_1 : decode cX0_energy 1 = .ok (.getfield 12, 3) := by decide +kernel
theorem dX0_energy_4 : decode cX0_energy 4 = .ok (.aload_n 0, 1) := by decide +kernel
theorem dX0_energy_5 : decode cX0_energy 5 = .ok (.getfield 12, 3) := by decide +kernel
theorem dX0_energy_8 : decode cX0_energy 8 = .ok (.invokevirtual 66, 3) := by decide +kernel
theorem dX0_energy_11 : decode cX0_energy 11 = .ok (.aload_n 0, 1) := by decide +kernel
theorem dX0_energy_12 : decode cX0_energy 12 = .ok (.getfield 18, 3) := by decide +kernel
theorem dX0_energy_15 : decode cX0_energy 15 = .ok (.aload_n 0, 1) := by decide +kernel
theorem dX0_energy_16 : decode cX0_energy 16 = .ok (.getfield 18, 3) := by decide +kernel
theorem dX0_energy_19 : decode cX0_energy 19 = .ok (.invokevirtual 66, 3) := by decide +kernel
theorem dX0_energy_22 : decode cX0_energy 22 = .ok (.fadd, 1) := by decide +kernel
theorem dX0_energy_23 : decode cX0_energy 23 = .ok (.freturn, 1) := by decide +kernel
set_option maxRecDepth 20000 in
theorem ggX0_settle_X2_holdWithin : GoodIn wsX0_settle wsX2_holdWithin := goodIn_r _ [9, 10, 11, 12, 13, 14, 15, 41, 42, 43] (by decide +kernel) (by decide +kernel)
set_option maxRecDepth 20000 in
theorem gX0_settle_X2_holdWithin : GoodIn wsX0_settle (wsV RX0 71 RX2 yX2_holdWithin wsX2_holdWithin) := goodIn_app (goodIn_of _ (by decide +kernel)) ggX0_settle_X2_holdWithin
set_option maxRecDepth 20000 in
theorem ggX0_settle_X0_energy : GoodIn wsX0_settle wsX0_energy := goodIn_r _ [20, 1, 3, 21, 22, 23, 8, 24, 10, 11, 12, 25, 26, 27, 28, 29, 30, 31, 32, 33, 34, 35, 36, 37, 38, 39, 40, 41, 42, 43] (by decide +kernel) (by decide +kernel)
set_option maxRecDepth 20000 in
theorem gX0_settle_X0_energy : GoodIn wsX0_settle (wsV RX0 75 RX0 yX0_energy wsX0_energy) := goodIn_app (goodIn_of _ (by decide +kernel)) ggX0_settle_X0_energy
theorem dX0_settle_0 : decode cX0_settle 0 = .ok (.aload_n 0, 1) := by decide +kernel
theorem dX0_settle_1 : decode cX0_settle 1 = .ok (.getfield 12, 3) := by decide +kernel
theorem dX0_settle_4 : decode cX0_settle 4 = .ok (.ldc 70, 2) := by decide +kernel
theorem dX0_settle_6 : decode cX0_settle 6 = .ok (.invokevirtual 71, 3) := by decide +kernel
theorem dX0_settle_9 : decode cX0_settle 9 = .ok (.aload_n 0, 1) := by decide +kernel
theorem dX0_settle_10 : decode cX0_settle 10 = .ok (.getfield 18, 3) := by decide +kernel
theorem dX0_settle_13 : decode cX0_settle 13 = .ok (.ldc 70, 2) := by decide +kernel
theorem dX0_settle_15 : decode cX0_settle 15 = .ok (.invokevirtual 71, 3) := by decide +kernel
theorem dX0_settle_18 : decode cX0_settle 18 = .ok (.aload_n 0, 1) := by decide +kernel
theorem dX0_settle_19 : decode cX0_settle 19 = .ok (.aload_n 0, 1) := by decide +kernel
theorem dX0_settle_20 : decode cX0_settle 20 = .ok (.invokevirtual 75, 3) := by decide +kernel
theorem dX0_settle_23 : decode cX0_settle 23 = .ok (.fload_n 1, 1) := by decide +kernel
theorem dX0_settle_24 : decode cX0_settle 24 = .ok (.fcmp .g, 1) := by decide +kernel
theorem dX0_settle_25 : decode cX0_settle 25 = .ok (.ifCond .ge 12, 3) := by decide +kernel
theorem dX0_settle_28 : decode cX0_settle 28 = .ok (.aload_n 0, 1) := by decide +kernel
theorem dX0_settle_29 : decode cX0_settle 29 = .ok (.getfield 59, 3) := by decide +kernel
theorem dX0_settle_32 : decode cX0_settle 32 = .ok (.iconst 1, 1) := by decide +kernel
theorem dX0_settle_33 : decode cX0_settle 33 = .ok (.iadd, 1) := by decide +kernel
theorem dX0_settle_34 : decode cX0_settle 34 = .ok (.goto 4, 3) := by decide +kernel
theorem dX0_settle_37 : decode cX0_settle 37 = .ok (.iconst 0, 1) := by decide +kernel
theorem dX0_settle_38 : decode cX0_settle 38 = .ok (.putfield 59, 3) := by decide +kernel
theorem dX0_settle_41 : decode cX0_settle 41 = .ok (.return_, 1) := by decide +kernel
theorem dX0_rowMass_0 : decode cX0_rowMass 0 = .ok (.aload_n 0, 1) := by decide +kernel
theorem dX0_rowMass_1 : decode cX0_rowMass 1 = .ok (.getfield 41, 3) := by decide +kernel
theorem dX0_rowMass_4 : decode cX0_rowMass 4 = .ok (.ifCond .eq 10, 3) := by decide +kernel
theorem dX0_rowMass_7 : decode cX0_rowMass 7 = .ok (.aload_n 0, 1) := by decide +kernel
theorem dX0_rowMass_8 : decode cX0_rowMass 8 = .ok (.getfield 28, 3) := by decide +kernel
theorem dX0_rowMass_11 : decode cX0_rowMass 11 = .ok (.goto 4, 3) := by decide +kernel
theorem dX0_rowMass_14 : decode cX0_rowMass 14 = .ok (.fconst 0, 1) := by decide +kernel
theorem dX0_rowMass_15 : decode cX0_rowMass 15 = .ok (.freturn, 1) := by decide +kernel
set_option maxRecDepth 20000 in
theorem ggX0_turn_X2_put : GoodIn wsX0_turn wsX2_put := goodIn_r _ [15, 16, 17, 18, 35, 36, 37] (by decide +kernel) (by decide +kernel)
set_option maxRecDepth 20000 in
theorem gX0_turn_X2_put : GoodIn wsX0_turn (wsV RX0 62 RX2 yX2_put wsX2_put) := goodIn_app (goodIn_of _ (by decide +kernel)) ggX0_turn_X2_put
theorem dX0_turn_0 : decode cX0_turn 0 = .ok (.aload_n 0, 1) := by decide +kernel
theorem dX0_turn_1 : decode cX0_turn 1 = .ok (.getfield 41, 3) := by decide +kernel
theorem dX0_turn_4 : decode cX0_turn 4 = .ok (.ifCond .ne 11, 3) := by decide +kernel
theorem dX0_turn_7 : decode cX0_turn 7 = .ok (.aload_n 2, 1) := by decide +kernel
theorem dX0_turn_8 : decode cX0_turn 8 = .ok (.fconst 0, 1) := by decide +kernel
theorem dX0_turn_9 : decode cX0_turn 9 = .ok (.fconst 0, 1) := by decide +kernel
theorem dX0_turn_10 : decode cX0_turn 10 = .ok (.fconst 0, 1) := by decide +kernel
theorem dX0_turn_11 : decode cX0_turn 11 = .ok (.invokevirtual 62, 3) := by decide +kernel
theorem dX0_turn_14 : decode cX0_turn 14 = .ok (.return_, 1) := by decide +kernel
theorem dX0_turn_15 : decode cX0_turn 15 = .ok (.aload_n 2, 1) := by decide +kernel
theorem dX0_turn_16 : decode cX0_turn 16 = .ok (.aload_n 0, 1) := by decide +kernel
theorem dX0_turn_17 : decode cX0_turn 17 = .ok (.getfield 32, 3) := by decide +kernel
theorem dX0_turn_20 : decode cX0_turn 20 = .ok (.aload_n 1, 1) := by decide +kernel
theorem dX0_turn_21 : decode cX0_turn 21 = .ok (.getfield 79, 3) := by decide +kernel
theorem dX0_turn_24 : decode cX0_turn 24 = .ok (.fmul, 1) := by decide +kernel
theorem dX0_turn_25 : decode cX0_turn 25 = .ok (.aload_n 0, 1) := by decide +kernel
theorem dX0_turn_26 : decode cX0_turn 26 = .ok (.getfield 82, 3) := by decide +kernel
theorem dX0_turn_29 : decode cX0_turn 29 = .ok (.aload_n 1, 1) := by decide +kernel
theorem dX0_turn_30 : decode cX0_turn 30 = .ok (.getfield 85, 3) := by decide +kernel
theorem dX0_turn_33 : decode cX0_turn 33 = .ok (.fmul, 1) := by decide +kernel
theorem dX0_turn_34 : decode cX0_turn 34 = .ok (.fadd, 1) := by decide +kernel
theorem dX0_turn_35 : decode cX0_turn 35 = .ok (.aload_n 0, 1) := by decide +kernel
theorem dX0_turn_36 : decode cX0_turn 36 = .ok (.getfield 88, 3) := by decide +kernel
theorem dX0_turn_39 : decode cX0_turn 39 = .ok (.aload_n 1, 1) := by decide +kernel
theorem dX0_turn_40 : decode cX0_turn 40 = .ok (.getfield 91, 3) := by decide +kernel
theorem dX0_turn_43 : decode cX0_turn 43 = .ok (.fmul, 1) := by decide +kernel
theorem dX0_turn_44 : decode cX0_turn 44 = .ok (.fadd, 1) := by decide +kernel
theorem dX0_turn_45 : decode cX0_turn 45 = .ok (.aload_n 0, 1) := by decide +kernel
theorem dX0_turn_46 : decode cX0_turn 46 = .ok (.getfield 82, 3) := by decide +kernel
theorem dX0_turn_49 : decode cX0_turn 49 = .ok (.aload_n 1, 1) := by decide +kernel
theorem dX0_turn_50 : decode cX0_turn 50 = .ok (.getfield 79, 3) := by decide +kernel
theorem dX0_turn_53 : decode cX0_turn 53 = .ok (.fmul, 1) := by decide +kernel
theorem dX0_turn_54 : decode cX0_turn 54 = .ok (.aload_n 0, 1) := by decide +kernel
theorem dX0_turn_55 : decode cX0_turn 55 = .ok (.getfield 35, 3) := by decide +kernel
theorem dX0_turn_58 : decode cX0_turn 58 = .ok (.aload_n 1, 1) := by decide +kernel
theorem dX0_turn_59 : decode cX0_turn 59 = .ok (.getfield 85, 3) := by decide +kernel
theorem dX0_turn_62 : decode cX0_turn 62 = .ok (.fmul, 1) := by decide +kernel
theorem dX0_turn_63 : decode cX0_turn 63 = .ok (.fadd, 1) := by decide +kernel
theorem dX0_turn_64 : decode cX0_turn 64 = .ok (.aload_n 0, 1) := by decide +kernel
theorem dX0_turn_65 : decode cX0_turn 65 = .ok (.getfield 94, 3) := by decide +kernel
theorem dX0_turn_68 : decode cX0_turn 68 = .ok (.aload_n 1, 1) := by decide +kernel
theorem dX0_turn_69 : decode cX0_turn 69 = .ok (.getfield 91, 3) := by decide +kernel
theorem dX0_turn_72 : decode cX0_turn 72 = .ok (.fmul, 1) := by decide +kernel
theorem dX0_turn_73 : decode cX0_turn 73 = .ok (.fadd, 1) := by decide +kernel
theorem dX0_turn_74 : decode cX0_turn 74 = .ok (.aload_n 0, 1) := by decide +kernel
theorem dX0_turn_75 : decode cX0_turn 75 = .ok (.getfield 88, 3) := by decide +kernel
theorem dX0_turn_78 : decode cX0_turn 78 = .ok (.aload_n 1, 1) := by decide +kernel
theorem dX0_turn_79 : decode cX0_turn 79 = .ok (.getfield 79, 3) := by decide +kernel
theorem dX0_turn_82 : decode cX0_turn 82 = .ok (.fmul, 1) := by decide +kernel
theorem dX0_turn_83 : decode cX0_turn 83 = .ok (.aload_n 0, 1) := by decide +kernel
theorem dX0_turn_84 : decode cX0_turn 84 = .ok (.getfield 94, 3) := by decide +kernel
theorem dX0_turn_87 : decode cX0_turn 87 = .ok (.aload_n 1, 1) := by decide +kernel
theorem dX0_turn_88 : decode cX0_turn 88 = .ok (.getfield 85, 3) := by decide +kernel
theorem dX0_turn_91 : decode cX0_turn 91 = .ok (.fmul, 1) := by decide +kernel
theorem dX0_turn_92 : decode cX0_turn 92 = .ok (.fadd, 1) := by decide +kernel
theorem dX0_turn_93 : decode cX0_turn 93 = .ok (.aload_n 0, 1) := by decide +kernel
theorem dX0_turn_94 : decode cX0_turn 94 = .ok (.getfield 38, 3) := by decide +kernel
theorem dX0_turn_97 : decode cX0_turn 97 = .ok (.aload_n 1, 1) := by decide +kernel
theorem dX0_turn_98 : decode cX0_turn 98 = .ok (.getfield 91, 3) := by decide +kernel
theorem dX0_turn_101 : decode cX0_turn 101 = .ok (.fmul, 1) := by decide +kernel
theorem dX0_turn_102 : decode cX0_turn 102 = .ok (.fadd, 1) := by decide +kernel
theorem dX0_turn_103 : decode cX0_turn 103 = .ok (.invokevirtual 62, 3) := by decide +kernel
theorem dX0_turn_106 : decode cX0_turn 106 = .ok (.return_, 1) := by decide +kernel
set_option maxRecDepth 20000 in
theorem ggX1_init_X2_init : GoodIn wsX1_init wsX2_init := goodIn_r _ [18, 19, 2, 3] (by decide +kernel) (by decide +kernel)
set_option maxRecDepth 20000 in
theorem gX1_init_X2_init_n11 : GoodIn wsX1_init (wsX2_init) := ggX1_init_X2_init
set_option maxRecDepth 20000 in
theorem ggX1_init_X2_put : GoodIn wsX1_init wsX2_put := goodIn_r _ [23, 24, 25, 26, 27, 28, 29] (by decide +kernel) (by decide +kernel)
set_option maxRecDepth 20000 in
theorem gX1_init_X2_put : GoodIn wsX1_init (wsV RX1 47 RX2 yX2_put wsX2_put) := goodIn_app (goodIn_of _ (by decide +kernel)) ggX1_init_X2_put
theorem dX1_init_0 : decode cX1_init 0 = .ok (.aload_n 0, 1) := by decide +kernel
theorem dX1_init_1 : decode cX1_init 1 = .ok (.invokespecial 3, 3) := by decide +kernel
theorem dX1_init_4 : decode cX1_init 4 = .ok (.aload_n 0, 1) := by decide +kernel
theorem dX1_init_5 : decode cX1_init 5 = .ok (.new 9, 3) := by decide +kernel
theorem dX1_init_8 : decode cX1_init 8 = .ok (.dup, 1) := by decide +kernel
theorem dX1_init_9 : decode cX1_init 9 = .ok (.invokespecial 11, 3) := by decide +kernel
theorem dX1_init_12 : decode cX1_init 12 = .ok (.putfield 12, 3) := by decide +kernel
theorem dX1_init_15 : decode cX1_init 15 = .ok (.aload_n 0, 1) := by decide +kernel
theorem dX1_init_16 : decode cX1_init 16 = .ok (.new 9, 3) := by decide +kernel
theorem dX1_init_19 : decode cX1_init 19 = .ok (.dup, 1) := by decide +kernel
theorem dX1_init_20 : decode cX1_init 20 = .ok (.invokespecial 11, 3) := by decide +kernel
theorem dX1_init_23 : decode cX1_init 23 = .ok (.putfield 18, 3) := by decide +kernel
theorem dX1_init_26 : decode cX1_init 26 = .ok (.aload_n 0, 1) := by decide +kernel
theorem dX1_init_27 : decode cX1_init 27 = .ok (.new 9, 3) := by decide +kernel
theorem dX1_init_30 : decode cX1_init 30 = .ok (.dup, 1) := by decide +kernel
theorem dX1_init_31 : decode cX1_init 31 = .ok (.invokespecial 11, 3) := by decide +kernel
theorem dX1_init_34 : decode cX1_init 34 = .ok (.putfield 21, 3) := by decide +kernel
theorem dX1_init_37 : decode cX1_init 37 = .ok (.aload_n 0, 1) := by decide +kernel
theorem dX1_init_38 : decode cX1_init 38 = .ok (.new 9, 3) := by decide +kernel
theorem dX1_init_41 : decode cX1_init 41 = .ok (.dup, 1) := by decide +kernel
theorem dX1_init_42 : decode cX1_init 42 = .ok (.invokespecial 11, 3) := by decide +kernel
theorem dX1_init_45 : decode cX1_init 45 = .ok (.putfield 24, 3) := by decide +kernel
theorem dX1_init_48 : decode cX1_init 48 = .ok (.aload_n 0, 1) := by decide +kernel
theorem dX1_init_49 : decode cX1_init 49 = .ok (.new 9, 3) := by decide +kernel
theorem dX1_init_52 : decode cX1_init 52 = .ok (.dup, 1) := by decide +kernel
theorem dX1_init_53 : decode cX1_init 53 = .ok (.invokespecial 11, 3) := by decide +kernel
theorem dX1_init_56 : decode cX1_init 56 = .ok (.putfield 27, 3) := by decide +kernel
theorem dX1_init_59 : decode cX1_init 59 = .ok (.aload_n 0, 1) := by decide +kernel
theorem dX1_init_60 : decode cX1_init 60 = .ok (.aload_n 1, 1) := by decide +kernel
theorem dX1_init_61 : decode cX1_init 61 = .ok (.putfield 30, 3) := by decide +kernel
theorem dX1_init_64 : decode cX1_init 64 = .ok (.aload_n 0, 1) := by decide +kernel
theorem dX1_init_65 : decode cX1_init 65 = .ok (.aload_n 2, 1) := by decide +kernel
theorem dX1_init_66 : decode cX1_init 66 = .ok (.putfield 34, 3) := by decide +kernel
theorem dX1_init_69 : decode cX1_init 69 = .ok (.aload_n 0, 1) := by decide +kernel
theorem dX1_init_70 : decode cX1_init 70 = .ok (.getfield 12, 3) := by decide +kernel
theorem dX1_init_73 : decode cX1_init 73 = .ok (.aload_n 3, 1) := by decide +kernel
theorem dX1_init_74 : decode cX1_init 74 = .ok (.getfield 37, 3) := by decide +kernel
theorem dX1_init_77 : decode cX1_init 77 = .ok (.aload_n 3, 1) := by decide +kernel
theorem dX1_init_78 : decode cX1_init 78 = .ok (.getfield 41, 3) := by decide +kernel
theorem dX1_init_81 : decode cX1_init 81 = .ok (.aload_n 3, 1) := by decide +kernel
theorem dX1_init_82 : decode cX1_init 82 = .ok (.getfield 44, 3) := by decide +kernel
theorem dX1_init_85 : decode cX1_init 85 = .ok (.invokevirtual 47, 3) := by decide +kernel
theorem dX1_init_88 : decode cX1_init 88 = .ok (.aload_n 0, 1) := by decide +kernel
theorem dX1_init_89 : decode cX1_init 89 = .ok (.getfield 18, 3) := by decide +kernel
theorem dX1_init_92 : decode cX1_init 92 = .ok (.aload 4, 2) := by decide +kernel
theorem dX1_init_94 : decode cX1_init 94 = .ok (.getfield 37, 3) := by decide +kernel
theorem dX1_init_97 : decode cX1_init 97 = .ok (.aload 4, 2) := by decide +kernel
theorem dX1_init_99 : decode cX1_init 99 = .ok (.getfield 41, 3) := by decide +kernel
theorem dX1_init_102 : decode cX1_init 102 = .ok (.aload 4, 2) := by decide +kernel
theorem dX1_init_104 : decode cX1_init 104 = .ok (.getfield 44, 3) := by decide +kernel
theorem dX1_init_107 : decode cX1_init 107 = .ok (.invokevirtual 47, 3) := by decide +kernel
theorem dX1_init_110 : decode cX1_init 110 = .ok (.aload_n 0, 1) := by decide +kernel
theorem dX1_init_111 : decode cX1_init 111 = .ok (.getfield 21, 3) := by decide +kernel
theorem dX1_init_114 : decode cX1_init 114 = .ok (.aload 5, 2) := by decide +kernel
theorem dX1_init_116 : decode cX1_init 116 = .ok (.getfield 37, 3) := by decide +kernel
theorem dX1_init_119 : decode cX1_init 119 = .ok (.aload 5, 2) := by decide +kernel
theorem dX1_init_121 : decode cX1_init 121 = .ok (.getfield 41, 3) := by decide +kernel
theorem dX1_init_124 : decode cX1_init 124 = .ok (.aload 5, 2) := by decide +kernel
theorem dX1_init_126 : decode cX1_init 126 = .ok (.getfield 44, 3) := by decide +kernel
theorem dX1_init_129 : decode cX1_init 129 = .ok (.invokevirtual 47, 3) := by decide +kernel
theorem dX1_init_132 : decode cX1_init 132 = .ok (.return_, 1) := by decide +kernel
set_option maxRecDepth 20000 in
theorem ggX1_enterBodies_X0_join : GoodIn wsX1_enterBodies wsX0_join := goodIn_r _ [9, 10, 11, 12, 13, 14, 8, 15, 34, 35, 36, 37, 38, 39, 40, 41, 42, 43, 44, 45, 46, 47, 48, 49] (by decide +kernel) (by decide +kernel)
set_option maxRecDepth 20000 in
theorem gX1_enterBodies_X0_join : GoodIn wsX1_enterBodies (wsV RX1 61 RX0 yX0_join wsX0_join) := goodIn_app (goodIn_of _ (by decide +kernel)) ggX1_enterBodies_X0_join
theorem dX1_enterBodies_0 : decode cX1_enterBodies 0 = .ok (.aload_n 0, 1) := by decide +kernel
theorem dX1_enterBodies_1 : decode cX1_enterBodies 1 = .ok (.getfield 30, 3) := by decide +kernel
theorem dX1_enterBodies_4 : decode cX1_enterBodies 4 = .ok (.dup, 1) := by decide +kernel
theorem dX1_enterBodies_5 : decode cX1_enterBodies 5 = .ok (.getfield 51, 3) := by decide +kernel
theorem dX1_enterBodies_8 : decode cX1_enterBodies 8 = .ok (.iconst 1, 1) := by decide +kernel
theorem dX1_enterBodies_9 : decode cX1_enterBodies 9 = .ok (.iadd, 1) := by decide +kernel
theorem dX1_enterBodies_10 : decode cX1_enterBodies 10 = .ok (.putfield 51, 3) := by decide +kernel
theorem dX1_enterBodies_13 : decode cX1_enterBodies 13 = .ok (.aload_n 0, 1) := by decide +kernel
theorem dX1_enterBodies_14 : decode cX1_enterBodies 14 = .ok (.getfield 34, 3) := by decide +kernel
theorem dX1_enterBodies_17 : decode cX1_enterBodies 17 = .ok (.ifnonnull 4, 3) := by decide +kernel
theorem dX1_enterBodies_20 : decode cX1_enterBodies 20 = .ok (.return_, 1) := by decide +kernel
theorem dX1_enterBodies_21 : decode cX1_enterBodies 21 = .ok (.aload_n 0, 1) := by decide +kernel
theorem dX1_enterBodies_22 : decode cX1_enterBodies 22 = .ok (.getfield 34, 3) := by decide +kernel
theorem dX1_enterBodies_25 : decode cX1_enterBodies 25 = .ok (.dup, 1) := by decide +kernel
theorem dX1_enterBodies_26 : decode cX1_enterBodies 26 = .ok (.getfield 51, 3) := by decide +kernel
theorem dX1_enterBodies_29 : decode cX1_enterBodies 29 = .ok (.iconst 1, 1) := by decide +kernel
theorem dX1_enterBodies_30 : decode cX1_enterBodies 30 = .ok (.iadd, 1) := by decide +kernel
theorem dX1_enterBodies_31 : decode cX1_enterBodies 31 = .ok (.putfield 51, 3) := by decide +kernel
theorem dX1_enterBodies_34 : decode cX1_enterBodies 34 = .ok (.aload_n 0, 1) := by decide +kernel
theorem dX1_enterBodies_35 : decode cX1_enterBodies 35 = .ok (.getfield 30, 3) := by decide +kernel
theorem dX1_enterBodies_38 : decode cX1_enterBodies 38 = .ok (.getfield 57, 3) := by decide +kernel
theorem dX1_enterBodies_41 : decode cX1_enterBodies 41 = .ok (.ifCond .eq 24, 3) := by decide +kernel
theorem dX1_enterBodies_44 : decode cX1_enterBodies 44 = .ok (.aload_n 0, 1) := by decide +kernel
theorem dX1_enterBodies_45 : decode cX1_enterBodies 45 = .ok (.getfield 34, 3) := by decide +kernel
theorem dX1_enterBodies_48 : decode cX1_enterBodies 48 = .ok (.getfield 57, 3) := by decide +kernel
theorem dX1_enterBodies_51 : decode cX1_enterBodies 51 = .ok (.ifCond .eq 14, 3) := by decide +kernel
theorem dX1_enterBodies_54 : decode cX1_enterBodies 54 = .ok (.aload_n 0, 1) := by decide +kernel
theorem dX1_enterBodies_55 : decode cX1_enterBodies 55 = .ok (.getfield 30, 3) := by decide +kernel
theorem dX1_enterBodies_58 : decode cX1_enterBodies 58 = .ok (.aload_n 0, 1) := by decide +kernel
theorem dX1_enterBodies_59 : decode cX1_enterBodies 59 = .ok (.getfield 34, 3) := by decide +kernel
theorem dX1_enterBodies_62 : decode cX1_enterBodies 62 = .ok (.invokevirtual 61, 3) := by decide +kernel
theorem dX1_enterBodies_65 : decode cX1_enterBodies 65 = .ok (.return_, 1) := by decide +kernel
theorem dX1_island_0 : decode cX1_island 0 = .ok (.aload_n 0, 1) := by decide +kernel
theorem dX1_island_1 : decode cX1_island 1 = .ok (.getfield 30, 3) := by decide +kernel
theorem dX1_island_4 : decode cX1_island 4 = .ok (.getfield 57, 3) := by decide +kernel
theorem dX1_island_7 : decode cX1_island 7 = .ok (.ifCond .eq 11, 3) := by decide +kernel
theorem dX1_island_10 : decode cX1_island 10 = .ok (.aload_n 0, 1) := by decide +kernel
theorem dX1_island_11 : decode cX1_island 11 = .ok (.getfield 30, 3) := by decide +kernel
theorem dX1_island_14 : decode cX1_island 14 = .ok (.getfield 65, 3) := by decide +kernel
theorem dX1_island_17 : decode cX1_island 17 = .ok (.ireturn, 1) := by decide +kernel
theorem dX1_island_18 : decode cX1_island 18 = .ok (.aload_n 0, 1) := by decide +kernel
theorem dX1_island_19 : decode cX1_island 19 = .ok (.getfield 34, 3) := by decide +kernel
theorem dX1_island_22 : decode cX1_island 22 = .ok (.ifnull 23, 3) := by decide +kernel
theorem dX1_island_25 : decode cX1_island 25 = .ok (.aload_n 0, 1) := by decide +kernel
theorem dX1_island_26 : decode cX1_island 26 = .ok (.getfield 34, 3) := by decide +kernel
theorem dX1_island_29 : decode cX1_island 29 = .ok (.getfield 57, 3) := by decide +kernel
theorem dX1_island_32 : decode cX1_island 32 = .ok (.ifCond .eq 13, 3) := by decide +kernel
theorem dX1_island_35 : decode cX1_island 35 = .ok (.aload_n 0, 1) := by decide +kernel
theorem dX1_island_36 : decode cX1_island 36 = .ok (.getfield 34, 3) := by decide +kernel
theorem dX1_island_39 : decode cX1_island 39 = .ok (.getfield 65, 3) := by decide +kernel
theorem dX1_island_42 : decode cX1_island 42 = .ok (.goto 4, 3) := by decide +kernel
theorem dX1_island_45 : decode cX1_island 45 = .ok (.iconst (-1), 1) := by decide +kernel
theorem dX1_island_46 : decode cX1_island 46 = .ok (.ireturn, 1) := by decide +kernel
set_option maxRecDepth 20000 in
theorem ggX1_speed_X2_dot : GoodIn wsX1_speed wsX2_dot := goodIn_r _ [12, 13, 14, 15, 50, 51, 52] (by decide +kernel) (by decide +kernel)
set_option maxRecDepth 20000 in
theorem gX1_speed_X2_dot : GoodIn wsX1_speed (wsV RX1 71 RX2 yX2_dot wsX2_dot) := goodIn_app (goodIn_of _ (by decide +kernel)) ggX1_speed_X2_dot
theorem dX1_speed_0 : decode cX1_speed 0 = .ok (.aload_n 0, 1) := by decide +kernel
theorem dX1_speed_1 : decode cX1_speed 1 = .ok (.getfield 34, 3) := by decide +kernel
theorem dX1_speed_4 : decode cX1_speed 4 = .ok (.ifnonnull 7, 3) := by decide +kernel
theorem dX1_speed_7 : decode cX1_speed 7 = .ok (.fconst 0, 1) := by decide +kernel
theorem dX1_speed_8 : decode cX1_speed 8 = .ok (.goto 17, 3) := by decide +kernel
theorem dX1_speed_11 : decode cX1_speed 11 = .ok (.aload_n 0, 1) := by decide +kernel
theorem dX1_speed_12 : decode cX1_speed 12 = .ok (.getfield 12, 3) := by decide +kernel
theorem dX1_speed_15 : decode cX1_speed 15 = .ok (.aload_n 0, 1) := by decide +kernel
theorem dX1_speed_16 : decode cX1_speed 16 = .ok (.getfield 34, 3) := by decide +kernel
theorem dX1_speed_19 : decode cX1_speed 19 = .ok (.getfield 68, 3) := by decide +kernel
theorem dX1_speed_22 : decode cX1_speed 22 = .ok (.invokevirtual 71, 3) := by decide +kernel
theorem dX1_speed_25 : decode cX1_speed 25 = .ok (.fstore_n 1, 1) := by decide +kernel
theorem dX1_speed_26 : decode cX1_speed 26 = .ok (.aload_n 0, 1) := by decide +kernel
theorem dX1_speed_27 : decode cX1_speed 27 = .ok (.getfield 34, 3) := by decide +kernel
theorem dX1_speed_30 : decode cX1_speed 30 = .ok (.ifnonnull 7, 3) := by decide +kernel
theorem dX1_speed_33 : decode cX1_speed 33 = .ok (.fconst 0, 1) := by decide +kernel
theorem dX1_speed_34 : decode cX1_speed 34 = .ok (.goto 17, 3) := by decide +kernel
theorem dX1_speed_37 : decode cX1_speed 37 = .ok (.aload_n 0, 1) := by decide +kernel
theorem dX1_speed_38 : decode cX1_speed 38 = .ok (.getfield 21, 3) := by decide +kernel
theorem dX1_speed_41 : decode cX1_speed 41 = .ok (.aload_n 0, 1) := by decide +kernel
theorem dX1_speed_42 : decode cX1_speed 42 = .ok (.getfield 34, 3) := by decide +kernel
theorem dX1_speed_45 : decode cX1_speed 45 = .ok (.getfield 75, 3) := by decide +kernel
theorem dX1_speed_48 : decode cX1_speed 48 = .ok (.invokevirtual 71, 3) := by decide +kernel
theorem dX1_speed_51 : decode cX1_speed 51 = .ok (.fstore_n 2, 1) := by decide +kernel
theorem dX1_speed_52 : decode cX1_speed 52 = .ok (.aload_n 0, 1) := by decide +kernel
theorem dX1_speed_53 : decode cX1_speed 53 = .ok (.getfield 12, 3) := by decide +kernel
theorem dX1_speed_56 : decode cX1_speed 56 = .ok (.aload_n 0, 1) := by decide +kernel
theorem dX1_speed_57 : decode cX1_speed 57 = .ok (.getfield 30, 3) := by decide +kernel
theorem dX1_speed_60 : decode cX1_speed 60 = .ok (.getfield 68, 3) := by decide +kernel
theorem dX1_speed_63 : decode cX1_speed 63 = .ok (.invokevirtual 71, 3) := by decide +kernel
theorem dX1_speed_66 : decode cX1_speed 66 = .ok (.aload_n 0, 1) := by decide +kernel
theorem dX1_speed_67 : decode cX1_speed 67 = .ok (.getfield 18, 3) := by decide +kernel
theorem dX1_speed_70 : decode cX1_speed 70 = .ok (.aload_n 0, 1) := by decide +kernel
theorem dX1_speed_71 : decode cX1_speed 71 = .ok (.getfield 30, 3) := by decide +kernel
theorem dX1_speed_74 : decode cX1_speed 74 = .ok (.getfield 75, 3) := by decide +kernel
theorem dX1_speed_77 : decode cX1_speed 77 = .ok (.invokevirtual 71, 3) := by decide +kernel
theorem dX1_speed_80 : decode cX1_speed 80 = .ok (.fadd, 1) := by decide +kernel
theorem dX1_speed_81 : decode cX1_speed 81 = .ok (.fload_n 1, 1) := by decide +kernel
theorem dX1_speed_82 : decode cX1_speed 82 = .ok (.fsub, 1) := by decide +kernel
theorem dX1_speed_83 : decode cX1_speed 83 = .ok (.fload_n 2, 1) := by decide +kernel
theorem dX1_speed_84 : decode cX1_speed 84 = .ok (.fsub, 1) := by decide +kernel
theorem dX1_speed_85 : decode cX1_speed 85 = .ok (.freturn, 1) := by decide +kernel
set_option maxRecDepth 20000 in
theorem ggX1_measure_X0_turn : GoodIn wsX1_measure wsX0_turn := goodIn_r _ [17, 18, 19, 20, 21, 22, 23, 24, 25, 26, 27, 28, 29, 30, 31, 32, 33, 34, 35, 63, 64, 65, 66, 67, 68, 69, 70, 71, 72, 73, 74, 75, 76, 77, 78, 79, 80, 81] (by decide +kernel) (by decide +kernel)
set_option maxRecDepth 20000 in
theorem gX1_measure_X0_turn : GoodIn wsX1_measure (wsV RX1 78 RX0 yX0_turn wsX0_turn) := goodIn_app (goodIn_of _ (by decide +kernel)) ggX1_measure_X0_turn
set_option maxRecDepth 20000 in
theorem ggX1_measure_X0_rowMass : GoodIn wsX1_measure wsX0_rowMass := goodIn_r _ [39, 18, 40, 63, 64, 65, 66, 67, 68, 69, 70, 71, 72, 73, 74, 75, 76, 77, 78] (by decide +kernel) (by decide +kernel)
set_option maxRecDepth 20000 in
theorem gX1_measure_X0_rowMass : GoodIn wsX1_measure (wsV RX1 82 RX0 yX0_rowMass wsX0_rowMass) := goodIn_app (goodIn_of _ (by decide +kernel)) ggX1_measure_X0_rowMass
set_option maxRecDepth 20000 in
theorem ggX1_measure_X2_dot : GoodIn wsX1_measure wsX2_dot := goodIn_r _ [44, 33, 34, 35, 79, 80, 81] (by decide +kernel) (by decide +kernel)
set_option maxRecDepth 20000 in
theorem gX1_measure_X2_dot : GoodIn wsX1_measure (wsV RX1 71 RX2 yX2_dot wsX2_dot) := goodIn_app (goodIn_of _ (by decide +kernel)) ggX1_measure_X2_dot
theorem dX1_measure_0 : decode cX1_measure 0 = .ok (.fconst 0, 1) := by decide +kernel
theorem dX1_measure_1 : decode cX1_measure 1 = .ok (.fstore_n 1, 1) := by decide +kernel
theorem dX1_measure_2 : decode cX1_measure 2 = .ok (.aload_n 0, 1) := by decide +kernel
theorem dX1_measure_3 : decode cX1_measure 3 = .ok (.getfield 30, 3) := by decide +kernel
theorem dX1_measure_6 : decode cX1_measure 6 = .ok (.aload_n 0, 1) := by decide +kernel
theorem dX1_measure_7 : decode cX1_measure 7 = .ok (.getfield 18, 3) := by decide +kernel
theorem dX1_measure_10 : decode cX1_measure 10 = .ok (.aload_n 0, 1) := by decide +kernel
theorem dX1_measure_11 : decode cX1_measure 11 = .ok (.getfield 24, 3) := by decide +kernel
theorem dX1_measure_14 : decode cX1_measure 14 = .ok (.invokevirtual 78, 3) := by decide +kernel
theorem dX1_measure_17 : decode cX1_measure 17 = .ok (.aload_n 0, 1) := by decide +kernel
theorem dX1_measure_18 : decode cX1_measure 18 = .ok (.getfield 34, 3) := by decide +kernel
theorem dX1_measure_21 : decode cX1_measure 21 = .ok (.ifnull 26, 3) := by decide +kernel
theorem dX1_measure_24 : decode cX1_measure 24 = .ok (.aload_n 0, 1) := by decide +kernel
theorem dX1_measure_25 : decode cX1_measure 25 = .ok (.getfield 34, 3) := by decide +kernel
theorem dX1_measure_28 : decode cX1_measure 28 = .ok (.aload_n 0, 1) := by decide +kernel
theorem dX1_measure_29 : decode cX1_measure 29 = .ok (.getfield 21, 3) := by decide +kernel
theorem dX1_measure_32 : decode cX1_measure 32 = .ok (.aload_n 0, 1) := by decide +kernel
theorem dX1_measure_33 : decode cX1_measure 33 = .ok (.getfield 27, 3) := by decide +kernel
theorem dX1_measure_36 : decode cX1_measure 36 = .ok (.invokevirtual 78, 3) := by decide +kernel
theorem dX1_measure_39 : decode cX1_measure 39 = .ok (.aload_n 0, 1) := by decide +kernel
theorem dX1_measure_40 : decode cX1_measure 40 = .ok (.getfield 34, 3) := by decide +kernel
theorem dX1_measure_43 : decode cX1_measure 43 = .ok (.invokevirtual 82, 3) := by decide +kernel
theorem dX1_measure_46 : decode cX1_measure 46 = .ok (.fstore_n 1, 1) := by decide +kernel
theorem dX1_measure_47 : decode cX1_measure 47 = .ok (.aload_n 0, 1) := by decide +kernel
theorem dX1_measure_48 : decode cX1_measure 48 = .ok (.getfield 12, 3) := by decide +kernel
theorem dX1_measure_51 : decode cX1_measure 51 = .ok (.aload_n 0, 1) := by decide +kernel
theorem dX1_measure_52 : decode cX1_measure 52 = .ok (.getfield 12, 3) := by decide +kernel
theorem dX1_measure_55 : decode cX1_measure 55 = .ok (.invokevirtual 71, 3) := by decide +kernel
theorem dX1_measure_58 : decode cX1_measure 58 = .ok (.fstore_n 2, 1) := by decide +kernel
theorem dX1_measure_59 : decode cX1_measure 59 = .ok (.aload_n 0, 1) := by decide +kernel
theorem dX1_measure_60 : decode cX1_measure 60 = .ok (.aload_n 0, 1) := by decide +kernel
theorem dX1_measure_61 : decode cX1_measure 61 = .ok (.getfield 30, 3) := by decide +kernel
theorem dX1_measure_64 : decode cX1_measure 64 = .ok (.invokevirtual 82, 3) := by decide +kernel
theorem dX1_measure_67 : decode cX1_measure 67 = .ok (.fload_n 2, 1) := by decide +kernel
theorem dX1_measure_68 : decode cX1_measure 68 = .ok (.fmul, 1) := by decide +kernel
theorem dX1_measure_69 : decode cX1_measure 69 = .ok (.aload_n 0, 1) := by decide +kernel
theorem dX1_measure_70 : decode cX1_measure 70 = .ok (.getfield 18, 3) := by decide +kernel
theorem dX1_measure_73 : decode cX1_measure 73 = .ok (.aload_n 0, 1) := by decide +kernel
theorem dX1_measure_74 : decode cX1_measure 74 = .ok (.getfield 24, 3) := by decide +kernel
theorem dX1_measure_77 : decode cX1_measure 77 = .ok (.invokevirtual 71, 3) := by decide +kernel
theorem dX1_measure_80 : decode cX1_measure 80 = .ok (.fadd, 1) := by decide +kernel
theorem dX1_measure_81 : decode cX1_measure 81 = .ok (.fload_n 1, 1) := by decide +kernel
theorem dX1_measure_82 : decode cX1_measure 82 = .ok (.fload_n 2, 1) := by decide +kernel
theorem dX1_measure_83 : decode cX1_measure 83 = .ok (.fmul, 1) := by decide +kernel
theorem dX1_measure_84 : decode cX1_measure 84 = .ok (.fadd, 1) := by decide +kernel
theorem dX1_measure_85 : decode cX1_measure 85 = .ok (.aload_n 0, 1) := by decide +kernel
theorem dX1_measure_86 : decode cX1_measure 86 = .ok (.getfield 21, 3) := by decide +kernel
theorem dX1_measure_89 : decode cX1_measure 89 = .ok (.aload_n 0, 1) := by decide +kernel
theorem dX1_measure_90 : decode cX1_measure 90 = .ok (.getfield 27, 3) := by decide +kernel
theorem dX1_measure_93 : decode cX1_measure 93 = .ok (.invokevirtual 71, 3) := by decide +kernel
theorem dX1_measure_96 : decode cX1_measure 96 = .ok (.fadd, 1) := by decide +kernel
theorem dX1_measure_97 : decode cX1_measure 97 = .ok (.aload_n 0, 1) := by decide +kernel
theorem dX1_measure_98 : decode cX1_measure 98 = .ok (.getfield 86, 3) := by decide +kernel
theorem dX1_measure_101 : decode cX1_measure 101 = .ok (.fadd, 1) := by decide +kernel

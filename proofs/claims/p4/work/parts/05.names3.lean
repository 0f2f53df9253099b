theorem dX3_numberIslands_57 : decode cX3_numberIslands 57 = .ok (.getfield 56, 3) := by decide +kernel
theorem dX3_numberIslands_60 : decode cX3_numberIslands 60 = .ok (.iconst 1, 1) := by decide +kernel
theorem dX3_numberIslands_61 : decode cX3_numberIslands 61 = .ok (.iadd, 1) := by decide +kernel
theorem dX3_numberIslands_62 : decode cX3_numberIslands 62 = .ok (.putfield 56, 3) := by decide +kernel
theorem dX3_numberIslands_65 : decode cX3_numberIslands 65 = .ok (.goto 11, 3) := by decide +kernel
theorem dX3_numberIslands_68 : decode cX3_numberIslands 68 = .ok (.aload_n 2, 1) := by decide +kernel
theorem dX3_numberIslands_69 : decode cX3_numberIslands 69 = .ok (.aload_n 3, 1) := by decide +kernel
theorem dX3_numberIslands_70 : decode cX3_numberIslands 70 = .ok (.getfield 270, 3) := by decide +kernel
theorem dX3_numberIslands_73 : decode cX3_numberIslands 73 = .ok (.putfield 270, 3) := by decide +kernel
theorem dX3_numberIslands_76 : decode cX3_numberIslands 76 = .ok (.iinc 1 1, 3) := by decide +kernel
theorem dX3_numberIslands_79 : decode cX3_numberIslands 79 = .ok (.goto (-72), 3) := by decide +kernel
theorem dX3_numberIslands_82 : decode cX3_numberIslands 82 = .ok (.return_, 1) := by decide +kernel
theorem dX3_isIsland_0 : decode cX3_isIsland 0 = .ok (.iload_n 1, 1) := by decide +kernel
theorem dX3_isIsland_1 : decode cX3_isIsland 1 = .ok (.ifCond .lt 15, 3) := by decide +kernel
theorem dX3_isIsland_4 : decode cX3_isIsland 4 = .ok (.iload_n 1, 1) := by decide +kernel
theorem dX3_isIsland_5 : decode cX3_isIsland 5 = .ok (.aload_n 0, 1) := by decide +kernel
theorem dX3_isIsland_6 : decode cX3_isIsland 6 = .ok (.getfield 56, 3) := by decide +kernel
theorem dX3_isIsland_9 : decode cX3_isIsland 9 = .ok (.if_icmp .ge 7, 3) := by decide +kernel
theorem dX3_isIsland_12 : decode cX3_isIsland 12 = .ok (.iconst 1, 1) := by decide +kernel
theorem dX3_isIsland_13 : decode cX3_isIsland 13 = .ok (.goto 4, 3) := by decide +kernel
theorem dX3_isIsland_16 : decode cX3_isIsland 16 = .ok (.iconst 0, 1) := by decide +kernel
theorem dX3_isIsland_17 : decode cX3_isIsland 17 = .ok (.ireturn, 1) := by decide +kernel
set_option maxRecDepth 20000 in
theorem ggX3_workerOn_X3_isIsland : GoodIn wsX3_workerOn wsX3_isIsland := goodIn_r _ [6, 7, 8, 9, 10, 11, 12, 13, 14, 15, 16, 17, 18, 19, 20, 21, 22, 23] (by decide +kernel) (by decide +kernel)
set_option maxRecDepth 20000 in
theorem gX3_workerOn_X3_isIsland : GoodIn wsX3_workerOn (wsV RX3 338 RX3 yX3_isIsland wsX3_isIsland) := goodIn_app (goodIn_of _ (by decide +kernel)) ggX3_workerOn_X3_isIsland
theorem dX3_workerOn_0 : decode cX3_workerOn 0 = .ok (.aload_n 0, 1) := by decide +kernel
theorem dX3_workerOn_1 : decode cX3_workerOn 1 = .ok (.iload_n 1, 1) := by decide +kernel
theorem dX3_workerOn_2 : decode cX3_workerOn 2 = .ok (.invokevirtual 338, 3) := by decide +kernel
theorem dX3_workerOn_5 : decode cX3_workerOn 5 = .ok (.ifCond .eq 12, 3) := by decide +kernel
theorem dX3_workerOn_8 : decode cX3_workerOn 8 = .ok (.aload_n 0, 1) := by decide +kernel
theorem dX3_workerOn_9 : decode cX3_workerOn 9 = .ok (.getfield 59, 3) := by decide +kernel
theorem dX3_workerOn_12 : decode cX3_workerOn 12 = .ok (.iload_n 1, 1) := by decide +kernel
theorem dX3_workerOn_13 : decode cX3_workerOn 13 = .ok (.iaload, 1) := by decide +kernel
theorem dX3_workerOn_14 : decode cX3_workerOn 14 = .ok (.goto 4, 3) := by decide +kernel
theorem dX3_workerOn_17 : decode cX3_workerOn 17 = .ok (.iconst (-1), 1) := by decide +kernel
theorem dX3_workerOn_18 : decode cX3_workerOn 18 = .ok (.ireturn, 1) := by decide +kernel
set_option maxRecDepth 20000 in
theorem ggX3_markAwake_Jx4a65c_size_8abf5 : GoodIn wsX3_markAwake wsJx4a65c_size_8abf5 := goodIn_r _ [11, 12, 67, 68, 69] (by decide +kernel) (by decide +kernel)
set_option maxRecDepth 20000 in
theorem gX3_markAwake_Jx4a65c_size_8abf5 : GoodIn wsX3_markAwake (wsV RX3 85 RJx4a65c yJx4a65c_size_8abf5 wsJx4a65c_size_8abf5) := goodIn_app (goodIn_of _ (by decide +kernel)) ggX3_markAwake_Jx4a65c_size_8abf5
set_option maxRecDepth 20000 in
theorem ggX3_markAwake_Jx4a65c_get_915e3 : GoodIn wsX3_markAwake wsJx4a65c_get_915e3 := goodIn_r _ [16, 12, 17, 18, 19, 20, 21, 22, 23, 24, 25, 26, 27, 10, 28, 29, 67, 68, 69] (by decide +kernel) (by decide +kernel)
set_option maxRecDepth 20000 in
theorem gX3_markAwake_Jx4a65c_get_915e3 : GoodIn wsX3_markAwake (wsV RX3 152 RJx4a65c yJx4a65c_get_915e3 wsJx4a65c_get_915e3) := goodIn_app (goodIn_of _ (by decide +kernel)) ggX3_markAwake_Jx4a65c_get_915e3
set_option maxRecDepth 20000 in
theorem ggX3_markAwake_X3_isIsland : GoodIn wsX3_markAwake wsX3_isIsland := goodIn_r _ [34, 1, 35, 36, 37, 38, 39, 40, 41, 42, 43, 44, 45, 46, 47, 48, 49, 50] (by decide +kernel) (by decide +kernel)
set_option maxRecDepth 20000 in
theorem gX3_markAwake_X3_isIsland : GoodIn wsX3_markAwake (wsV RX3 338 RX3 yX3_isIsland wsX3_isIsland) := goodIn_app (goodIn_of _ (by decide +kernel)) ggX3_markAwake_X3_isIsland
theorem dX3_markAwake_0 : decode cX3_markAwake 0 = .ok (.iconst 0, 1) := by decide +kernel
theorem dX3_markAwake_1 : decode cX3_markAwake 1 = .ok (.istore_n 1, 1) := by decide +kernel
theorem dX3_markAwake_2 : decode cX3_markAwake 2 = .ok (.iload_n 1, 1) := by decide +kernel
theorem dX3_markAwake_3 : decode cX3_markAwake 3 = .ok (.aload_n 0, 1) := by decide +kernel
theorem dX3_markAwake_4 : decode cX3_markAwake 4 = .ok (.getfield 56, 3) := by decide +kernel
theorem dX3_markAwake_7 : decode cX3_markAwake 7 = .ok (.if_icmp .ge 16, 3) := by decide +kernel
theorem dX3_markAwake_10 : decode cX3_markAwake 10 = .ok (.aload_n 0, 1) := by decide +kernel
theorem dX3_markAwake_11 : decode cX3_markAwake 11 = .ok (.getfield 59, 3) := by decide +kernel
theorem dX3_markAwake_14 : decode cX3_markAwake 14 = .ok (.iload_n 1, 1) := by decide +kernel
theorem dX3_markAwake_15 : decode cX3_markAwake 15 = .ok (.iconst (-1), 1) := by decide +kernel
theorem dX3_markAwake_16 : decode cX3_markAwake 16 = .ok (.iastore, 1) := by decide +kernel
theorem dX3_markAwake_17 : decode cX3_markAwake 17 = .ok (.iinc 1 1, 3) := by decide +kernel
theorem dX3_markAwake_20 : decode cX3_markAwake 20 = .ok (.goto (-18), 3) := by decide +kernel
theorem dX3_markAwake_23 : decode cX3_markAwake 23 = .ok (.iconst 0, 1) := by decide +kernel
theorem dX3_markAwake_24 : decode cX3_markAwake 24 = .ok (.istore_n 1, 1) := by decide +kernel
theorem dX3_markAwake_25 : decode cX3_markAwake 25 = .ok (.iload_n 1, 1) := by decide +kernel
theorem dX3_markAwake_26 : decode cX3_markAwake 26 = .ok (.aload_n 0, 1) := by decide +kernel
theorem dX3_markAwake_27 : decode cX3_markAwake 27 = .ok (.getfield 10, 3) := by decide +kernel
theorem dX3_markAwake_30 : decode cX3_markAwake 30 = .ok (.invokevirtual 85, 3) := by decide +kernel
theorem dX3_markAwake_33 : decode cX3_markAwake 33 = .ok (.if_icmp .ge 49, 3) := by decide +kernel
theorem dX3_markAwake_36 : decode cX3_markAwake 36 = .ok (.aload_n 0, 1) := by decide +kernel
theorem dX3_markAwake_37 : decode cX3_markAwake 37 = .ok (.getfield 10, 3) := by decide +kernel
theorem dX3_markAwake_40 : decode cX3_markAwake 40 = .ok (.iload_n 1, 1) := by decide +kernel
theorem dX3_markAwake_41 : decode cX3_markAwake 41 = .ok (.invokevirtual 152, 3) := by decide +kernel
theorem dX3_markAwake_44 : decode cX3_markAwake 44 = .ok (.checkcast 94, 3) := by decide +kernel
theorem dX3_markAwake_47 : decode cX3_markAwake 47 = .ok (.astore_n 2, 1) := by decide +kernel
theorem dX3_markAwake_48 : decode cX3_markAwake 48 = .ok (.aload_n 0, 1) := by decide +kernel
theorem dX3_markAwake_49 : decode cX3_markAwake 49 = .ok (.aload_n 2, 1) := by decide +kernel
theorem dX3_markAwake_50 : decode cX3_markAwake 50 = .ok (.getfield 270, 3) := by decide +kernel
theorem dX3_markAwake_53 : decode cX3_markAwake 53 = .ok (.invokevirtual 338, 3) := by decide +kernel
theorem dX3_markAwake_56 : decode cX3_markAwake 56 = .ok (.ifCond .eq 20, 3) := by decide +kernel
theorem dX3_markAwake_59 : decode cX3_markAwake 59 = .ok (.aload_n 2, 1) := by decide +kernel
theorem dX3_markAwake_60 : decode cX3_markAwake 60 = .ok (.getfield 169, 3) := by decide +kernel
theorem dX3_markAwake_63 : decode cX3_markAwake 63 = .ok (.ifCond .ne 13, 3) := by decide +kernel
theorem dX3_markAwake_66 : decode cX3_markAwake 66 = .ok (.aload_n 0, 1) := by decide +kernel
theorem dX3_markAwake_67 : decode cX3_markAwake 67 = .ok (.getfield 59, 3) := by decide +kernel
theorem dX3_markAwake_70 : decode cX3_markAwake 70 = .ok (.aload_n 2, 1) := by decide +kernel
theorem dX3_markAwake_71 : decode cX3_markAwake 71 = .ok (.getfield 270, 3) := by decide +kernel
theorem dX3_markAwake_74 : decode cX3_markAwake 74 = .ok (.iconst 0, 1) := by decide +kernel
theorem dX3_markAwake_75 : decode cX3_markAwake 75 = .ok (.iastore, 1) := by decide +kernel
theorem dX3_markAwake_76 : decode cX3_markAwake 76 = .ok (.iinc 1 1, 3) := by decide +kernel
theorem dX3_markAwake_79 : decode cX3_markAwake 79 = .ok (.goto (-54), 3) := by decide +kernel
theorem dX3_markAwake_82 : decode cX3_markAwake 82 = .ok (.return_, 1) := by decide +kernel
theorem dX3_awakeIslands_0 : decode cX3_awakeIslands 0 = .ok (.iconst 0, 1) := by decide +kernel
theorem dX3_awakeIslands_1 : decode cX3_awakeIslands 1 = .ok (.istore_n 1, 1) := by decide +kernel
theorem dX3_awakeIslands_2 : decode cX3_awakeIslands 2 = .ok (.iconst 0, 1) := by decide +kernel
theorem dX3_awakeIslands_3 : decode cX3_awakeIslands 3 = .ok (.istore_n 2, 1) := by decide +kernel
theorem dX3_awakeIslands_4 : decode cX3_awakeIslands 4 = .ok (.iload_n 2, 1) := by decide +kernel
theorem dX3_awakeIslands_5 : decode cX3_awakeIslands 5 = .ok (.aload_n 0, 1) := by decide +kernel
theorem dX3_awakeIslands_6 : decode cX3_awakeIslands 6 = .ok (.getfield 56, 3) := by decide +kernel
theorem dX3_awakeIslands_9 : decode cX3_awakeIslands 9 = .ok (.if_icmp .ge 22, 3) := by decide +kernel
theorem dX3_awakeIslands_12 : decode cX3_awakeIslands 12 = .ok (.aload_n 0, 1) := by decide +kernel
theorem dX3_awakeIslands_13 : decode cX3_awakeIslands 13 = .ok (.getfield 59, 3) := by decide +kernel
theorem dX3_awakeIslands_16 : decode cX3_awakeIslands 16 = .ok (.iload_n 2, 1) := by decide +kernel
theorem dX3_awakeIslands_17 : decode cX3_awakeIslands 17 = .ok (.iaload, 1) := by decide +kernel
theorem dX3_awakeIslands_18 : decode cX3_awakeIslands 18 = .ok (.iconst (-1), 1) := by decide +kernel
theorem dX3_awakeIslands_19 : decode cX3_awakeIslands 19 = .ok (.if_icmp .eq 6, 3) := by decide +kernel
theorem dX3_awakeIslands_22 : decode cX3_awakeIslands 22 = .ok (.iinc 1 1, 3) := by decide +kernel
theorem dX3_awakeIslands_25 : decode cX3_awakeIslands 25 = .ok (.iinc 2 1, 3) := by decide +kernel
theorem dX3_awakeIslands_28 : decode cX3_awakeIslands 28 = .ok (.goto (-24), 3) := by decide +kernel
theorem dX3_awakeIslands_31 : decode cX3_awakeIslands 31 = .ok (.iload_n 1, 1) := by decide +kernel
theorem dX3_awakeIslands_32 : decode cX3_awakeIslands 32 = .ok (.ireturn, 1) := by decide +kernel
set_option maxRecDepth 20000 in
theorem ggX3_sleepers_Jx4a65c_size_8abf5 : GoodIn wsX3_sleepers wsJx4a65c_size_8abf5 := goodIn_r _ [8, 9, 59, 60, 61] (by decide +kernel) (by decide +kernel)
set_option maxRecDepth 20000 in
theorem gX3_sleepers_Jx4a65c_size_8abf5 : GoodIn wsX3_sleepers (wsV RX3 85 RJx4a65c yJx4a65c_size_8abf5 wsJx4a65c_size_8abf5) := goodIn_app (goodIn_of _ (by decide +kernel)) ggX3_sleepers_Jx4a65c_size_8abf5
set_option maxRecDepth 20000 in
theorem ggX3_sleepers_Jx4a65c_get_915e3 : GoodIn wsX3_sleepers wsJx4a65c_get_915e3 := goodIn_r _ [13, 9, 14, 15, 16, 17, 18, 19, 20, 21, 22, 23, 24, 7, 25, 26, 59, 60, 61] (by decide +kernel) (by decide +kernel)
set_option maxRecDepth 20000 in
theorem gX3_sleepers_Jx4a65c_get_915e3 : GoodIn wsX3_sleepers (wsV RX3 152 RJx4a65c yJx4a65c_get_915e3 wsJx4a65c_get_915e3) := goodIn_app (goodIn_of _ (by decide +kernel)) ggX3_sleepers_Jx4a65c_get_915e3
theorem dX3_sleepers_0 : decode cX3_sleepers 0 = .ok (.iconst 0, 1) := by decide +kernel
theorem dX3_sleepers_1 : decode cX3_sleepers 1 = .ok (.istore_n 1, 1) := by decide +kernel
theorem dX3_sleepers_2 : decode cX3_sleepers 2 = .ok (.iconst 0, 1) := by decide +kernel
theorem dX3_sleepers_3 : decode cX3_sleepers 3 = .ok (.istore_n 2, 1) := by decide +kernel
theorem dX3_sleepers_4 : decode cX3_sleepers 4 = .ok (.iload_n 2, 1) := by decide +kernel
theorem dX3_sleepers_5 : decode cX3_sleepers 5 = .ok (.aload_n 0, 1) := by decide +kernel
theorem dX3_sleepers_6 : decode cX3_sleepers 6 = .ok (.getfield 10, 3) := by decide +kernel
theorem dX3_sleepers_9 : decode cX3_sleepers 9 = .ok (.invokevirtual 85, 3) := by decide +kernel
theorem dX3_sleepers_12 : decode cX3_sleepers 12 = .ok (.if_icmp .ge 29, 3) := by decide +kernel
theorem dX3_sleepers_15 : decode cX3_sleepers 15 = .ok (.aload_n 0, 1) := by decide +kernel
theorem dX3_sleepers_16 : decode cX3_sleepers 16 = .ok (.getfield 10, 3) := by decide +kernel
theorem dX3_sleepers_19 : decode cX3_sleepers 19 = .ok (.iload_n 2, 1) := by decide +kernel
theorem dX3_sleepers_20 : decode cX3_sleepers 20 = .ok (.invokevirtual 152, 3) := by decide +kernel
theorem dX3_sleepers_23 : decode cX3_sleepers 23 = .ok (.checkcast 94, 3) := by decide +kernel
theorem dX3_sleepers_26 : decode cX3_sleepers 26 = .ok (.getfield 169, 3) := by decide +kernel
theorem dX3_sleepers_29 : decode cX3_sleepers 29 = .ok (.ifCond .eq 6, 3) := by decide +kernel
theorem dX3_sleepers_32 : decode cX3_sleepers 32 = .ok (.iinc 1 1, 3) := by decide +kernel
theorem dX3_sleepers_35 : decode cX3_sleepers 35 = .ok (.iinc 2 1, 3) := by decide +kernel
theorem dX3_sleepers_38 : decode cX3_sleepers 38 = .ok (.goto (-34), 3) := by decide +kernel
theorem dX3_sleepers_41 : decode cX3_sleepers 41 = .ok (.iload_n 1, 1) := by decide +kernel
theorem dX3_sleepers_42 : decode cX3_sleepers 42 = .ok (.ireturn, 1) := by decide +kernel
set_option maxRecDepth 20000 in
theorem ggX3_deadRows_X3_measureRows : GoodIn wsX3_deadRows wsX3_measureRows := goodIn_r _ [8, 1, 2, 9, 10, 11, 12, 13, 14, 15, 16, 17, 18, 19, 20, 21, 22, 23, 24, 25, 26, 27, 28, 29, 30, 31, 32, 33, 34, 35, 36, 37, 38, 39, 40, 41, 42, 43, 44, 45, 46, 47, 48, 49, 50, 51, 52, 53, 54, 55, 56, 57, 58, 59, 60, 61, 62, 63, 64, 65, 66, 67, 68, 69, 70, 71, 72, 73, 74, 75, 76, 77, 78, 79, 80, 81, 82, 83, 84, 85, 86, 87, 88, 89, 90, 91, 92, 93, 94, 95, 96, 115, 116, 117, 97, 98, 99, 100, 101, 102, 103, 104, 105, 106, 107, 108, 109, 110, 111, 112, 113, 114, 118, 119, 120, 121, 122, 123, 124, 125, 126, 127, 128, 129, 130, 131, 132, 133, 134, 135, 136] (by decide +kernel) (by decide +kernel)
set_option maxRecDepth 20000 in
theorem gX3_deadRows_X3_measureRows : GoodIn wsX3_deadRows (wsV RX3 244 RX3 yX3_measureRows wsX3_measureRows) := goodIn_app (goodIn_of _ (by decide +kernel)) ggX3_deadRows_X3_measureRows
set_option maxRecDepth 20000 in
theorem ggX3_deadRows_Jx4a65c_size_8abf5 : GoodIn wsX3_deadRows wsJx4a65c_size_8abf5 := goodIn_r _ [13, 14, 115, 116, 117] (by decide +kernel) (by decide +kernel)
set_option maxRecDepth 20000 in
theorem gX3_deadRows_Jx4a65c_size_8abf5 : GoodIn wsX3_deadRows (wsV RX3 85 RJx4a65c yJx4a65c_size_8abf5 wsJx4a65c_size_8abf5) := goodIn_app (goodIn_of _ (by decide +kernel)) ggX3_deadRows_Jx4a65c_size_8abf5
set_option maxRecDepth 20000 in
theorem ggX3_deadRows_Jx4a65c_get_915e3 : GoodIn wsX3_deadRows wsJx4a65c_get_915e3 := goodIn_r _ [18, 14, 19, 20, 21, 22, 23, 24, 25, 26, 27, 28, 29, 12, 30, 31, 115, 116, 117] (by decide +kernel) (by decide +kernel)
set_option maxRecDepth 20000 in
theorem gX3_deadRows_Jx4a65c_get_915e3 : GoodIn wsX3_deadRows (wsV RX3 152 RJx4a65c yJx4a65c_get_915e3 wsJx4a65c_get_915e3) := goodIn_app (goodIn_of _ (by decide +kernel)) ggX3_deadRows_Jx4a65c_get_915e3
theorem dX3_deadRows_0 : decode cX3_deadRows 0 = .ok (.aload_n 0, 1) := by decide +kernel
theorem dX3_deadRows_1 : decode cX3_deadRows 1 = .ok (.invokevirtual 244, 3) := by decide +kernel
theorem dX3_deadRows_4 : decode cX3_deadRows 4 = .ok (.iconst 0, 1) := by decide +kernel
theorem dX3_deadRows_5 : decode cX3_deadRows 5 = .ok (.istore_n 1, 1) := by decide +kernel
theorem dX3_deadRows_6 : decode cX3_deadRows 6 = .ok (.iconst 0, 1) := by decide +kernel
theorem dX3_deadRows_7 : decode cX3_deadRows 7 = .ok (.istore_n 2, 1) := by decide +kernel
theorem dX3_deadRows_8 : decode cX3_deadRows 8 = .ok (.iload_n 2, 1) := by decide +kernel
theorem dX3_deadRows_9 : decode cX3_deadRows 9 = .ok (.aload_n 0, 1) := by decide +kernel
theorem dX3_deadRows_10 : decode cX3_deadRows 10 = .ok (.getfield 16, 3) := by decide +kernel
theorem dX3_deadRows_13 : decode cX3_deadRows 13 = .ok (.invokevirtual 85, 3) := by decide +kernel
theorem dX3_deadRows_16 : decode cX3_deadRows 16 = .ok (.if_icmp .ge 29, 3) := by decide +kernel
theorem dX3_deadRows_19 : decode cX3_deadRows 19 = .ok (.aload_n 0, 1) := by decide +kernel
theorem dX3_deadRows_20 : decode cX3_deadRows 20 = .ok (.getfield 16, 3) := by decide +kernel
theorem dX3_deadRows_23 : decode cX3_deadRows 23 = .ok (.iload_n 2, 1) := by decide +kernel
theorem dX3_deadRows_24 : decode cX3_deadRows 24 = .ok (.invokevirtual 152, 3) := by decide +kernel
theorem dX3_deadRows_27 : decode cX3_deadRows 27 = .ok (.checkcast 67, 3) := by decide +kernel
theorem dX3_deadRows_30 : decode cX3_deadRows 30 = .ok (.getfield 341, 3) := by decide +kernel
theorem dX3_deadRows_33 : decode cX3_deadRows 33 = .ok (.ifCond .eq 6, 3) := by decide +kernel
theorem dX3_deadRows_36 : decode cX3_deadRows 36 = .ok (.iinc 1 1, 3) := by decide +kernel
theorem dX3_deadRows_39 : decode cX3_deadRows 39 = .ok (.iinc 2 1, 3) := by decide +kernel
theorem dX3_deadRows_42 : decode cX3_deadRows 42 = .ok (.goto (-34), 3) := by decide +kernel
theorem dX3_deadRows_45 : decode cX3_deadRows 45 = .ok (.iload_n 1, 1) := by decide +kernel
theorem dX3_deadRows_46 : decode cX3_deadRows 46 = .ok (.ireturn, 1) := by decide +kernel
set_option maxRecDepth 20000 in
theorem ggX3_measureRows_Jx4a65c_size_8abf5 : GoodIn wsX3_measureRows wsJx4a65c_size_8abf5 := goodIn_r _ [7, 8, 91, 92, 93] (by decide +kernel) (by decide +kernel)
set_option maxRecDepth 20000 in
theorem gX3_measureRows_Jx4a65c_size_8abf5 : GoodIn wsX3_measureRows (wsV RX3 85 RJx4a65c yJx4a65c_size_8abf5 wsJx4a65c_size_8abf5) := goodIn_app (goodIn_of _ (by decide +kernel)) ggX3_measureRows_Jx4a65c_size_8abf5
set_option maxRecDepth 20000 in
theorem ggX3_measureRows_Jx4a65c_get_915e3 : GoodIn wsX3_measureRows wsJx4a65c_get_915e3 := goodIn_r _ [12, 8, 13, 14, 15, 16, 17, 18, 19, 20, 21, 22, 23, 6, 24, 25, 91, 92, 93] (by decide +kernel) (by decide +kernel)
set_option maxRecDepth 20000 in
theorem gX3_measureRows_Jx4a65c_get_915e3 : GoodIn wsX3_measureRows (wsV RX3 152 RJx4a65c yJx4a65c_get_915e3 wsJx4a65c_get_915e3) := goodIn_app (goodIn_of _ (by decide +kernel)) ggX3_measureRows_Jx4a65c_get_915e3
set_option maxRecDepth 20000 in
theorem ggX3_measureRows_X1_measure : GoodIn wsX3_measureRows wsX1_measure := goodIn_r _ [30, 31, 32, 33, 34, 35, 36, 37, 38, 39, 40, 41, 42, 43, 44, 45, 46, 47, 48, 49, 50, 51, 52, 53, 54, 55, 56, 57, 58, 59, 60, 61, 62, 63, 64, 65, 66, 67, 68, 69, 70, 71, 72, 73, 74, 94, 95, 96, 97, 98, 99, 100, 101, 102, 103, 104, 105, 106, 107, 108, 109, 110, 111, 112, 113, 114, 115, 116, 117, 118, 119, 120, 121, 122, 123, 124, 125, 126, 127, 128, 129, 130] (by decide +kernel) (by decide +kernel)
set_option maxRecDepth 20000 in
theorem gX3_measureRows_X1_measure : GoodIn wsX3_measureRows (wsV RX3 288 RX1 yX1_measure wsX1_measure) := goodIn_app (goodIn_of _ (by decide +kernel)) ggX3_measureRows_X1_measure
theorem dX3_measureRows_0 : decode cX3_measureRows 0 = .ok (.iconst 0, 1) := by decide +kernel
theorem dX3_measureRows_1 : decode cX3_measureRows 1 = .ok (.istore_n 1, 1) := by decide +kernel
theorem dX3_measureRows_2 : decode cX3_measureRows 2 = .ok (.iload_n 1, 1) := by decide +kernel
theorem dX3_measureRows_3 : decode cX3_measureRows 3 = .ok (.aload_n 0, 1) := by decide +kernel
theorem dX3_measureRows_4 : decode cX3_measureRows 4 = .ok (.getfield 16, 3) := by decide +kernel
theorem dX3_measureRows_7 : decode cX3_measureRows 7 = .ok (.invokevirtual 85, 3) := by decide +kernel
theorem dX3_measureRows_10 : decode cX3_measureRows 10 = .ok (.if_icmp .ge 23, 3) := by decide +kernel
theorem dX3_measureRows_13 : decode cX3_measureRows 13 = .ok (.aload_n 0, 1) := by decide +kernel
theorem dX3_measureRows_14 : decode cX3_measureRows 14 = .ok (.getfield 16, 3) := by decide +kernel
theorem dX3_measureRows_17 : decode cX3_measureRows 17 = .ok (.iload_n 1, 1) := by decide +kernel
theorem dX3_measureRows_18 : decode cX3_measureRows 18 = .ok (.invokevirtual 152, 3) := by decide +kernel
theorem dX3_measureRows_21 : decode cX3_measureRows 21 = .ok (.checkcast 67, 3) := by decide +kernel
theorem dX3_measureRows_24 : decode cX3_measureRows 24 = .ok (.invokevirtual 288, 3) := by decide +kernel
theorem dX3_measureRows_27 : decode cX3_measureRows 27 = .ok (.iinc 1 1, 3) := by decide +kernel
theorem dX3_measureRows_30 : decode cX3_measureRows 30 = .ok (.goto (-28), 3) := by decide +kernel
theorem dX3_measureRows_33 : decode cX3_measureRows 33 = .ok (.return_, 1) := by decide +kernel
set_option maxRecDepth 20000 in
theorem ggX3_stepOnce_X3_markAwake : GoodIn wsX3_stepOnce wsX3_markAwake := goodIn_r _ [8, 9, 10, 11, 12, 13, 14, 15, 16, 17, 18, 19, 20, 21, 22, 23, 24, 25, 26, 27, 28, 29, 30, 31, 32, 33, 34, 35, 36, 37, 38, 39, 40, 7, 41, 178, 179, 180, 181, 182, 183, 184, 185, 186, 187, 188, 189, 190, 191, 192, 193, 194, 195, 196, 197, 198, 199, 200, 201, 202, 203, 204, 205, 206, 207, 208, 209, 210, 211, 212] (by decide +kernel) (by decide +kernel)
set_option maxRecDepth 20000 in
theorem gX3_stepOnce_X3_markAwake : GoodIn wsX3_stepOnce (wsV RX3 250 RX3 yX3_markAwake wsX3_markAwake) := goodIn_app (goodIn_of _ (by decide +kernel)) ggX3_stepOnce_X3_markAwake
set_option maxRecDepth 20000 in
theorem ggX3_stepOnce_X3_rouseAwakeIslands : GoodIn wsX3_stepOnce wsX3_rouseAwakeIslands := goodIn_r _ [45, 11, 12, 14, 13, 15, 16, 17, 18, 19, 20, 21, 22, 23, 24, 25, 26, 27, 28, 29, 30, 31, 32, 33, 34, 35, 36, 37, 46, 47, 48, 7, 49, 10, 38, 39, 40, 41, 9, 50, 51, 52, 53, 54, 55, 56, 178, 179, 180, 181, 182, 183, 184, 185, 186, 187, 188, 189, 190, 191, 192, 193, 194, 195, 196, 197, 198, 199, 200, 201, 202, 203, 204, 205, 206, 207, 208, 209, 210, 211, 212] (by decide +kernel) (by decide +kernel)
set_option maxRecDepth 20000 in
theorem gX3_stepOnce_X3_rouseAwakeIslands : GoodIn wsX3_stepOnce (wsV RX3 344 RX3 yX3_rouseAwakeIslands wsX3_rouseAwakeIslands) := goodIn_app (goodIn_of _ (by decide +kernel)) ggX3_stepOnce_X3_rouseAwakeIslands
set_option maxRecDepth 20000 in
theorem ggX3_stepOnce_X3_dealOutIslands : GoodIn wsX3_stepOnce wsX3_dealOutIslands := goodIn_r _ [60, 9, 10, 1, 178, 179, 180, 181, 182, 183, 184, 185, 186, 187, 188, 189, 190, 191, 192, 193] (by decide +kernel) (by decide +kernel)
set_option maxRecDepth 20000 in
theorem gX3_stepOnce_X3_dealOutIslands : GoodIn wsX3_stepOnce (wsV RX3 347 RX3 yX3_dealOutIslands wsX3_dealOutIslands) := goodIn_app (goodIn_of _ (by decide +kernel)) ggX3_stepOnce_X3_dealOutIslands
set_option maxRecDepth 20000 in
theorem ggX3_stepOnce_X3_dealOutRows : GoodIn wsX3_stepOnce wsX3_dealOutRows := goodIn_r _ [64, 65, 66, 67, 68, 15, 16, 17, 18, 19, 20, 21, 22, 23, 24, 25, 26, 27, 28, 29, 30, 31, 32, 33, 34, 35, 36, 37, 69, 70, 71, 72, 73, 74, 75, 76, 77, 46, 47, 48, 7, 49, 10, 38, 39, 40, 41, 9, 178, 179, 180, 181, 182, 183, 184, 185, 186, 187, 188, 189, 190, 191, 192, 193, 213, 214, 215, 216, 217, 218, 219, 220, 221, 222, 223, 224, 225, 226, 227, 228, 229, 230, 210, 211, 212, 194, 195, 196, 197, 198, 199, 200, 201, 202, 203, 204, 205, 206, 207, 208, 209] (by decide +kernel) (by decide +kernel)
set_option maxRecDepth 20000 in
theorem gX3_stepOnce_X3_dealOutRows : GoodIn wsX3_stepOnce (wsV RX3 350 RX3 yX3_dealOutRows wsX3_dealOutRows) := goodIn_app (goodIn_of _ (by decide +kernel)) ggX3_stepOnce_X3_dealOutRows
set_option maxRecDepth 20000 in
theorem ggX3_stepOnce_X3_solveRowsOf : GoodIn wsX3_stepOnce wsX3_solveRowsOf := goodIn_r _ [81, 65, 82, 68, 83, 84, 85, 86, 72, 87, 88, 89, 90, 91, 92, 93, 94, 95, 96, 97, 98, 7, 99, 100, 101, 102, 103, 74, 75, 104, 105, 106, 107, 108, 77, 109, 110, 111, 112, 113, 114, 115, 116, 117, 118, 119, 120, 121, 122, 123, 124, 125, 126, 127, 128, 129, 130, 131, 132, 133, 134, 135, 136, 137, 138, 178, 179, 180, 181, 182, 183, 184, 185, 186, 187, 188, 189, 190, 191, 192, 193, 213, 214, 215, 216, 217, 218, 219, 220, 221, 222, 223, 224, 225, 226, 227, 228, 229, 230, 194, 195, 196, 197, 198, 199, 200, 201, 202, 203, 204, 205, 206, 207, 208, 209, 231, 232, 233] (by decide +kernel) (by decide +kernel)
set_option maxRecDepth 20000 in
theorem gX3_stepOnce_X3_solveRowsOf : GoodIn wsX3_stepOnce (wsV RX3 353 RX3 yX3_solveRowsOf wsX3_solveRowsOf) := goodIn_app (goodIn_of _ (by decide +kernel)) ggX3_stepOnce_X3_solveRowsOf
set_option maxRecDepth 20000 in
theorem ggX3_stepOnce_X3_settleBodies : GoodIn wsX3_stepOnce wsX3_settleBodies := goodIn_r _ [142, 11, 12, 13, 143, 15, 16, 17, 18, 19, 20, 21, 22, 23, 24, 25, 26, 27, 28, 29, 30, 31, 32, 33, 34, 35, 36, 37, 46, 47, 48, 7, 49, 10, 38, 39, 40, 41, 9, 144, 145, 146, 53, 147, 148, 149, 150, 56, 151, 152, 153, 113, 154, 115, 116, 117, 98, 99, 155, 156, 157, 158, 159, 136, 137, 138, 178, 179, 180, 181, 182, 183, 184, 185, 186, 187, 188, 189, 190, 191, 192, 193, 194, 195, 196, 197, 198, 199, 200, 201, 202, 203, 204, 205, 206, 207, 208, 209, 210, 211, 212, 231, 232, 233] (by decide +kernel) (by decide +kernel)
set_option maxRecDepth 20000 in
theorem gX3_stepOnce_X3_settleBodies : GoodIn wsX3_stepOnce (wsV RX3 357 RX3 yX3_settleBodies wsX3_settleBodies) := goodIn_app (goodIn_of _ (by decide +kernel)) ggX3_stepOnce_X3_settleBodies
set_option maxRecDepth 20000 in
theorem ggX3_stepOnce_X3_markRestless : GoodIn wsX3_stepOnce wsX3_markRestless := goodIn_r _ [163, 9, 164, 10, 11, 12, 13, 165, 2, 15, 16, 17, 18, 19, 20, 21, 22, 23, 24, 25, 26, 27, 28, 29, 30, 31, 32, 33, 34, 35, 36, 37, 38, 39, 40, 7, 41, 178, 179, 180, 181, 182, 183, 184, 185, 186, 187, 188, 189, 190, 191, 192, 193, 194, 195, 196, 197, 198, 199, 200, 201, 202, 203, 204, 205, 206, 207, 208, 209, 210, 211, 212] (by decide +kernel) (by decide +kernel)
set_option maxRecDepth 20000 in
theorem gX3_stepOnce_X3_markRestless : GoodIn wsX3_stepOnce (wsV RX3 360 RX3 yX3_markRestless wsX3_markRestless) := goodIn_app (goodIn_of _ (by decide +kernel)) ggX3_stepOnce_X3_markRestless
set_option maxRecDepth 20000 in
theorem ggX3_stepOnce_X3_layToSleep : GoodIn wsX3_stepOnce wsX3_layToSleep := goodIn_r _ [169, 11, 12, 13, 164, 15, 16, 17, 18, 19, 20, 21, 22, 23, 24, 25, 26, 27, 28, 29, 30, 31, 32, 33, 34, 35, 36, 37, 38, 39, 40, 7, 41, 9, 170, 171, 172, 53, 173, 55, 148, 150, 174, 175, 176, 113, 177, 115, 116, 117, 178, 179, 180, 181, 182, 183, 184, 185, 186, 187, 188, 189, 190, 191, 192, 193, 194, 195, 196, 197, 198, 199, 200, 201, 202, 203, 204, 205, 206, 207, 208, 209, 210, 211, 212, 231, 232, 233] (by decide +kernel) (by decide +kernel)
set_option maxRecDepth 20000 in
theorem gX3_stepOnce_X3_layToSleep : GoodIn wsX3_stepOnce (wsV RX3 363 RX3 yX3_layToSleep wsX3_layToSleep) := goodIn_app (goodIn_of _ (by decide +kernel)) ggX3_stepOnce_X3_layToSleep
theorem dX3_stepOnce_0 : decode cX3_stepOnce 0 = .ok (.aload_n 0, 1) := by decide +kernel
theorem dX3_stepOnce_1 : decode cX3_stepOnce 1 = .ok (.invokevirtual 250, 3) := by decide +kernel
theorem dX3_stepOnce_4 : decode cX3_stepOnce 4 = .ok (.aload_n 0, 1) := by decide +kernel
theorem dX3_stepOnce_5 : decode cX3_stepOnce 5 = .ok (.invokevirtual 344, 3) := by decide +kernel
theorem dX3_stepOnce_8 : decode cX3_stepOnce 8 = .ok (.aload_n 0, 1) := by decide +kernel
theorem dX3_stepOnce_9 : decode cX3_stepOnce 9 = .ok (.invokevirtual 347, 3) := by decide +kernel
theorem dX3_stepOnce_12 : decode cX3_stepOnce 12 = .ok (.aload_n 0, 1) := by decide +kernel
theorem dX3_stepOnce_13 : decode cX3_stepOnce 13 = .ok (.invokevirtual 350, 3) := by decide +kernel
theorem dX3_stepOnce_16 : decode cX3_stepOnce 16 = .ok (.aload_n 0, 1) := by decide +kernel
theorem dX3_stepOnce_17 : decode cX3_stepOnce 17 = .ok (.getfield 50, 3) := by decide +kernel
theorem dX3_stepOnce_20 : decode cX3_stepOnce 20 = .ok (.iconst 1, 1) := by decide +kernel
theorem dX3_stepOnce_21 : decode cX3_stepOnce 21 = .ok (.isub, 1) := by decide +kernel
theorem dX3_stepOnce_22 : decode cX3_stepOnce 22 = .ok (.istore_n 1, 1) := by decide +kernel
theorem dX3_stepOnce_23 : decode cX3_stepOnce 23 = .ok (.iload_n 1, 1) := by decide +kernel
theorem dX3_stepOnce_24 : decode cX3_stepOnce 24 = .ok (.ifCond .lt 14, 3) := by decide +kernel
theorem dX3_stepOnce_27 : decode cX3_stepOnce 27 = .ok (.aload_n 0, 1) := by decide +kernel
theorem dX3_stepOnce_28 : decode cX3_stepOnce 28 = .ok (.iload_n 1, 1) := by decide +kernel
theorem dX3_stepOnce_29 : decode cX3_stepOnce 29 = .ok (.invokevirtual 353, 3) := by decide +kernel
theorem dX3_stepOnce_32 : decode cX3_stepOnce 32 = .ok (.iinc 1 (-1), 3) := by decide +kernel
theorem dX3_stepOnce_35 : decode cX3_stepOnce 35 = .ok (.goto (-12), 3) := by decide +kernel
theorem dX3_stepOnce_38 : decode cX3_stepOnce 38 = .ok (.aload_n 0, 1) := by decide +kernel
theorem dX3_stepOnce_39 : decode cX3_stepOnce 39 = .ok (.invokevirtual 357, 3) := by decide +kernel
theorem dX3_stepOnce_42 : decode cX3_stepOnce 42 = .ok (.aload_n 0, 1) := by decide +kernel
theorem dX3_stepOnce_43 : decode cX3_stepOnce 43 = .ok (.getfield 47, 3) := by decide +kernel
theorem dX3_stepOnce_46 : decode cX3_stepOnce 46 = .ok (.ifCond .le 11, 3) := by decide +kernel
theorem dX3_stepOnce_49 : decode cX3_stepOnce 49 = .ok (.aload_n 0, 1) := by decide +kernel
theorem dX3_stepOnce_50 : decode cX3_stepOnce 50 = .ok (.invokevirtual 360, 3) := by decide +kernel
theorem dX3_stepOnce_53 : decode cX3_stepOnce 53 = .ok (.aload_n 0, 1) := by decide +kernel
theorem dX3_stepOnce_54 : decode cX3_stepOnce 54 = .ok (.invokevirtual 363, 3) := by decide +kernel
theorem dX3_stepOnce_57 : decode cX3_stepOnce 57 = .ok (.aload_n 0, 1) := by decide +kernel
theorem dX3_stepOnce_58 : decode cX3_stepOnce 58 = .ok (.dup, 1) := by decide +kernel
theorem dX3_stepOnce_59 : decode cX3_stepOnce 59 = .ok (.getfield 53, 3) := by decide +kernel
theorem dX3_stepOnce_62 : decode cX3_stepOnce 62 = .ok (.iconst 1, 1) := by decide +kernel
theorem dX3_stepOnce_63 : decode cX3_stepOnce 63 = .ok (.iadd, 1) := by decide +kernel
theorem dX3_stepOnce_64 : decode cX3_stepOnce 64 = .ok (.putfield 53, 3) := by decide +kernel
theorem dX3_stepOnce_67 : decode cX3_stepOnce 67 = .ok (.return_, 1) := by decide +kernel
set_option maxRecDepth 20000 in
theorem ggX3_rouseAwakeIslands_Jx4a65c_size_8abf5 : GoodIn wsX3_rouseAwakeIslands wsJx4a65c_size_8abf5 := goodIn_r _ [9, 10, 78, 79, 80] (by decide +kernel) (by decide +kernel)
set_option maxRecDepth 20000 in
theorem gX3_rouseAwakeIslands_Jx4a65c_size_8abf5 : GoodIn wsX3_rouseAwakeIslands (wsV RX3 85 RJx4a65c yJx4a65c_size_8abf5 wsJx4a65c_size_8abf5) := goodIn_app (goodIn_of _ (by decide +kernel)) ggX3_rouseAwakeIslands_Jx4a65c_size_8abf5
set_option maxRecDepth 20000 in
theorem ggX3_rouseAwakeIslands_Jx4a65c_get_915e3 : GoodIn wsX3_rouseAwakeIslands wsJx4a65c_get_915e3 := goodIn_r _ [14, 10, 15, 16, 17, 18, 19, 20, 21, 22, 23, 24, 25, 8, 26, 27, 78, 79, 80] (by decide +kernel) (by decide +kernel)
set_option maxRecDepth 20000 in
theorem gX3_rouseAwakeIslands_Jx4a65c_get_915e3 : GoodIn wsX3_rouseAwakeIslands (wsV RX3 152 RJx4a65c yJx4a65c_get_915e3 wsJx4a65c_get_915e3) := goodIn_app (goodIn_of _ (by decide +kernel)) ggX3_rouseAwakeIslands_Jx4a65c_get_915e3
set_option maxRecDepth 20000 in
theorem ggX3_rouseAwakeIslands_X3_workerOn : GoodIn wsX3_rouseAwakeIslands wsX3_workerOn := goodIn_r _ [32, 33, 34, 35, 36, 31, 37, 38, 46, 47, 48, 49, 50, 51, 52, 53, 54, 55, 56, 57, 58, 59, 60, 61] (by decide +kernel) (by decide +kernel)
set_option maxRecDepth 20000 in
theorem gX3_rouseAwakeIslands_X3_workerOn : GoodIn wsX3_rouseAwakeIslands (wsV RX3 366 RX3 yX3_workerOn wsX3_workerOn) := goodIn_app (goodIn_of _ (by decide +kernel)) ggX3_rouseAwakeIslands_X3_workerOn
set_option maxRecDepth 20000 in
theorem ggX3_rouseAwakeIslands_X0_rouse : GoodIn wsX3_rouseAwakeIslands wsX0_rouse := goodIn_r _ [43, 44, 45, 62, 63, 64, 65, 66, 67, 68, 69, 70, 71, 72, 73, 74, 75, 76, 77] (by decide +kernel) (by decide +kernel)
set_option maxRecDepth 20000 in
theorem gX3_rouseAwakeIslands_X0_rouse : GoodIn wsX3_rouseAwakeIslands (wsV RX3 120 RX0 yX0_rouse wsX0_rouse) := goodIn_app (goodIn_of _ (by decide +kernel)) ggX3_rouseAwakeIslands_X0_rouse
theorem dX3_rouseAwakeIslands_0 : decode cX3_rouseAwakeIslands 0 = .ok (.iconst 0, 1) := by decide +kernel
theorem dX3_rouseAwakeIslands_1 : decode cX3_rouseAwakeIslands 1 = .ok (.istore_n 1, 1) := by decide +kernel
theorem dX3_rouseAwakeIslands_2 : decode cX3_rouseAwakeIslands 2 = .ok (.iload_n 1, 1) := by decide +kernel
theorem dX3_rouseAwakeIslands_3 : decode cX3_rouseAwakeIslands 3 = .ok (.aload_n 0, 1) := by decide +kernel
theorem dX3_rouseAwakeIslands_4 : decode cX3_rouseAwakeIslands 4 = .ok (.getfield 10, 3) := by decide +kernel
theorem dX3_rouseAwakeIslands_7 : decode cX3_rouseAwakeIslands 7 = .ok (.invokevirtual 85, 3) := by decide +kernel
theorem dX3_rouseAwakeIslands_10 : decode cX3_rouseAwakeIslands 10 = .ok (.if_icmp .ge 44, 3) := by decide +kernel
theorem dX3_rouseAwakeIslands_13 : decode cX3_rouseAwakeIslands 13 = .ok (.aload_n 0, 1) := by decide +kernel
theorem dX3_rouseAwakeIslands_14 : decode cX3_rouseAwakeIslands 14 = .ok (.getfield 10, 3) := by decide +kernel
theorem dX3_rouseAwakeIslands_17 : decode cX3_rouseAwakeIslands 17 = .ok (.iload_n 1, 1) := by decide +kernel
theorem dX3_rouseAwakeIslands_18 : decode cX3_rouseAwakeIslands 18 = .ok (.invokevirtual 152, 3) := by decide +kernel
theorem dX3_rouseAwakeIslands_21 : decode cX3_rouseAwakeIslands 21 = .ok (.checkcast 94, 3) := by decide +kernel
theorem dX3_rouseAwakeIslands_24 : decode cX3_rouseAwakeIslands 24 = .ok (.astore_n 2, 1) := by decide +kernel
theorem dX3_rouseAwakeIslands_25 : decode cX3_rouseAwakeIslands 25 = .ok (.aload_n 2, 1) := by decide +kernel
theorem dX3_rouseAwakeIslands_26 : decode cX3_rouseAwakeIslands 26 = .ok (.getfield 169, 3) := by decide +kernel
theorem dX3_rouseAwakeIslands_29 : decode cX3_rouseAwakeIslands 29 = .ok (.ifCond .eq 19, 3) := by decide +kernel
theorem dX3_rouseAwakeIslands_32 : decode cX3_rouseAwakeIslands 32 = .ok (.aload_n 0, 1) := by decide +kernel
theorem dX3_rouseAwakeIslands_33 : decode cX3_rouseAwakeIslands 33 = .ok (.aload_n 2, 1) := by decide +kernel
theorem dX3_rouseAwakeIslands_34 : decode cX3_rouseAwakeIslands 34 = .ok (.getfield 270, 3) := by decide +kernel
theorem dX3_rouseAwakeIslands_37 : decode cX3_rouseAwakeIslands 37 = .ok (.invokevirtual 366, 3) := by decide +kernel
theorem dX3_rouseAwakeIslands_40 : decode cX3_rouseAwakeIslands 40 = .ok (.iconst (-1), 1) := by decide +kernel
theorem dX3_rouseAwakeIslands_41 : decode cX3_rouseAwakeIslands 41 = .ok (.if_icmp .eq 7, 3) := by decide +kernel
theorem dX3_rouseAwakeIslands_44 : decode cX3_rouseAwakeIslands 44 = .ok (.aload_n 2, 1) := by decide +kernel
theorem dX3_rouseAwakeIslands_45 : decode cX3_rouseAwakeIslands 45 = .ok (.invokevirtual 120, 3) := by decide +kernel
theorem dX3_rouseAwakeIslands_48 : decode cX3_rouseAwakeIslands 48 = .ok (.iinc 1 1, 3) := by decide +kernel
theorem dX3_rouseAwakeIslands_51 : decode cX3_rouseAwakeIslands 51 = .ok (.goto (-49), 3) := by decide +kernel
theorem dX3_rouseAwakeIslands_54 : decode cX3_rouseAwakeIslands 54 = .ok (.return_, 1) := by decide +kernel
theorem dX3_dealOutIslands_0 : decode cX3_dealOutIslands 0 = .ok (.iconst 0, 1) := by decide +kernel
theorem dX3_dealOutIslands_1 : decode cX3_dealOutIslands 1 = .ok (.istore_n 1, 1) := by decide +kernel
theorem dX3_dealOutIslands_2 : decode cX3_dealOutIslands 2 = .ok (.iconst 0, 1) := by decide +kernel
theorem dX3_dealOutIslands_3 : decode cX3_dealOutIslands 3 = .ok (.istore_n 2, 1) := by decide +kernel
theorem dX3_dealOutIslands_4 : decode cX3_dealOutIslands 4 = .ok (.iload_n 2, 1) := by decide +kernel
theorem dX3_dealOutIslands_5 : decode cX3_dealOutIslands 5 = .ok (.aload_n 0, 1) := by decide +kernel
theorem dX3_dealOutIslands_6 : decode cX3_dealOutIslands 6 = .ok (.getfield 56, 3) := by decide +kernel
theorem dX3_dealOutIslands_9 : decode cX3_dealOutIslands 9 = .ok (.if_icmp .ge 44, 3) := by decide +kernel
theorem dX3_dealOutIslands_12 : decode cX3_dealOutIslands 12 = .ok (.aload_n 0, 1) := by decide +kernel
theorem dX3_dealOutIslands_13 : decode cX3_dealOutIslands 13 = .ok (.getfield 59, 3) := by decide +kernel
theorem dX3_dealOutIslands_16 : decode cX3_dealOutIslands 16 = .ok (.iload_n 2, 1) := by decide +kernel
theorem dX3_dealOutIslands_17 : decode cX3_dealOutIslands 17 = .ok (.iaload, 1) := by decide +kernel
theorem dX3_dealOutIslands_18 : decode cX3_dealOutIslands 18 = .ok (.iconst (-1), 1) := by decide +kernel
theorem dX3_dealOutIslands_19 : decode cX3_dealOutIslands 19 = .ok (.if_icmp .eq 28, 3) := by decide +kernel
theorem dX3_dealOutIslands_22 : decode cX3_dealOutIslands 22 = .ok (.aload_n 0, 1) := by decide +kernel
theorem dX3_dealOutIslands_23 : decode cX3_dealOutIslands 23 = .ok (.getfield 59, 3) := by decide +kernel
theorem dX3_dealOutIslands_26 : decode cX3_dealOutIslands 26 = .ok (.iload_n 2, 1) := by decide +kernel
theorem dX3_dealOutIslands_27 : decode cX3_dealOutIslands 27 = .ok (.iload_n 1, 1) := by decide +kernel
theorem dX3_dealOutIslands_28 : decode cX3_dealOutIslands 28 = .ok (.iastore, 1) := by decide +kernel
theorem dX3_dealOutIslands_29 : decode cX3_dealOutIslands 29 = .ok (.iload_n 1, 1) := by decide +kernel
theorem dX3_dealOutIslands_30 : decode cX3_dealOutIslands 30 = .ok (.iconst 1, 1) := by decide +kernel
theorem dX3_dealOutIslands_31 : decode cX3_dealOutIslands 31 = .ok (.iadd, 1) := by decide +kernel
theorem dX3_dealOutIslands_32 : decode cX3_dealOutIslands 32 = .ok (.aload_n 0, 1) := by decide +kernel
theorem dX3_dealOutIslands_33 : decode cX3_dealOutIslands 33 = .ok (.getfield 50, 3) := by decide +kernel
theorem dX3_dealOutIslands_36 : decode cX3_dealOutIslands 36 = .ok (.if_icmp .ge 9, 3) := by decide +kernel
theorem dX3_dealOutIslands_39 : decode cX3_dealOutIslands 39 = .ok (.iload_n 1, 1) := by decide +kernel
theorem dX3_dealOutIslands_40 : decode cX3_dealOutIslands 40 = .ok (.iconst 1, 1) := by decide +kernel
theorem dX3_dealOutIslands_41 : decode cX3_dealOutIslands 41 = .ok (.iadd, 1) := by decide +kernel
theorem dX3_dealOutIslands_42 : decode cX3_dealOutIslands 42 = .ok (.goto 4, 3) := by decide +kernel
theorem dX3_dealOutIslands_45 : decode cX3_dealOutIslands 45 = .ok (.iconst 0, 1) := by decide +kernel
theorem dX3_dealOutIslands_46 : decode cX3_dealOutIslands 46 = .ok (.istore_n 1, 1) := by decide +kernel
theorem dX3_dealOutIslands_47 : decode cX3_dealOutIslands 47 = .ok (.iinc 2 1, 3) := by decide +kernel
theorem dX3_dealOutIslands_50 : decode cX3_dealOutIslands 50 = .ok (.goto (-46), 3) := by decide +kernel
theorem dX3_dealOutIslands_53 : decode cX3_dealOutIslands 53 = .ok (.return_, 1) := by decide +kernel
set_option maxRecDepth 20000 in
theorem ggX3_dealOutRows_Jx4a65c_size_8abf5 : GoodIn wsX3_dealOutRows wsJx4a65c_size_8abf5 := goodIn_r _ [9, 10, 82, 83, 84] (by decide +kernel) (by decide +kernel)
set_option maxRecDepth 20000 in
theorem gX3_dealOutRows_Jx4a65c_size_8abf5 : GoodIn wsX3_dealOutRows (wsV RX3 85 RJx4a65c yJx4a65c_size_8abf5 wsJx4a65c_size_8abf5) := goodIn_app (goodIn_of _ (by decide +kernel)) ggX3_dealOutRows_Jx4a65c_size_8abf5
set_option maxRecDepth 20000 in
theorem ggX3_dealOutRows_Jx4a65c_get_915e3 : GoodIn wsX3_dealOutRows wsJx4a65c_get_915e3 := goodIn_r _ [14, 10, 15, 16, 17, 18, 19, 20, 21, 22, 23, 24, 25, 8, 26, 27, 82, 83, 84] (by decide +kernel) (by decide +kernel)
set_option maxRecDepth 20000 in
theorem gX3_dealOutRows_Jx4a65c_get_915e3 : GoodIn wsX3_dealOutRows (wsV RX3 152 RJx4a65c yJx4a65c_get_915e3 wsJx4a65c_get_915e3) := goodIn_app (goodIn_of _ (by decide +kernel)) ggX3_dealOutRows_Jx4a65c_get_915e3
set_option maxRecDepth 20000 in
theorem ggX3_dealOutRows_X1_island : GoodIn wsX3_dealOutRows wsX1_island := goodIn_r _ [32, 33, 34, 35, 36, 64, 65, 66, 67, 68, 69, 70, 71, 72, 73, 74, 75, 76, 77, 78, 79, 80, 81, 85, 86, 87, 88, 89, 90, 91, 92, 93, 94, 95, 96, 97, 98, 99, 100] (by decide +kernel) (by decide +kernel)
set_option maxRecDepth 20000 in
theorem gX3_dealOutRows_X1_island : GoodIn wsX3_dealOutRows (wsV RX3 370 RX1 yX1_island wsX1_island) := goodIn_app (goodIn_of _ (by decide +kernel)) ggX3_dealOutRows_X1_island
set_option maxRecDepth 20000 in
theorem ggX3_dealOutRows_X3_workerOn : GoodIn wsX3_dealOutRows wsX3_workerOn := goodIn_r _ [41, 42, 43, 44, 45, 40, 46, 47, 48, 49, 50, 51, 52, 53, 54, 55, 56, 57, 58, 59, 60, 61, 62, 63] (by decide +kernel) (by decide +kernel)
set_option maxRecDepth 20000 in
theorem gX3_dealOutRows_X3_workerOn : GoodIn wsX3_dealOutRows (wsV RX3 366 RX3 yX3_workerOn wsX3_workerOn) := goodIn_app (goodIn_of _ (by decide +kernel)) ggX3_dealOutRows_X3_workerOn
theorem dX3_dealOutRows_0 : decode cX3_dealOutRows 0 = .ok (.iconst 0, 1) := by decide +kernel
theorem dX3_dealOutRows_1 : decode cX3_dealOutRows 1 = .ok (.istore_n 1, 1) := by decide +kernel
theorem dX3_dealOutRows_2 : decode cX3_dealOutRows 2 = .ok (.iload_n 1, 1) := by decide +kernel
theorem dX3_dealOutRows_3 : decode cX3_dealOutRows 3 = .ok (.bipush 8, 2) := by decide +kernel
theorem dX3_dealOutRows_5 : decode cX3_dealOutRows 5 = .ok (.if_icmp .ge 16, 3) := by decide +kernel
theorem dX3_dealOutRows_8 : decode cX3_dealOutRows 8 = .ok (.aload_n 0, 1) := by decide +kernel
theorem dX3_dealOutRows_9 : decode cX3_dealOutRows 9 = .ok (.getfield 69, 3) := by decide +kernel
theorem dX3_dealOutRows_12 : decode cX3_dealOutRows 12 = .ok (.iload_n 1, 1) := by decide +kernel
theorem dX3_dealOutRows_13 : decode cX3_dealOutRows 13 = .ok (.aconst_null, 1) := by decide +kernel
theorem dX3_dealOutRows_14 : decode cX3_dealOutRows 14 = .ok (.aastore, 1) := by decide +kernel
theorem dX3_dealOutRows_15 : decode cX3_dealOutRows 15 = .ok (.iinc 1 1, 3) := by decide +kernel
theorem dX3_dealOutRows_18 : decode cX3_dealOutRows 18 = .ok (.goto (-16), 3) := by decide +kernel
theorem dX3_dealOutRows_21 : decode cX3_dealOutRows 21 = .ok (.aload_n 0, 1) := by decide +kernel
theorem dX3_dealOutRows_22 : decode cX3_dealOutRows 22 = .ok (.getfield 16, 3) := by decide +kernel
theorem dX3_dealOutRows_25 : decode cX3_dealOutRows 25 = .ok (.invokevirtual 85, 3) := by decide +kernel
theorem dX3_dealOutRows_28 : decode cX3_dealOutRows 28 = .ok (.iconst 1, 1) := by decide +kernel
theorem dX3_dealOutRows_29 : decode cX3_dealOutRows 29 = .ok (.isub, 1) := by decide +kernel
theorem dX3_dealOutRows_30 : decode cX3_dealOutRows 30 = .ok (.istore_n 1, 1) := by decide +kernel
theorem dX3_dealOutRows_31 : decode cX3_dealOutRows 31 = .ok (.iload_n 1, 1) := by decide +kernel
theorem dX3_dealOutRows_32 : decode cX3_dealOutRows 32 = .ok (.ifCond .lt 52, 3) := by decide +kernel
theorem dX3_dealOutRows_35 : decode cX3_dealOutRows 35 = .ok (.aload_n 0, 1) := by decide +kernel
theorem dX3_dealOutRows_36 : decode cX3_dealOutRows 36 = .ok (.getfield 16, 3) := by decide +kernel
theorem dX3_dealOutRows_39 : decode cX3_dealOutRows 39 = .ok (.iload_n 1, 1) := by decide +kernel
theorem dX3_dealOutRows_40 : decode cX3_dealOutRows 40 = .ok (.invokevirtual 152, 3) := by decide +kernel
theorem dX3_dealOutRows_43 : decode cX3_dealOutRows 43 = .ok (.checkcast 67, 3) := by decide +kernel
theorem dX3_dealOutRows_46 : decode cX3_dealOutRows 46 = .ok (.astore_n 2, 1) := by decide +kernel
theorem dX3_dealOutRows_47 : decode cX3_dealOutRows 47 = .ok (.aload_n 0, 1) := by decide +kernel
theorem dX3_dealOutRows_48 : decode cX3_dealOutRows 48 = .ok (.aload_n 2, 1) := by decide +kernel
theorem dX3_dealOutRows_49 : decode cX3_dealOutRows 49 = .ok (.invokevirtual 370, 3) := by decide +kernel
theorem dX3_dealOutRows_52 : decode cX3_dealOutRows 52 = .ok (.invokevirtual 366, 3) := by decide +kernel
theorem dX3_dealOutRows_55 : decode cX3_dealOutRows 55 = .ok (.istore_n 3, 1) := by decide +kernel
theorem dX3_dealOutRows_56 : decode cX3_dealOutRows 56 = .ok (.iload_n 3, 1) := by decide +kernel
theorem dX3_dealOutRows_57 : decode cX3_dealOutRows 57 = .ok (.iconst (-1), 1) := by decide +kernel
theorem dX3_dealOutRows_58 : decode cX3_dealOutRows 58 = .ok (.if_icmp .eq 20, 3) := by decide +kernel
theorem dX3_dealOutRows_61 : decode cX3_dealOutRows 61 = .ok (.aload_n 2, 1) := by decide +kernel
theorem dX3_dealOutRows_62 : decode cX3_dealOutRows 62 = .ok (.aload_n 0, 1) := by decide +kernel
theorem dX3_dealOutRows_63 : decode cX3_dealOutRows 63 = .ok (.getfield 69, 3) := by decide +kernel
theorem dX3_dealOutRows_66 : decode cX3_dealOutRows 66 = .ok (.iload_n 3, 1) := by decide +kernel
theorem dX3_dealOutRows_67 : decode cX3_dealOutRows 67 = .ok (.aaload, 1) := by decide +kernel
theorem dX3_dealOutRows_68 : decode cX3_dealOutRows 68 = .ok (.putfield 372, 3) := by decide +kernel
theorem dX3_dealOutRows_71 : decode cX3_dealOutRows 71 = .ok (.aload_n 0, 1) := by decide +kernel
theorem dX3_dealOutRows_72 : decode cX3_dealOutRows 72 = .ok (.getfield 69, 3) := by decide +kernel
theorem dX3_dealOutRows_75 : decode cX3_dealOutRows 75 = .ok (.iload_n 3, 1) := by decide +kernel
theorem dX3_dealOutRows_76 : decode cX3_dealOutRows 76 = .ok (.aload_n 2, 1) := by decide +kernel
theorem dX3_dealOutRows_77 : decode cX3_dealOutRows 77 = .ok (.aastore, 1) := by decide +kernel
theorem dX3_dealOutRows_78 : decode cX3_dealOutRows 78 = .ok (.iinc 1 (-1), 3) := by decide +kernel
theorem dX3_dealOutRows_81 : decode cX3_dealOutRows 81 = .ok (.goto (-50), 3) := by decide +kernel
theorem dX3_dealOutRows_84 : decode cX3_dealOutRows 84 = .ok (.return_, 1) := by decide +kernel
set_option maxRecDepth 20000 in
theorem ggX3_solveRowsOf_X1_begin : GoodIn wsX3_solveRowsOf wsX1_begin := goodIn_r _ [9, 10, 11, 12, 13, 14, 8, 15, 16, 17, 18, 19, 20, 21, 22, 23, 24, 25, 26, 27, 28, 29, 30, 31, 32, 33, 34, 35, 36, 37, 38, 39, 40, 41, 42, 43, 44, 45, 46, 47, 81, 82, 83, 84, 85, 86, 87, 88, 89, 90, 91, 92, 93, 94, 95, 96, 97, 98, 99, 100, 101, 102, 103, 104, 105, 106, 107, 108, 109, 110, 111, 112, 113, 114, 115, 116, 117] (by decide +kernel) (by decide +kernel)
set_option maxRecDepth 20000 in
theorem gX3_solveRowsOf_X1_begin : GoodIn wsX3_solveRowsOf (wsV RX3 375 RX1 yX1_begin wsX1_begin) := goodIn_app (goodIn_of _ (by decide +kernel)) ggX3_solveRowsOf_X1_begin
set_option maxRecDepth 20000 in
theorem ggX3_solveRowsOf_X1_solve : GoodIn wsX3_solveRowsOf wsX1_solve := goodIn_r _ [51, 10, 11, 52, 53, 54, 55, 56, 57, 8, 58, 34, 30, 29, 59, 32, 27, 60, 61, 62, 63, 39, 64, 41, 42, 43, 12, 13, 14, 15, 16, 17, 18, 19, 20, 21, 22, 23, 24, 25, 26, 28, 31, 33, 35, 36, 37, 38, 40, 44, 45, 46, 47, 81, 82, 83, 84, 85, 86, 87, 88, 89, 90, 91, 92, 93, 94, 95, 96, 97, 98, 99, 100, 101, 102, 103, 104, 105, 106, 107, 108, 109, 110, 111, 112, 113, 114, 115, 116, 117] (by decide +kernel) (by decide +kernel)
set_option maxRecDepth 20000 in
theorem gX3_solveRowsOf_X1_solve : GoodIn wsX3_solveRowsOf (wsV RX3 379 RX1 yX1_solve wsX1_solve) := goodIn_app (goodIn_of _ (by decide +kernel)) ggX3_solveRowsOf_X1_solve
theorem dX3_solveRowsOf_0 : decode cX3_solveRowsOf 0 = .ok (.aload_n 0, 1) := by decide +kernel
theorem dX3_solveRowsOf_1 : decode cX3_solveRowsOf 1 = .ok (.getfield 69, 3) := by decide +kernel
theorem dX3_solveRowsOf_4 : decode cX3_solveRowsOf 4 = .ok (.iload_n 1, 1) := by decide +kernel
theorem dX3_solveRowsOf_5 : decode cX3_solveRowsOf 5 = .ok (.aaload, 1) := by decide +kernel
theorem dX3_solveRowsOf_6 : decode cX3_solveRowsOf 6 = .ok (.astore_n 2, 1) := by decide +kernel
theorem dX3_solveRowsOf_7 : decode cX3_solveRowsOf 7 = .ok (.aload_n 2, 1) := by decide +kernel
theorem dX3_solveRowsOf_8 : decode cX3_solveRowsOf 8 = .ok (.ifnull 19, 3) := by decide +kernel
theorem dX3_solveRowsOf_11 : decode cX3_solveRowsOf 11 = .ok (.aload_n 2, 1) := by decide +kernel
theorem dX3_solveRowsOf_12 : decode cX3_solveRowsOf 12 = .ok (.aload_n 0, 1) := by decide +kernel
theorem dX3_solveRowsOf_13 : decode cX3_solveRowsOf 13 = .ok (.getfield 39, 3) := by decide +kernel
theorem dX3_solveRowsOf_16 : decode cX3_solveRowsOf 16 = .ok (.invokevirtual 375, 3) := by decide +kernel
theorem dX3_solveRowsOf_19 : decode cX3_solveRowsOf 19 = .ok (.aload_n 2, 1) := by decide +kernel
theorem dX3_solveRowsOf_20 : decode cX3_solveRowsOf 20 = .ok (.getfield 372, 3) := by decide +kernel
theorem dX3_solveRowsOf_23 : decode cX3_solveRowsOf 23 = .ok (.astore_n 2, 1) := by decide +kernel
theorem dX3_solveRowsOf_24 : decode cX3_solveRowsOf 24 = .ok (.goto (-17), 3) := by decide +kernel
theorem dX3_solveRowsOf_27 : decode cX3_solveRowsOf 27 = .ok (.iconst 0, 1) := by decide +kernel
theorem dX3_solveRowsOf_28 : decode cX3_solveRowsOf 28 = .ok (.istore_n 2, 1) := by decide +kernel
theorem dX3_solveRowsOf_29 : decode cX3_solveRowsOf 29 = .ok (.iload_n 2, 1) := by decide +kernel
theorem dX3_solveRowsOf_30 : decode cX3_solveRowsOf 30 = .ok (.aload_n 0, 1) := by decide +kernel
theorem dX3_solveRowsOf_31 : decode cX3_solveRowsOf 31 = .ok (.getfield 35, 3) := by decide +kernel
theorem dX3_solveRowsOf_34 : decode cX3_solveRowsOf 34 = .ok (.if_icmp .ge 32, 3) := by decide +kernel
theorem dX3_solveRowsOf_37 : decode cX3_solveRowsOf 37 = .ok (.aload_n 0, 1) := by decide +kernel
theorem dX3_solveRowsOf_38 : decode cX3_solveRowsOf 38 = .ok (.getfield 69, 3) := by decide +kernel
theorem dX3_solveRowsOf_41 : decode cX3_solveRowsOf 41 = .ok (.iload_n 1, 1) := by decide +kernel
theorem dX3_solveRowsOf_42 : decode cX3_solveRowsOf 42 = .ok (.aaload, 1) := by decide +kernel
theorem dX3_solveRowsOf_43 : decode cX3_solveRowsOf 43 = .ok (.astore_n 3, 1) := by decide +kernel
theorem dX3_solveRowsOf_44 : decode cX3_solveRowsOf 44 = .ok (.aload_n 3, 1) := by decide +kernel
theorem dX3_solveRowsOf_45 : decode cX3_solveRowsOf 45 = .ok (.ifnull 15, 3) := by decide +kernel
theorem dX3_solveRowsOf_48 : decode cX3_solveRowsOf 48 = .ok (.aload_n 3, 1) := by decide +kernel
theorem dX3_solveRowsOf_49 : decode cX3_solveRowsOf 49 = .ok (.invokevirtual 379, 3) := by decide +kernel
theorem dX3_solveRowsOf_52 : decode cX3_solveRowsOf 52 = .ok (.aload_n 3, 1) := by decide +kernel
theorem dX3_solveRowsOf_53 : decode cX3_solveRowsOf 53 = .ok (.getfield 372, 3) := by decide +kernel
theorem dX3_solveRowsOf_56 : decode cX3_solveRowsOf 56 = .ok (.astore_n 3, 1) := by decide +kernel
theorem dX3_solveRowsOf_57 : decode cX3_solveRowsOf 57 = .ok (.goto (-13), 3) := by decide +kernel
theorem dX3_solveRowsOf_60 : decode cX3_solveRowsOf 60 = .ok (.iinc 2 1, 3) := by decide +kernel
theorem dX3_solveRowsOf_63 : decode cX3_solveRowsOf 63 = .ok (.goto (-34), 3) := by decide +kernel
theorem dX3_solveRowsOf_66 : decode cX3_solveRowsOf 66 = .ok (.return_, 1) := by decide +kernel
set_option maxRecDepth 20000 in
theorem ggX3_settleBodies_Jx4a65c_size_8abf5 : GoodIn wsX3_settleBodies wsJx4a65c_size_8abf5 := goodIn_r _ [9, 10, 98, 99, 100] (by decide +kernel) (by decide +kernel)
set_option maxRecDepth 20000 in
theorem gX3_settleBodies_Jx4a65c_size_8abf5 : GoodIn wsX3_settleBodies (wsV RX3 85 RJx4a65c yJx4a65c_size_8abf5 wsJx4a65c_size_8abf5) := goodIn_app (goodIn_of _ (by decide +kernel)) ggX3_settleBodies_Jx4a65c_size_8abf5
set_option maxRecDepth 20000 in
theorem ggX3_settleBodies_Jx4a65c_get_915e3 : GoodIn wsX3_settleBodies wsJx4a65c_get_915e3 := goodIn_r _ [14, 10, 15, 16, 17, 18, 19, 20, 21, 22, 23, 24, 25, 8, 26, 27, 98, 99, 100] (by decide +kernel) (by decide +kernel)
set_option maxRecDepth 20000 in
theorem gX3_settleBodies_Jx4a65c_get_915e3 : GoodIn wsX3_settleBodies (wsV RX3 152 RJx4a65c yJx4a65c_get_915e3 wsJx4a65c_get_915e3) := goodIn_app (goodIn_of _ (by decide +kernel)) ggX3_settleBodies_Jx4a65c_get_915e3
set_option maxRecDepth 20000 in
theorem ggX3_settleBodies_X3_workerOn : GoodIn wsX3_settleBodies wsX3_workerOn := goodIn_r _ [32, 33, 34, 35, 36, 31, 37, 38, 66, 67, 68, 69, 70, 71, 72, 73, 74, 75, 76, 77, 78, 79, 80, 81] (by decide +kernel) (by decide +kernel)
set_option maxRecDepth 20000 in
theorem gX3_settleBodies_X3_workerOn : GoodIn wsX3_settleBodies (wsV RX3 366 RX3 yX3_workerOn wsX3_workerOn) := goodIn_app (goodIn_of _ (by decide +kernel)) ggX3_settleBodies_X3_workerOn
set_option maxRecDepth 20000 in
theorem ggX3_settleBodies_X0_settle : GoodIn wsX3_settleBodies wsX0_settle := goodIn_r _ [43, 44, 45, 46, 47, 48, 49, 50, 51, 52, 53, 54, 55, 56, 31, 57, 58, 59, 60, 42, 61, 62, 63, 64, 65, 82, 83, 84, 85, 86, 87, 88, 89, 90, 91, 92, 93, 94, 95, 96, 97, 101, 102, 103] (by decide +kernel) (by decide +kernel)
set_option maxRecDepth 20000 in
theorem gX3_settleBodies_X0_settle : GoodIn wsX3_settleBodies (wsV RX3 382 RX0 yX0_settle wsX0_settle) := goodIn_app (goodIn_of _ (by decide +kernel)) ggX3_settleBodies_X0_settle
theorem dX3_settleBodies_0 : decode cX3_settleBodies 0 = .ok (.iconst 0, 1) := by decide +kernel
theorem dX3_settleBodies_1 : decode cX3_settleBodies 1 = .ok (.istore_n 1, 1) := by decide +kernel
theorem dX3_settleBodies_2 : decode cX3_settleBodies 2 = .ok (.iload_n 1, 1) := by decide +kernel
theorem dX3_settleBodies_3 : decode cX3_settleBodies 3 = .ok (.aload_n 0, 1) := by decide +kernel
theorem dX3_settleBodies_4 : decode cX3_settleBodies 4 = .ok (.getfield 10, 3) := by decide +kernel
theorem dX3_settleBodies_7 : decode cX3_settleBodies 7 = .ok (.invokevirtual 85, 3) := by decide +kernel
theorem dX3_settleBodies_10 : decode cX3_settleBodies 10 = .ok (.if_icmp .ge 41, 3) := by decide +kernel
theorem dX3_settleBodies_13 : decode cX3_settleBodies 13 = .ok (.aload_n 0, 1) := by decide +kernel
theorem dX3_settleBodies_14 : decode cX3_settleBodies 14 = .ok (.getfield 10, 3) := by decide +kernel
theorem dX3_settleBodies_17 : decode cX3_settleBodies 17 = .ok (.iload_n 1, 1) := by decide +kernel
theorem dX3_settleBodies_18 : decode cX3_settleBodies 18 = .ok (.invokevirtual 152, 3) := by decide +kernel
theorem dX3_settleBodies_21 : decode cX3_settleBodies 21 = .ok (.checkcast 94, 3) := by decide +kernel
theorem dX3_settleBodies_24 : decode cX3_settleBodies 24 = .ok (.astore_n 2, 1) := by decide +kernel
theorem dX3_settleBodies_25 : decode cX3_settleBodies 25 = .ok (.aload_n 0, 1) := by decide +kernel
theorem dX3_settleBodies_26 : decode cX3_settleBodies 26 = .ok (.aload_n 2, 1) := by decide +kernel
theorem dX3_settleBodies_27 : decode cX3_settleBodies 27 = .ok (.getfield 270, 3) := by decide +kernel
theorem dX3_settleBodies_30 : decode cX3_settleBodies 30 = .ok (.invokevirtual 366, 3) := by decide +kernel
theorem dX3_settleBodies_33 : decode cX3_settleBodies 33 = .ok (.iconst (-1), 1) := by decide +kernel
theorem dX3_settleBodies_34 : decode cX3_settleBodies 34 = .ok (.if_icmp .eq 11, 3) := by decide +kernel
theorem dX3_settleBodies_37 : decode cX3_settleBodies 37 = .ok (.aload_n 2, 1) := by decide +kernel
theorem dX3_settleBodies_38 : decode cX3_settleBodies 38 = .ok (.aload_n 0, 1) := by decide +kernel
theorem dX3_settleBodies_39 : decode cX3_settleBodies 39 = .ok (.getfield 44, 3) := by decide +kernel
theorem dX3_settleBodies_42 : decode cX3_settleBodies 42 = .ok (.invokevirtual 382, 3) := by decide +kernel
theorem dX3_settleBodies_45 : decode cX3_settleBodies 45 = .ok (.iinc 1 1, 3) := by decide +kernel
theorem dX3_settleBodies_48 : decode cX3_settleBodies 48 = .ok (.goto (-46), 3) := by decide +kernel
theorem dX3_settleBodies_51 : decode cX3_settleBodies 51 = .ok (.return_, 1) := by decide +kernel
set_option maxRecDepth 20000 in
theorem ggX3_markRestless_Jx4a65c_size_8abf5 : GoodIn wsX3_markRestless wsJx4a65c_size_8abf5 := goodIn_r _ [13, 14, 69, 70, 71] (by decide +kernel) (by decide +kernel)
set_option maxRecDepth 20000 in
theorem gX3_markRestless_Jx4a65c_size_8abf5 : GoodIn wsX3_markRestless (wsV RX3 85 RJx4a65c yJx4a65c_size_8abf5 wsJx4a65c_size_8abf5) := goodIn_app (goodIn_of _ (by decide +kernel)) ggX3_markRestless_Jx4a65c_size_8abf5
set_option maxRecDepth 20000 in
theorem ggX3_markRestless_Jx4a65c_get_915e3 : GoodIn wsX3_markRestless wsJx4a65c_get_915e3 := goodIn_r _ [18, 14, 19, 20, 21, 22, 23, 24, 25, 26, 27, 28, 29, 12, 30, 31, 69, 70, 71] (by decide +kernel) (by decide +kernel)
set_option maxRecDepth 20000 in
theorem gX3_markRestless_Jx4a65c_get_915e3 : GoodIn wsX3_markRestless (wsV RX3 152 RJx4a65c yJx4a65c_get_915e3 wsJx4a65c_get_915e3) := goodIn_app (goodIn_of _ (by decide +kernel)) ggX3_markRestless_Jx4a65c_get_915e3
set_option maxRecDepth 20000 in
theorem ggX3_markRestless_X3_isIsland : GoodIn wsX3_markRestless wsX3_isIsland := goodIn_r _ [36, 1, 37, 38, 39, 40, 41, 42, 43, 44, 45, 46, 47, 48, 49, 50, 51, 52] (by decide +kernel) (by decide +kernel)
set_option maxRecDepth 20000 in
theorem gX3_markRestless_X3_isIsland : GoodIn wsX3_markRestless (wsV RX3 338 RX3 yX3_isIsland wsX3_isIsland) := goodIn_app (goodIn_of _ (by decide +kernel)) ggX3_markRestless_X3_isIsland
theorem dX3_markRestless_0 : decode cX3_markRestless 0 = .ok (.iconst 0, 1) := by decide +kernel
theorem dX3_markRestless_1 : decode cX3_markRestless 1 = .ok (.istore_n 1, 1) := by decide +kernel
theorem dX3_markRestless_2 : decode cX3_markRestless 2 = .ok (.iload_n 1, 1) := by decide +kernel
theorem dX3_markRestless_3 : decode cX3_markRestless 3 = .ok (.aload_n 0, 1) := by decide +kernel
theorem dX3_markRestless_4 : decode cX3_markRestless 4 = .ok (.getfield 56, 3) := by decide +kernel
theorem dX3_markRestless_7 : decode cX3_markRestless 7 = .ok (.if_icmp .ge 30, 3) := by decide +kernel
theorem dX3_markRestless_10 : decode cX3_markRestless 10 = .ok (.aload_n 0, 1) := by decide +kernel
theorem dX3_markRestless_11 : decode cX3_markRestless 11 = .ok (.getfield 63, 3) := by decide +kernel
theorem dX3_markRestless_14 : decode cX3_markRestless 14 = .ok (.iload_n 1, 1) := by decide +kernel
theorem dX3_markRestless_15 : decode cX3_markRestless 15 = .ok (.aload_n 0, 1) := by decide +kernel
theorem dX3_markRestless_16 : decode cX3_markRestless 16 = .ok (.getfield 59, 3) := by decide +kernel
theorem dX3_markRestless_19 : decode cX3_markRestless 19 = .ok (.iload_n 1, 1) := by decide +kernel
theorem dX3_markRestless_20 : decode cX3_markRestless 20 = .ok (.iaload, 1) := by decide +kernel
theorem dX3_markRestless_21 : decode cX3_markRestless 21 = .ok (.iconst (-1), 1) := by decide +kernel
theorem dX3_markRestless_22 : decode cX3_markRestless 22 = .ok (.if_icmp .ne 7, 3) := by decide +kernel
theorem dX3_markRestless_25 : decode cX3_markRestless 25 = .ok (.iconst 1, 1) := by decide +kernel
theorem dX3_markRestless_26 : decode cX3_markRestless 26 = .ok (.goto 4, 3) := by decide +kernel
theorem dX3_markRestless_29 : decode cX3_markRestless 29 = .ok (.iconst 0, 1) := by decide +kernel
theorem dX3_markRestless_30 : decode cX3_markRestless 30 = .ok (.bastore, 1) := by decide +kernel
theorem dX3_markRestless_31 : decode cX3_markRestless 31 = .ok (.iinc 1 1, 3) := by decide +kernel
theorem dX3_markRestless_34 : decode cX3_markRestless 34 = .ok (.goto (-32), 3) := by decide +kernel
theorem dX3_markRestless_37 : decode cX3_markRestless 37 = .ok (.iconst 0, 1) := by decide +kernel
theorem dX3_markRestless_38 : decode cX3_markRestless 38 = .ok (.istore_n 1, 1) := by decide +kernel
theorem dX3_markRestless_39 : decode cX3_markRestless 39 = .ok (.iload_n 1, 1) := by decide +kernel
theorem dX3_markRestless_40 : decode cX3_markRestless 40 = .ok (.aload_n 0, 1) := by decide +kernel
theorem dX3_markRestless_41 : decode cX3_markRestless 41 = .ok (.getfield 10, 3) := by decide +kernel
theorem dX3_markRestless_44 : decode cX3_markRestless 44 = .ok (.invokevirtual 85, 3) := by decide +kernel
theorem dX3_markRestless_47 : decode cX3_markRestless 47 = .ok (.if_icmp .ge 53, 3) := by decide +kernel
theorem dX3_markRestless_50 : decode cX3_markRestless 50 = .ok (.aload_n 0, 1) := by decide +kernel
theorem dX3_markRestless_51 : decode cX3_markRestless 51 = .ok (.getfield 10, 3) := by decide +kernel
theorem dX3_markRestless_54 : decode cX3_markRestless 54 = .ok (.iload_n 1, 1) := by decide +kernel
theorem dX3_markRestless_55 : decode cX3_markRestless 55 = .ok (.invokevirtual 152, 3) := by decide +kernel
theorem dX3_markRestless_58 : decode cX3_markRestless 58 = .ok (.checkcast 94, 3) := by decide +kernel
theorem dX3_markRestless_61 : decode cX3_markRestless 61 = .ok (.astore_n 2, 1) := by decide +kernel
theorem dX3_markRestless_62 : decode cX3_markRestless 62 = .ok (.aload_n 0, 1) := by decide +kernel
theorem dX3_markRestless_63 : decode cX3_markRestless 63 = .ok (.aload_n 2, 1) := by decide +kernel
theorem dX3_markRestless_64 : decode cX3_markRestless 64 = .ok (.getfield 270, 3) := by decide +kernel
theorem dX3_markRestless_67 : decode cX3_markRestless 67 = .ok (.invokevirtual 338, 3) := by decide +kernel
theorem dX3_markRestless_70 : decode cX3_markRestless 70 = .ok (.ifCond .eq 24, 3) := by decide +kernel
theorem dX3_markRestless_73 : decode cX3_markRestless 73 = .ok (.aload_n 2, 1) := by decide +kernel
theorem dX3_markRestless_74 : decode cX3_markRestless 74 = .ok (.getfield 273, 3) := by decide +kernel
theorem dX3_markRestless_77 : decode cX3_markRestless 77 = .ok (.aload_n 0, 1) := by decide +kernel
theorem dX3_markRestless_78 : decode cX3_markRestless 78 = .ok (.getfield 47, 3) := by decide +kernel
theorem dX3_markRestless_81 : decode cX3_markRestless 81 = .ok (.if_icmp .ge 13, 3) := by decide +kernel
theorem dX3_markRestless_84 : decode cX3_markRestless 84 = .ok (.aload_n 0, 1) := by decide +kernel
theorem dX3_markRestless_85 : decode cX3_markRestless 85 = .ok (.getfield 63, 3) := by decide +kernel
theorem dX3_markRestless_88 : decode cX3_markRestless 88 = .ok (.aload_n 2, 1) := by decide +kernel
theorem dX3_markRestless_89 : decode cX3_markRestless 89 = .ok (.getfield 270, 3) := by decide +kernel
theorem dX3_markRestless_92 : decode cX3_markRestless 92 = .ok (.iconst 1, 1) := by decide +kernel
theorem dX3_markRestless_93 : decode cX3_markRestless 93 = .ok (.bastore, 1) := by decide +kernel
theorem dX3_markRestless_94 : decode cX3_markRestless 94 = .ok (.iinc 1 1, 3) := by decide +kernel
theorem dX3_markRestless_97 : decode cX3_markRestless 97 = .ok (.goto (-58), 3) := by decide +kernel
theorem dX3_markRestless_100 : decode cX3_markRestless 100 = .ok (.return_, 1) := by decide +kernel
set_option maxRecDepth 20000 in
theorem ggX3_layToSleep_Jx4a65c_size_8abf5 : GoodIn wsX3_layToSleep wsJx4a65c_size_8abf5 := goodIn_r _ [9, 10, 82, 83, 84] (by decide +kernel) (by decide +kernel)
set_option maxRecDepth 20000 in
theorem gX3_layToSleep_Jx4a65c_size_8abf5 : GoodIn wsX3_layToSleep (wsV RX3 85 RJx4a65c yJx4a65c_size_8abf5 wsJx4a65c_size_8abf5) := goodIn_app (goodIn_of _ (by decide +kernel)) ggX3_layToSleep_Jx4a65c_size_8abf5
set_option maxRecDepth 20000 in
theorem ggX3_layToSleep_Jx4a65c_get_915e3 : GoodIn wsX3_layToSleep wsJx4a65c_get_915e3 := goodIn_r _ [14, 10, 15, 16, 17, 18, 19, 20, 21, 22, 23, 24, 25, 8, 26, 27, 82, 83, 84] (by decide +kernel) (by decide +kernel)
set_option maxRecDepth 20000 in
theorem gX3_layToSleep_Jx4a65c_get_915e3 : GoodIn wsX3_layToSleep (wsV RX3 152 RJx4a65c yJx4a65c_get_915e3 wsJx4a65c_get_915e3) := goodIn_app (goodIn_of _ (by decide +kernel)) ggX3_layToSleep_Jx4a65c_get_915e3
set_option maxRecDepth 20000 in
theorem ggX3_layToSleep_X3_isIsland : GoodIn wsX3_layToSleep wsX3_isIsland := goodIn_r _ [32, 33, 50, 51, 52, 53, 54, 55, 56, 57, 58, 59, 60, 61, 62, 63, 64, 65] (by decide +kernel) (by decide +kernel)
set_option maxRecDepth 20000 in
theorem gX3_layToSleep_X3_isIsland : GoodIn wsX3_layToSleep (wsV RX3 338 RX3 yX3_isIsland wsX3_isIsland) := goodIn_app (goodIn_of _ (by decide +kernel)) ggX3_layToSleep_X3_isIsland
set_option maxRecDepth 20000 in
theorem ggX3_layToSleep_X0_fallAsleep : GoodIn wsX3_layToSleep wsX0_fallAsleep := goodIn_r _ [38, 39, 40, 41, 42, 43, 44, 45, 46, 47, 48, 49, 66, 67, 68, 69, 70, 71, 72, 73, 74, 75, 76, 77, 78, 79, 80, 81, 85, 86, 87] (by decide +kernel) (by decide +kernel)
set_option maxRecDepth 20000 in
theorem gX3_layToSleep_X0_fallAsleep : GoodIn wsX3_layToSleep (wsV RX3 385 RX0 yX0_fallAsleep wsX0_fallAsleep) := goodIn_app (goodIn_of _ (by decide +kernel)) ggX3_layToSleep_X0_fallAsleep
theorem dX3_layToSleep_0 : decode cX3_layToSleep 0 = .ok (.iconst 0, 1) := by decide +kernel
theorem dX3_layToSleep_1 : decode cX3_layToSleep 1 = .ok (.istore_n 1, 1) := by decide +kernel
theorem dX3_layToSleep_2 : decode cX3_layToSleep 2 = .ok (.iload_n 1, 1) := by decide +kernel
theorem dX3_layToSleep_3 : decode cX3_layToSleep 3 = .ok (.aload_n 0, 1) := by decide +kernel
theorem dX3_layToSleep_4 : decode cX3_layToSleep 4 = .ok (.getfield 10, 3) := by decide +kernel
theorem dX3_layToSleep_7 : decode cX3_layToSleep 7 = .ok (.invokevirtual 85, 3) := by decide +kernel
theorem dX3_layToSleep_10 : decode cX3_layToSleep 10 = .ok (.if_icmp .ge 48, 3) := by decide +kernel
theorem dX3_layToSleep_13 : decode cX3_layToSleep 13 = .ok (.aload_n 0, 1) := by decide +kernel
theorem dX3_layToSleep_14 : decode cX3_layToSleep 14 = .ok (.getfield 10, 3) := by decide +kernel
theorem dX3_layToSleep_17 : decode cX3_layToSleep 17 = .ok (.iload_n 1, 1) := by decide +kernel
theorem dX3_layToSleep_18 : decode cX3_layToSleep 18 = .ok (.invokevirtual 152, 3) := by decide +kernel
theorem dX3_layToSleep_21 : decode cX3_layToSleep 21 = .ok (.checkcast 94, 3) := by decide +kernel
theorem dX3_layToSleep_24 : decode cX3_layToSleep 24 = .ok (.astore_n 2, 1) := by decide +kernel
theorem dX3_layToSleep_25 : decode cX3_layToSleep 25 = .ok (.aload_n 0, 1) := by decide +kernel
theorem dX3_layToSleep_26 : decode cX3_layToSleep 26 = .ok (.aload_n 2, 1) := by decide +kernel
theorem dX3_layToSleep_27 : decode cX3_layToSleep 27 = .ok (.getfield 270, 3) := by decide +kernel
theorem dX3_layToSleep_30 : decode cX3_layToSleep 30 = .ok (.invokevirtual 338, 3) := by decide +kernel
theorem dX3_layToSleep_33 : decode cX3_layToSleep 33 = .ok (.ifCond .eq 19, 3) := by decide +kernel
theorem dX3_layToSleep_36 : decode cX3_layToSleep 36 = .ok (.aload_n 0, 1) := by decide +kernel
theorem dX3_layToSleep_37 : decode cX3_layToSleep 37 = .ok (.getfield 63, 3) := by decide +kernel
theorem dX3_layToSleep_40 : decode cX3_layToSleep 40 = .ok (.aload_n 2, 1) := by decide +kernel
theorem dX3_layToSleep_41 : decode cX3_layToSleep 41 = .ok (.getfield 270, 3) := by decide +kernel
theorem dX3_layToSleep_44 : decode cX3_layToSleep 44 = .ok (.baload, 1) := by decide +kernel
theorem dX3_layToSleep_45 : decode cX3_layToSleep 45 = .ok (.ifCond .ne 7, 3) := by decide +kernel
theorem dX3_layToSleep_48 : decode cX3_layToSleep 48 = .ok (.aload_n 2, 1) := by decide +kernel
theorem dX3_layToSleep_49 : decode cX3_layToSleep 49 = .ok (.invokevirtual 385, 3) := by decide +kernel
theorem dX3_layToSleep_52 : decode cX3_layToSleep 52 = .ok (.iinc 1 1, 3) := by decide +kernel
theorem dX3_layToSleep_55 : decode cX3_layToSleep 55 = .ok (.goto (-53), 3) := by decide +kernel
theorem dX3_layToSleep_58 : decode cX3_layToSleep 58 = .ok (.return_, 1) := by decide +kernel
theorem dX4_init_0 : decode cX4_init 0 = .ok (.aload_n 0, 1) := by decide +kernel
theorem dX4_init_1 : decode cX4_init 1 = .ok (.invokespecial 1, 3) := by decide +kernel
theorem dX4_init_4 : decode cX4_init 4 = .ok (.aload_n 0, 1) := by decide +kernel
theorem dX4_init_5 : decode cX4_init 5 = .ok (.sipush 3328, 3) := by decide +kernel
theorem dX4_init_8 : decode cX4_init 8 = .ok (.newarray .float, 2) := by decide +kernel
theorem dX4_init_10 : decode cX4_init 10 = .ok (.putfield 7, 3) := by decide +kernel
theorem dX4_init_13 : decode cX4_init 13 = .ok (.aload_n 0, 1) := by decide +kernel
theorem dX4_init_14 : decode cX4_init 14 = .ok (.sipush 256, 3) := by decide +kernel
theorem dX4_init_17 : decode cX4_init 17 = .ok (.newarray .boolean, 2) := by decide +kernel
theorem dX4_init_19 : decode cX4_init 19 = .ok (.putfield 13, 3) := by decide +kernel
theorem dX4_init_22 : decode cX4_init 22 = .ok (.aload_n 0, 1) := by decide +kernel
theorem dX4_init_23 : decode cX4_init 23 = .ok (.sipush 256, 3) := by decide +kernel
theorem dX4_init_26 : decode cX4_init 26 = .ok (.newarray .int, 2) := by decide +kernel
theorem dX4_init_28 : decode cX4_init 28 = .ok (.putfield 17, 3) := by decide +kernel
theorem dX4_init_31 : decode cX4_init 31 = .ok (.aload_n 0, 1) := by decide +kernel
theorem dX4_init_32 : decode cX4_init 32 = .ok (.bipush 9, 2) := by decide +kernel
theorem dX4_init_34 : decode cX4_init 34 = .ok (.newarray .float, 2) := by decide +kernel
theorem dX4_init_36 : decode cX4_init 36 = .ok (.putfield 21, 3) := by decide +kernel
theorem dX4_init_39 : decode cX4_init 39 = .ok (.aload_n 0, 1) := by decide +kernel
theorem dX4_init_40 : decode cX4_init 40 = .ok (.sipush 1024, 3) := by decide +kernel
theorem dX4_init_43 : decode cX4_init 43 = .ok (.newarray .int, 2) := by decide +kernel
theorem dX4_init_45 : decode cX4_init 45 = .ok (.putfield 24, 3) := by decide +kernel
theorem dX4_init_48 : decode cX4_init 48 = .ok (.aload_n 0, 1) := by decide +kernel
theorem dX4_init_49 : decode cX4_init 49 = .ok (.sipush 1024, 3) := by decide +kernel
theorem dX4_init_52 : decode cX4_init 52 = .ok (.newarray .int, 2) := by decide +kernel
theorem dX4_init_54 : decode cX4_init 54 = .ok (.putfield 27, 3) := by decide +kernel
theorem dX4_init_57 : decode cX4_init 57 = .ok (.aload_n 0, 1) := by decide +kernel
theorem dX4_init_58 : decode cX4_init 58 = .ok (.sipush 9216, 3) := by decide +kernel
theorem dX4_init_61 : decode cX4_init 61 = .ok (.newarray .float, 2) := by decide +kernel
theorem dX4_init_63 : decode cX4_init 63 = .ok (.putfield 30, 3) := by decide +kernel
theorem dX4_init_66 : decode cX4_init 66 = .ok (.aload_n 0, 1) := by decide +kernel
theorem dX4_init_67 : decode cX4_init 67 = .ok (.sipush 1024, 3) := by decide +kernel
theorem dX4_init_70 : decode cX4_init 70 = .ok (.newarray .float, 2) := by decide +kernel
theorem dX4_init_72 : decode cX4_init 72 = .ok (.putfield 33, 3) := by decide +kernel
theorem dX4_init_75 : decode cX4_init 75 = .ok (.aload_n 0, 1) := by decide +kernel
theorem dX4_init_76 : decode cX4_init 76 = .ok (.sipush 1024, 3) := by decide +kernel
theorem dX4_init_79 : decode cX4_init 79 = .ok (.newarray .float, 2) := by decide +kernel
theorem dX4_init_81 : decode cX4_init 81 = .ok (.putfield 36, 3) := by decide +kernel
theorem dX4_init_84 : decode cX4_init 84 = .ok (.aload_n 0, 1) := by decide +kernel
theorem dX4_init_85 : decode cX4_init 85 = .ok (.sipush 1024, 3) := by decide +kernel
theorem dX4_init_88 : decode cX4_init 88 = .ok (.newarray .float, 2) := by decide +kernel
theorem dX4_init_90 : decode cX4_init 90 = .ok (.putfield 39, 3) := by decide +kernel
theorem dX4_init_93 : decode cX4_init 93 = .ok (.aload_n 0, 1) := by decide +kernel
theorem dX4_init_94 : decode cX4_init 94 = .ok (.sipush 1024, 3) := by decide +kernel
theorem dX4_init_97 : decode cX4_init 97 = .ok (.newarray .float, 2) := by decide +kernel
theorem dX4_init_99 : decode cX4_init 99 = .ok (.putfield 42, 3) := by decide +kernel
theorem dX4_init_102 : decode cX4_init 102 = .ok (.aload_n 0, 1) := by decide +kernel
theorem dX4_init_103 : decode cX4_init 103 = .ok (.sipush 1024, 3) := by decide +kernel
theorem dX4_init_106 : decode cX4_init 106 = .ok (.newarray .float, 2) := by decide +kernel
theorem dX4_init_108 : decode cX4_init 108 = .ok (.putfield 45, 3) := by decide +kernel
theorem dX4_init_111 : decode cX4_init 111 = .ok (.aload_n 0, 1) := by decide +kernel
theorem dX4_init_112 : decode cX4_init 112 = .ok (.sipush 1024, 3) := by decide +kernel
theorem dX4_init_115 : decode cX4_init 115 = .ok (.newarray .int, 2) := by decide +kernel
theorem dX4_init_117 : decode cX4_init 117 = .ok (.putfield 48, 3) := by decide +kernel
theorem dX4_init_120 : decode cX4_init 120 = .ok (.aload_n 0, 1) := by decide +kernel
theorem dX4_init_121 : decode cX4_init 121 = .ok (.sipush 1024, 3) := by decide +kernel
theorem dX4_init_124 : decode cX4_init 124 = .ok (.newarray .int, 2) := by decide +kernel
theorem dX4_init_126 : decode cX4_init 126 = .ok (.putfield 51, 3) := by decide +kernel
theorem dX4_init_129 : decode cX4_init 129 = .ok (.aload_n 0, 1) := by decide +kernel
theorem dX4_init_130 : decode cX4_init 130 = .ok (.sipush 1024, 3) := by decide +kernel
theorem dX4_init_133 : decode cX4_init 133 = .ok (.newarray .float, 2) := by decide +kernel
theorem dX4_init_135 : decode cX4_init 135 = .ok (.putfield 54, 3) := by decide +kernel
theorem dX4_init_138 : decode cX4_init 138 = .ok (.aload_n 0, 1) := by decide +kernel
theorem dX4_init_139 : decode cX4_init 139 = .ok (.sipush 1024, 3) := by decide +kernel
theorem dX4_init_142 : decode cX4_init 142 = .ok (.newarray .float, 2) := by decide +kernel
theorem dX4_init_144 : decode cX4_init 144 = .ok (.putfield 57, 3) := by decide +kernel
theorem dX4_init_147 : decode cX4_init 147 = .ok (.aload_n 0, 1) := by decide +kernel
theorem dX4_init_148 : decode cX4_init 148 = .ok (.sipush 1024, 3) := by decide +kernel
theorem dX4_init_151 : decode cX4_init 151 = .ok (.newarray .int, 2) := by decide +kernel
theorem dX4_init_153 : decode cX4_init 153 = .ok (.putfield 60, 3) := by decide +kernel
theorem dX4_init_156 : decode cX4_init 156 = .ok (.aload_n 0, 1) := by decide +kernel
theorem dX4_init_157 : decode cX4_init 157 = .ok (.sipush 1024, 3) := by decide +kernel
theorem dX4_init_160 : decode cX4_init 160 = .ok (.newarray .float, 2) := by decide +kernel
theorem dX4_init_162 : decode cX4_init 162 = .ok (.putfield 63, 3) := by decide +kernel
theorem dX4_init_165 : decode cX4_init 165 = .ok (.aload_n 0, 1) := by decide +kernel
theorem dX4_init_166 : decode cX4_init 166 = .ok (.bipush 8, 2) := by decide +kernel
theorem dX4_init_168 : decode cX4_init 168 = .ok (.putfield 66, 3) := by decide +kernel
theorem dX4_init_171 : decode cX4_init 171 = .ok (.aload_n 0, 1) := by decide +kernel
theorem dX4_init_172 : decode cX4_init 172 = .ok (.fconst 1, 1) := by decide +kernel
theorem dX4_init_173 : decode cX4_init 173 = .ok (.putfield 70, 3) := by decide +kernel
theorem dX4_init_176 : decode cX4_init 176 = .ok (.aload_n 0, 1) := by decide +kernel
theorem dX4_init_177 : decode cX4_init 177 = .ok (.ldc 74, 2) := by decide +kernel
theorem dX4_init_179 : decode cX4_init 179 = .ok (.putfield 75, 3) := by decide +kernel
theorem dX4_init_182 : decode cX4_init 182 = .ok (.aload_n 0, 1) := by decide +kernel
theorem dX4_init_183 : decode cX4_init 183 = .ok (.iconst 1, 1) := by decide +kernel
theorem dX4_init_184 : decode cX4_init 184 = .ok (.putfield 78, 3) := by decide +kernel
theorem dX4_init_187 : decode cX4_init 187 = .ok (.aload_n 0, 1) := by decide +kernel
theorem dX4_init_188 : decode cX4_init 188 = .ok (.sipush 256, 3) := by decide +kernel
theorem dX4_init_191 : decode cX4_init 191 = .ok (.newarray .int, 2) := by decide +kernel
theorem dX4_init_193 : decode cX4_init 193 = .ok (.putfield 81, 3) := by decide +kernel
theorem dX4_init_196 : decode cX4_init 196 = .ok (.aload_n 0, 1) := by decide +kernel
theorem dX4_init_197 : decode cX4_init 197 = .ok (.sipush 256, 3) := by decide +kernel
theorem dX4_init_200 : decode cX4_init 200 = .ok (.newarray .int, 2) := by decide +kernel
theorem dX4_init_202 : decode cX4_init 202 = .ok (.putfield 84, 3) := by decide +kernel
theorem dX4_init_205 : decode cX4_init 205 = .ok (.aload_n 0, 1) := by decide +kernel
theorem dX4_init_206 : decode cX4_init 206 = .ok (.sipush 256, 3) := by decide +kernel
theorem dX4_init_209 : decode cX4_init 209 = .ok (.newarray .boolean, 2) := by decide +kernel
theorem dX4_init_211 : decode cX4_init 211 = .ok (.putfield 87, 3) := by decide +kernel
theorem dX4_init_214 : decode cX4_init 214 = .ok (.return_, 1) := by decide +kernel
theorem dX4_thrown_0 : decode cX4_thrown 0 = .ok (.aload_n 0, 1) := by decide +kernel
theorem dX4_thrown_1 : decode cX4_thrown 1 = .ok (.getfield 90, 3) := by decide +kernel
theorem dX4_thrown_4 : decode cX4_thrown 4 = .ok (.ireturn, 1) := by decide +kernel
theorem dX4_goes_0 : decode cX4_goes 0 = .ok (.aload_n 0, 1) := by decide +kernel
theorem dX4_goes_1 : decode cX4_goes 1 = .ok (.iload_n 1, 1) := by decide +kernel
theorem dX4_goes_2 : decode cX4_goes 2 = .ok (.ifCond .ne 7, 3) := by decide +kernel
theorem dX4_goes_5 : decode cX4_goes 5 = .ok (.iconst 1, 1) := by decide +kernel
theorem dX4_goes_6 : decode cX4_goes 6 = .ok (.goto 20, 3) := by decide +kernel
theorem dX4_goes_9 : decode cX4_goes 9 = .ok (.iload_n 2, 1) := by decide +kernel
theorem dX4_goes_10 : decode cX4_goes 10 = .ok (.ifCond .ne 7, 3) := by decide +kernel
theorem dX4_goes_13 : decode cX4_goes 13 = .ok (.iconst 2, 1) := by decide +kernel
theorem dX4_goes_14 : decode cX4_goes 14 = .ok (.goto 12, 3) := by decide +kernel
theorem dX4_goes_17 : decode cX4_goes 17 = .ok (.iload_n 3, 1) := by decide +kernel
theorem dX4_goes_18 : decode cX4_goes 18 = .ok (.ifCond .ne 7, 3) := by decide +kernel
theorem dX4_goes_21 : decode cX4_goes 21 = .ok (.iconst 3, 1) := by decide +kernel
theorem dX4_goes_22 : decode cX4_goes 22 = .ok (.goto 4, 3) := by decide +kernel
theorem dX4_goes_25 : decode cX4_goes 25 = .ok (.iconst 0, 1) := by decide +kernel
theorem dX4_goes_26 : decode cX4_goes 26 = .ok (.putfield 90, 3) := by decide +kernel
theorem dX4_goes_29 : decode cX4_goes 29 = .ok (.aload_n 0, 1) := by decide +kernel
theorem dX4_goes_30 : decode cX4_goes 30 = .ok (.getfield 90, 3) := by decide +kernel
theorem dX4_goes_33 : decode cX4_goes 33 = .ok (.ifCond .ne 7, 3) := by decide +kernel
theorem dX4_goes_36 : decode cX4_goes 36 = .ok (.iconst 1, 1) := by decide +kernel
theorem dX4_goes_37 : decode cX4_goes 37 = .ok (.goto 4, 3) := by decide +kernel
theorem dX4_goes_40 : decode cX4_goes 40 = .ok (.iconst 0, 1) := by decide +kernel
theorem dX4_goes_41 : decode cX4_goes 41 = .ok (.ireturn, 1) := by decide +kernel
theorem dX4_within_0 : decode cX4_within 0 = .ok (.fload_n 0, 1) := by decide +kernel
theorem dX4_within_1 : decode cX4_within 1 = .ok (.fload_n 1, 1) := by decide +kernel
theorem dX4_within_2 : decode cX4_within 2 = .ok (.fcmp .l, 1) := by decide +kernel
theorem dX4_within_3 : decode cX4_within 3 = .ok (.ifCond .lt 13, 3) := by decide +kernel
theorem dX4_within_6 : decode cX4_within 6 = .ok (.fload_n 0, 1) := by decide +kernel
theorem dX4_within_7 : decode cX4_within 7 = .ok (.fload_n 2, 1) := by decide +kernel
theorem dX4_within_8 : decode cX4_within 8 = .ok (.fcmp .g, 1) := by decide +kernel
theorem dX4_within_9 : decode cX4_within 9 = .ok (.ifCond .gt 7, 3) := by decide +kernel
theorem dX4_within_12 : decode cX4_within 12 = .ok (.iconst 1, 1) := by decide +kernel
theorem dX4_within_13 : decode cX4_within 13 = .ok (.goto 4, 3) := by decide +kernel
theorem dX4_within_16 : decode cX4_within 16 = .ok (.iconst 0, 1) := by decide +kernel
theorem dX4_within_17 : decode cX4_within 17 = .ok (.ireturn, 1) := by decide +kernel
theorem dX4_known_0 : decode cX4_known 0 = .ok (.iload_n 1, 1) := by decide +kernel
theorem dX4_known_1 : decode cX4_known 1 = .ok (.ifCond .lt 15, 3) := by decide +kernel
theorem dX4_known_4 : decode cX4_known 4 = .ok (.iload_n 1, 1) := by decide +kernel
theorem dX4_known_5 : decode cX4_known 5 = .ok (.aload_n 0, 1) := by decide +kernel
theorem dX4_known_6 : decode cX4_known 6 = .ok (.getfield 93, 3) := by decide +kernel
theorem dX4_known_9 : decode cX4_known 9 = .ok (.if_icmp .ge 7, 3) := by decide +kernel
theorem dX4_known_12 : decode cX4_known 12 = .ok (.iconst 1, 1) := by decide +kernel
theorem dX4_known_13 : decode cX4_known 13 = .ok (.goto 4, 3) := by decide +kernel
theorem dX4_known_16 : decode cX4_known 16 = .ok (.iconst 0, 1) := by decide +kernel
theorem dX4_known_17 : decode cX4_known 17 = .ok (.ireturn, 1) := by decide +kernel
set_option maxRecDepth 20000 in
theorem ggX4_body_X4_within : GoodIn wsX4_body wsX4_within := goodIn_r _ [9] (by decide +kernel) (by decide +kernel)
set_option maxRecDepth 20000 in
theorem gX4_body_X4_within : GoodIn wsX4_body (va_wsS RX4 97 yX4_within wsX4_within) := goodIn_app (goodIn_of _ (by decide +kernel)) ggX4_body_X4_within
set_option maxRecDepth 20000 in
theorem ggX4_body_X4_goes : GoodIn wsX4_body wsX4_goes := goodIn_r _ [13, 14, 15, 16, 17, 18, 19, 20, 21, 22, 23, 24, 25, 26, 27, 28, 29, 30, 31, 32, 33, 34, 35, 36, 37, 38, 39, 40, 41, 42, 43, 44, 45, 46, 47, 48, 49] (by decide +kernel) (by decide +kernel)
set_option maxRecDepth 20000 in
theorem gX4_body_X4_goes : GoodIn wsX4_body (wsV RX4 101 RX4 yX4_goes wsX4_goes) := goodIn_app (goodIn_of _ (by decide +kernel)) ggX4_body_X4_goes
theorem dX4_body_0 : decode cX4_body 0 = .ok (.fload_n 1, 1) := by decide +kernel
theorem dX4_body_1 : decode cX4_body 1 = .ok (.fconst 0, 1) := by decide +kernel
theorem dX4_body_2 : decode cX4_body 2 = .ok (.ldc 96, 2) := by decide +kernel
theorem dX4_body_4 : decode cX4_body 4 = .ok (.invokestatic 97, 3) := by decide +kernel
theorem dX4_body_7 : decode cX4_body 7 = .ok (.ifCond .eq 38, 3) := by decide +kernel
theorem dX4_body_10 : decode cX4_body 10 = .ok (.fload_n 2, 1) := by decide +kernel
theorem dX4_body_11 : decode cX4_body 11 = .ok (.fconst 0, 1) := by decide +kernel
theorem dX4_body_12 : decode cX4_body 12 = .ok (.ldc 96, 2) := by decide +kernel
theorem dX4_body_14 : decode cX4_body 14 = .ok (.invokestatic 97, 3) := by decide +kernel
theorem dX4_body_17 : decode cX4_body 17 = .ok (.ifCond .eq 28, 3) := by decide +kernel
theorem dX4_body_20 : decode cX4_body 20 = .ok (.fload_n 3, 1) := by decide +kernel
theorem dX4_body_21 : decode cX4_body 21 = .ok (.fconst 0, 1) := by decide +kernel
theorem dX4_body_22 : decode cX4_body 22 = .ok (.ldc 96, 2) := by decide +kernel
theorem dX4_body_24 : decode cX4_body 24 = .ok (.invokestatic 97, 3) := by decide +kernel
theorem dX4_body_27 : decode cX4_body 27 = .ok (.ifCond .eq 18, 3) := by decide +kernel
theorem dX4_body_30 : decode cX4_body 30 = .ok (.fload 4, 2) := by decide +kernel
theorem dX4_body_32 : decode cX4_body 32 = .ok (.fconst 0, 1) := by decide +kernel
theorem dX4_body_33 : decode cX4_body 33 = .ok (.ldc 96, 2) := by decide +kernel
theorem dX4_body_35 : decode cX4_body 35 = .ok (.invokestatic 97, 3) := by decide +kernel
theorem dX4_body_38 : decode cX4_body 38 = .ok (.ifCond .eq 7, 3) := by decide +kernel
theorem dX4_body_41 : decode cX4_body 41 = .ok (.iconst 1, 1) := by decide +kernel
theorem dX4_body_42 : decode cX4_body 42 = .ok (.goto 4, 3) := by decide +kernel
theorem dX4_body_45 : decode cX4_body 45 = .ok (.iconst 0, 1) := by decide +kernel
theorem dX4_body_46 : decode cX4_body 46 = .ok (.istore 5, 2) := by decide +kernel
theorem dX4_body_48 : decode cX4_body 48 = .ok (.aload_n 0, 1) := by decide +kernel
theorem dX4_body_49 : decode cX4_body 49 = .ok (.iload 5, 2) := by decide +kernel
theorem dX4_body_51 : decode cX4_body 51 = .ok (.aload_n 0, 1) := by decide +kernel
theorem dX4_body_52 : decode cX4_body 52 = .ok (.getfield 93, 3) := by decide +kernel
theorem dX4_body_55 : decode cX4_body 55 = .ok (.sipush 256, 3) := by decide +kernel
theorem dX4_body_58 : decode cX4_body 58 = .ok (.if_icmp .ge 7, 3) := by decide +kernel
theorem dX4_body_61 : decode cX4_body 61 = .ok (.iconst 1, 1) := by decide +kernel
theorem dX4_body_62 : decode cX4_body 62 = .ok (.goto 4, 3) := by decide +kernel
theorem dX4_body_65 : decode cX4_body 65 = .ok (.iconst 0, 1) := by decide +kernel
theorem dX4_body_66 : decode cX4_body 66 = .ok (.iconst 1, 1) := by decide +kernel
theorem dX4_body_67 : decode cX4_body 67 = .ok (.invokevirtual 101, 3) := by decide +kernel
theorem dX4_body_70 : decode cX4_body 70 = .ok (.ifCond .ne 5, 3) := by decide +kernel
theorem dX4_body_73 : decode cX4_body 73 = .ok (.iconst 0, 1) := by decide +kernel
theorem dX4_body_74 : decode cX4_body 74 = .ok (.ireturn, 1) := by decide +kernel
theorem dX4_body_75 : decode cX4_body 75 = .ok (.bipush 13, 2) := by decide +kernel
theorem dX4_body_77 : decode cX4_body 77 = .ok (.aload_n 0, 1) := by decide +kernel
theorem dX4_body_78 : decode cX4_body 78 = .ok (.getfield 93, 3) := by decide +kernel
theorem dX4_body_81 : decode cX4_body 81 = .ok (.imul, 1) := by decide +kernel
theorem dX4_body_82 : decode cX4_body 82 = .ok (.istore 6, 2) := by decide +kernel
theorem dX4_body_84 : decode cX4_body 84 = .ok (.iconst 0, 1) := by decide +kernel
theorem dX4_body_85 : decode cX4_body 85 = .ok (.istore 7, 2) := by decide +kernel
theorem dX4_body_87 : decode cX4_body 87 = .ok (.iload 7, 2) := by decide +kernel
theorem dX4_body_89 : decode cX4_body 89 = .ok (.bipush 13, 2) := by decide +kernel
theorem dX4_body_91 : decode cX4_body 91 = .ok (.if_icmp .ge 20, 3) := by decide +kernel
theorem dX4_body_94 : decode cX4_body 94 = .ok (.aload_n 0, 1) := by decide +kernel
theorem dX4_body_95 : decode cX4_body 95 = .ok (.getfield 7, 3) := by decide +kernel
theorem dX4_body_98 : decode cX4_body 98 = .ok (.iload 6, 2) := by decide +kernel
theorem dX4_body_100 : decode cX4_body 100 = .ok (.iload 7, 2) := by decide +kernel
theorem dX4_body_102 : decode cX4_body 102 = .ok (.iadd, 1) := by decide +kernel
theorem dX4_body_103 : decode cX4_body 103 = .ok (.fconst 0, 1) := by decide +kernel
theorem dX4_body_104 : decode cX4_body 104 = .ok (.fastore, 1) := by decide +kernel
theorem dX4_body_105 : decode cX4_body 105 = .ok (.iinc 7 1, 3) := by decide +kernel
theorem dX4_body_108 : decode cX4_body 108 = .ok (.goto (-21), 3) := by decide +kernel
theorem dX4_body_111 : decode cX4_body 111 = .ok (.aload_n 0, 1) := by decide +kernel
theorem dX4_body_112 : decode cX4_body 112 = .ok (.getfield 7, 3) := by decide +kernel
theorem dX4_body_115 : decode cX4_body 115 = .ok (.iload 6, 2) := by decide +kernel
theorem dX4_body_117 : decode cX4_body 117 = .ok (.bipush 6, 2) := by decide +kernel
theorem dX4_body_119 : decode cX4_body 119 = .ok (.iadd, 1) := by decide +kernel
theorem dX4_body_120 : decode cX4_body 120 = .ok (.fload_n 1, 1) := by decide +kernel
theorem dX4_body_121 : decode cX4_body 121 = .ok (.fastore, 1) := by decide +kernel
theorem dX4_body_122 : decode cX4_body 122 = .ok (.aload_n 0, 1) := by decide +kernel
theorem dX4_body_123 : decode cX4_body 123 = .ok (.getfield 7, 3) := by decide +kernel
theorem dX4_body_126 : decode cX4_body 126 = .ok (.iload 6, 2) := by decide +kernel
theorem dX4_body_128 : decode cX4_body 128 = .ok (.bipush 7, 2) := by decide +kernel
theorem dX4_body_130 : decode cX4_body 130 = .ok (.iadd, 1) := by decide +kernel
theorem dX4_body_131 : decode cX4_body 131 = .ok (.fload_n 2, 1) := by decide +kernel
theorem dX4_body_132 : decode cX4_body 132 = .ok (.fastore, 1) := by decide +kernel
theorem dX4_body_133 : decode cX4_body 133 = .ok (.aload_n 0, 1) := by decide +kernel
theorem dX4_body_134 : decode cX4_body 134 = .ok (.getfield 7, 3) := by decide +kernel
theorem dX4_body_137 : decode cX4_body 137 = .ok (.iload 6, 2) := by decide +kernel
theorem dX4_body_139 : decode cX4_body 139 = .ok (.bipush 8, 2) := by decide +kernel
theorem dX4_body_141 : decode cX4_body 141 = .ok (.iadd, 1) := by decide +kernel
theorem dX4_body_142 : decode cX4_body 142 = .ok (.fload_n 3, 1) := by decide +kernel
theorem dX4_body_143 : decode cX4_body 143 = .ok (.fastore, 1) := by decide +kernel
theorem dX4_body_144 : decode cX4_body 144 = .ok (.aload_n 0, 1) := by decide +kernel
theorem dX4_body_145 : decode cX4_body 145 = .ok (.getfield 7, 3) := by decide +kernel
theorem dX4_body_148 : decode cX4_body 148 = .ok (.iload 6, 2) := by decide +kernel
theorem dX4_body_150 : decode cX4_body 150 = .ok (.bipush 9, 2) := by decide +kernel
theorem dX4_body_152 : decode cX4_body 152 = .ok (.iadd, 1) := by decide +kernel
theorem dX4_body_153 : decode cX4_body 153 = .ok (.fload 4, 2) := by decide +kernel
theorem dX4_body_155 : decode cX4_body 155 = .ok (.fastore, 1) := by decide +kernel
theorem dX4_body_156 : decode cX4_body 156 = .ok (.aload_n 0, 1) := by decide +kernel
theorem dX4_body_157 : decode cX4_body 157 = .ok (.getfield 13, 3) := by decide +kernel
theorem dX4_body_160 : decode cX4_body 160 = .ok (.aload_n 0, 1) := by decide +kernel
theorem dX4_body_161 : decode cX4_body 161 = .ok (.getfield 93, 3) := by decide +kernel
theorem dX4_body_164 : decode cX4_body 164 = .ok (.iconst 0, 1) := by decide +kernel
theorem dX4_body_165 : decode cX4_body 165 = .ok (.bastore, 1) := by decide +kernel
theorem dX4_body_166 : decode cX4_body 166 = .ok (.aload_n 0, 1) := by decide +kernel
theorem dX4_body_167 : decode cX4_body 167 = .ok (.getfield 17, 3) := by decide +kernel
theorem dX4_body_170 : decode cX4_body 170 = .ok (.aload_n 0, 1) := by decide +kernel
theorem dX4_body_171 : decode cX4_body 171 = .ok (.getfield 93, 3) := by decide +kernel
theorem dX4_body_174 : decode cX4_body 174 = .ok (.iconst 0, 1) := by decide +kernel
theorem dX4_body_175 : decode cX4_body 175 = .ok (.iastore, 1) := by decide +kernel
theorem dX4_body_176 : decode cX4_body 176 = .ok (.aload_n 0, 1) := by decide +kernel
theorem dX4_body_177 : decode cX4_body 177 = .ok (.dup, 1) := by decide +kernel
theorem dX4_body_178 : decode cX4_body 178 = .ok (.getfield 93, 3) := by decide +kernel
theorem dX4_body_181 : decode cX4_body 181 = .ok (.iconst 1, 1) := by decide +kernel
theorem dX4_body_182 : decode cX4_body 182 = .ok (.iadd, 1) := by decide +kernel
theorem dX4_body_183 : decode cX4_body 183 = .ok (.putfield 93, 3) := by decide +kernel
theorem dX4_body_186 : decode cX4_body 186 = .ok (.aload_n 0, 1) := by decide +kernel
theorem dX4_body_187 : decode cX4_body 187 = .ok (.getfield 93, 3) := by decide +kernel
theorem dX4_body_190 : decode cX4_body 190 = .ok (.iconst 1, 1) := by decide +kernel
theorem dX4_body_191 : decode cX4_body 191 = .ok (.isub, 1) := by decide +kernel
theorem dX4_body_192 : decode cX4_body 192 = .ok (.ireturn, 1) := by decide +kernel
theorem dX4_movable_0 : decode cX4_movable 0 = .ok (.bipush 13, 2) := by decide +kernel
theorem dX4_movable_2 : decode cX4_movable 2 = .ok (.iload_n 1, 1) := by decide +kernel
theorem dX4_movable_3 : decode cX4_movable 3 = .ok (.imul, 1) := by decide +kernel
theorem dX4_movable_4 : decode cX4_movable 4 = .ok (.istore_n 2, 1) := by decide +kernel
theorem dX4_movable_5 : decode cX4_movable 5 = .ok (.iload_n 1, 1) := by decide +kernel
theorem dX4_movable_6 : decode cX4_movable 6 = .ok (.ifCond .lt 55, 3) := by decide +kernel
theorem dX4_movable_9 : decode cX4_movable 9 = .ok (.aload_n 0, 1) := by decide +kernel
theorem dX4_movable_10 : decode cX4_movable 10 = .ok (.getfield 7, 3) := by decide +kernel
theorem dX4_movable_13 : decode cX4_movable 13 = .ok (.iload_n 2, 1) := by decide +kernel
theorem dX4_movable_14 : decode cX4_movable 14 = .ok (.bipush 6, 2) := by decide +kernel
theorem dX4_movable_16 : decode cX4_movable 16 = .ok (.iadd, 1) := by decide +kernel
theorem dX4_movable_17 : decode cX4_movable 17 = .ok (.faload, 1) := by decide +kernel
theorem dX4_movable_18 : decode cX4_movable 18 = .ok (.fconst 0, 1) := by decide +kernel
theorem dX4_movable_19 : decode cX4_movable 19 = .ok (.fcmp .l, 1) := by decide +kernel
theorem dX4_movable_20 : decode cX4_movable 20 = .ok (.ifCond .gt 37, 3) := by decide +kernel
theorem dX4_movable_23 : decode cX4_movable 23 = .ok (.aload_n 0, 1) := by decide +kernel
theorem dX4_movable_24 : decode cX4_movable 24 = .ok (.getfield 7, 3) := by decide +kernel
theorem dX4_movable_27 : decode cX4_movable 27 = .ok (.iload_n 2, 1) := by decide +kernel
theorem dX4_movable_28 : decode cX4_movable 28 = .ok (.bipush 7, 2) := by decide +kernel
theorem dX4_movable_30 : decode cX4_movable 30 = .ok (.iadd, 1) := by decide +kernel
theorem dX4_movable_31 : decode cX4_movable 31 = .ok (.faload, 1) := by decide +kernel
theorem dX4_movable_32 : decode cX4_movable 32 = .ok (.aload_n 0, 1) := by decide +kernel
theorem dX4_movable_33 : decode cX4_movable 33 = .ok (.getfield 7, 3) := by decide +kernel
theorem dX4_movable_36 : decode cX4_movable 36 = .ok (.iload_n 2, 1) := by decide +kernel
theorem dX4_movable_37 : decode cX4_movable 37 = .ok (.bipush 8, 2) := by decide +kernel
theorem dX4_movable_39 : decode cX4_movable 39 = .ok (.iadd, 1) := by decide +kernel
theorem dX4_movable_40 : decode cX4_movable 40 = .ok (.faload, 1) := by decide +kernel
theorem dX4_movable_41 : decode cX4_movable 41 = .ok (.fadd, 1) := by decide +kernel
theorem dX4_movable_42 : decode cX4_movable 42 = .ok (.aload_n 0, 1) := by decide +kernel
theorem dX4_movable_43 : decode cX4_movable 43 = .ok (.getfield 7, 3) := by decide +kernel
theorem dX4_movable_46 : decode cX4_movable 46 = .ok (.iload_n 2, 1) := by decide +kernel
theorem dX4_movable_47 : decode cX4_movable 47 = .ok (.bipush 9, 2) := by decide +kernel
theorem dX4_movable_49 : decode cX4_movable 49 = .ok (.iadd, 1) := by decide +kernel
theorem dX4_movable_50 : decode cX4_movable 50 = .ok (.faload, 1) := by decide +kernel
theorem dX4_movable_51 : decode cX4_movable 51 = .ok (.fadd, 1) := by decide +kernel
theorem dX4_movable_52 : decode cX4_movable 52 = .ok (.fconst 0, 1) := by decide +kernel
theorem dX4_movable_53 : decode cX4_movable 53 = .ok (.fcmp .l, 1) := by decide +kernel
theorem dX4_movable_54 : decode cX4_movable 54 = .ok (.ifCond .le 7, 3) := by decide +kernel
theorem dX4_movable_57 : decode cX4_movable 57 = .ok (.iconst 1, 1) := by decide +kernel
theorem dX4_movable_58 : decode cX4_movable 58 = .ok (.goto 4, 3) := by decide +kernel
theorem dX4_movable_61 : decode cX4_movable 61 = .ok (.iconst 0, 1) := by decide +kernel
theorem dX4_movable_62 : decode cX4_movable 62 = .ok (.ireturn, 1) := by decide +kernel
theorem dX4_rouse_0 : decode cX4_rouse 0 = .ok (.aload_n 0, 1) := by decide +kernel
theorem dX4_rouse_1 : decode cX4_rouse 1 = .ok (.getfield 13, 3) := by decide +kernel
theorem dX4_rouse_4 : decode cX4_rouse 4 = .ok (.iload_n 1, 1) := by decide +kernel
theorem dX4_rouse_5 : decode cX4_rouse 5 = .ok (.iconst 0, 1) := by decide +kernel
theorem dX4_rouse_6 : decode cX4_rouse 6 = .ok (.bastore, 1) := by decide +kernel
theorem dX4_rouse_7 : decode cX4_rouse 7 = .ok (.aload_n 0, 1) := by decide +kernel
theorem dX4_rouse_8 : decode cX4_rouse 8 = .ok (.getfield 17, 3) := by decide +kernel
theorem dX4_rouse_11 : decode cX4_rouse 11 = .ok (.iload_n 1, 1) := by decide +kernel
theorem dX4_rouse_12 : decode cX4_rouse 12 = .ok (.iconst 0, 1) := by decide +kernel
theorem dX4_rouse_13 : decode cX4_rouse 13 = .ok (.iastore, 1) := by decide +kernel
theorem dX4_rouse_14 : decode cX4_rouse 14 = .ok (.return_, 1) := by decide +kernel
set_option maxRecDepth 20000 in
theorem ggX4_lean_X4_known : GoodIn wsX4_lean wsX4_known := goodIn_r _ [8, 9, 24, 25, 26, 27, 28, 29, 30, 31, 32, 33, 34, 35, 36, 37, 38, 39, 40, 41, 42, 43, 44, 45, 46, 47, 48, 49, 50, 51, 52, 53, 54, 55, 56, 57, 58] (by decide +kernel) (by decide +kernel)
set_option maxRecDepth 20000 in
theorem gX4_lean_X4_known : GoodIn wsX4_lean (wsV RX4 105 RX4 yX4_known wsX4_known) := goodIn_app (goodIn_of _ (by decide +kernel)) ggX4_lean_X4_known
set_option maxRecDepth 20000 in
theorem ggX4_lean_X4_within : GoodIn wsX4_lean wsX4_within := goodIn_r _ [12] (by decide +kernel) (by decide +kernel)
set_option maxRecDepth 20000 in
theorem gX4_lean_X4_within : GoodIn wsX4_lean (va_wsS RX4 97 yX4_within wsX4_within) := goodIn_app (goodIn_of _ (by decide +kernel)) ggX4_lean_X4_within
set_option maxRecDepth 20000 in
theorem ggX4_lean_X4_goes : GoodIn wsX4_lean wsX4_goes := goodIn_r _ [16, 17, 24, 25, 26, 27, 28, 29, 30, 31, 32, 33, 34, 35, 36, 37, 38, 39, 40, 41, 42, 43, 44, 45, 46, 47, 48, 49, 50, 51, 52, 53, 54, 55, 56, 57, 58] (by decide +kernel) (by decide +kernel)
set_option maxRecDepth 20000 in
theorem gX4_lean_X4_goes : GoodIn wsX4_lean (wsV RX4 101 RX4 yX4_goes wsX4_goes) := goodIn_app (goodIn_of _ (by decide +kernel)) ggX4_lean_X4_goes
set_option maxRecDepth 20000 in
theorem ggX4_lean_X4_rouse : GoodIn wsX4_lean wsX4_rouse := goodIn_r _ [21, 22, 23, 24, 25, 26, 27, 28, 29, 30, 31, 32, 33, 34, 35, 36, 37, 38, 39, 40, 41, 42, 43, 44, 45, 46, 47, 48, 49, 50, 51, 52, 53, 54, 55, 56, 57, 58] (by decide +kernel) (by decide +kernel)
set_option maxRecDepth 20000 in
theorem gX4_lean_X4_rouse : GoodIn wsX4_lean (wsV RX4 111 RX4 yX4_rouse wsX4_rouse) := goodIn_app (goodIn_of _ (by decide +kernel)) ggX4_lean_X4_rouse
theorem dX4_lean_0 : decode cX4_lean 0 = .ok (.aload_n 0, 1) := by decide +kernel
theorem dX4_lean_1 : decode cX4_lean 1 = .ok (.aload_n 0, 1) := by decide +kernel
theorem dX4_lean_2 : decode cX4_lean 2 = .ok (.iload_n 1, 1) := by decide +kernel
theorem dX4_lean_3 : decode cX4_lean 3 = .ok (.invokevirtual 105, 3) := by decide +kernel
theorem dX4_lean_6 : decode cX4_lean 6 = .ok (.fload_n 2, 1) := by decide +kernel
theorem dX4_lean_7 : decode cX4_lean 7 = .ok (.ldc 109, 2) := by decide +kernel
theorem dX4_lean_9 : decode cX4_lean 9 = .ok (.ldc 110, 2) := by decide +kernel
theorem dX4_lean_11 : decode cX4_lean 11 = .ok (.invokestatic 97, 3) := by decide +kernel
theorem dX4_lean_14 : decode cX4_lean 14 = .ok (.ifCond .eq 30, 3) := by decide +kernel
theorem dX4_lean_17 : decode cX4_lean 17 = .ok (.fload_n 3, 1) := by decide +kernel
theorem dX4_lean_18 : decode cX4_lean 18 = .ok (.ldc 109, 2) := by decide +kernel
theorem dX4_lean_20 : decode cX4_lean 20 = .ok (.ldc 110, 2) := by decide +kernel
theorem dX4_lean_22 : decode cX4_lean 22 = .ok (.invokestatic 97, 3) := by decide +kernel
theorem dX4_lean_25 : decode cX4_lean 25 = .ok (.ifCond .eq 19, 3) := by decide +kernel
theorem dX4_lean_28 : decode cX4_lean 28 = .ok (.fload 4, 2) := by decide +kernel
theorem dX4_lean_30 : decode cX4_lean 30 = .ok (.ldc 109, 2) := by decide +kernel
theorem dX4_lean_32 : decode cX4_lean 32 = .ok (.ldc 110, 2) := by decide +kernel
theorem dX4_lean_34 : decode cX4_lean 34 = .ok (.invokestatic 97, 3) := by decide +kernel
theorem dX4_lean_37 : decode cX4_lean 37 = .ok (.ifCond .eq 7, 3) := by decide +kernel
theorem dX4_lean_40 : decode cX4_lean 40 = .ok (.iconst 1, 1) := by decide +kernel
theorem dX4_lean_41 : decode cX4_lean 41 = .ok (.goto 4, 3) := by decide +kernel
theorem dX4_lean_44 : decode cX4_lean 44 = .ok (.iconst 0, 1) := by decide +kernel
theorem dX4_lean_45 : decode cX4_lean 45 = .ok (.iconst 1, 1) := by decide +kernel
theorem dX4_lean_46 : decode cX4_lean 46 = .ok (.invokevirtual 101, 3) := by decide +kernel
theorem dX4_lean_49 : decode cX4_lean 49 = .ok (.ifCond .eq 48, 3) := by decide +kernel
theorem dX4_lean_52 : decode cX4_lean 52 = .ok (.aload_n 0, 1) := by decide +kernel
theorem dX4_lean_53 : decode cX4_lean 53 = .ok (.getfield 7, 3) := by decide +kernel
theorem dX4_lean_56 : decode cX4_lean 56 = .ok (.bipush 13, 2) := by decide +kernel
theorem dX4_lean_58 : decode cX4_lean 58 = .ok (.iload_n 1, 1) := by decide +kernel
theorem dX4_lean_59 : decode cX4_lean 59 = .ok (.imul, 1) := by decide +kernel
theorem dX4_lean_60 : decode cX4_lean 60 = .ok (.bipush 10, 2) := by decide +kernel
theorem dX4_lean_62 : decode cX4_lean 62 = .ok (.iadd, 1) := by decide +kernel
theorem dX4_lean_63 : decode cX4_lean 63 = .ok (.fload_n 2, 1) := by decide +kernel
theorem dX4_lean_64 : decode cX4_lean 64 = .ok (.fastore, 1) := by decide +kernel
theorem dX4_lean_65 : decode cX4_lean 65 = .ok (.aload_n 0, 1) := by decide +kernel
theorem dX4_lean_66 : decode cX4_lean 66 = .ok (.getfield 7, 3) := by decide +kernel
theorem dX4_lean_69 : decode cX4_lean 69 = .ok (.bipush 13, 2) := by decide +kernel
theorem dX4_lean_71 : decode cX4_lean 71 = .ok (.iload_n 1, 1) := by decide +kernel
theorem dX4_lean_72 : decode cX4_lean 72 = .ok (.imul, 1) := by decide +kernel
theorem dX4_lean_73 : decode cX4_lean 73 = .ok (.bipush 11, 2) := by decide +kernel
theorem dX4_lean_75 : decode cX4_lean 75 = .ok (.iadd, 1) := by decide +kernel
theorem dX4_lean_76 : decode cX4_lean 76 = .ok (.fload_n 3, 1) := by decide +kernel
theorem dX4_lean_77 : decode cX4_lean 77 = .ok (.fastore, 1) := by decide +kernel
theorem dX4_lean_78 : decode cX4_lean 78 = .ok (.aload_n 0, 1) := by decide +kernel
theorem dX4_lean_79 : decode cX4_lean 79 = .ok (.getfield 7, 3) := by decide +kernel
theorem dX4_lean_82 : decode cX4_lean 82 = .ok (.bipush 13, 2) := by decide +kernel
theorem dX4_lean_84 : decode cX4_lean 84 = .ok (.iload_n 1, 1) := by decide +kernel
theorem dX4_lean_85 : decode cX4_lean 85 = .ok (.imul, 1) := by decide +kernel
theorem dX4_lean_86 : decode cX4_lean 86 = .ok (.bipush 12, 2) := by decide +kernel
theorem dX4_lean_88 : decode cX4_lean 88 = .ok (.iadd, 1) := by decide +kernel
theorem dX4_lean_89 : decode cX4_lean 89 = .ok (.fload 4, 2) := by decide +kernel
theorem dX4_lean_91 : decode cX4_lean 91 = .ok (.fastore, 1) := by decide +kernel
theorem dX4_lean_92 : decode cX4_lean 92 = .ok (.aload_n 0, 1) := by decide +kernel
theorem dX4_lean_93 : decode cX4_lean 93 = .ok (.iload_n 1, 1) := by decide +kernel
theorem dX4_lean_94 : decode cX4_lean 94 = .ok (.invokevirtual 111, 3) := by decide +kernel
theorem dX4_lean_97 : decode cX4_lean 97 = .ok (.return_, 1) := by decide +kernel
set_option maxRecDepth 20000 in
theorem ggX4_set_X4_within : GoodIn wsX4_set wsX4_within := goodIn_r _ [7] (by decide +kernel) (by decide +kernel)
set_option maxRecDepth 20000 in
theorem gX4_set_X4_within : GoodIn wsX4_set (va_wsS RX4 97 yX4_within wsX4_within) := goodIn_app (goodIn_of _ (by decide +kernel)) ggX4_set_X4_within
set_option maxRecDepth 20000 in
theorem ggX4_set_X4_known : GoodIn wsX4_set wsX4_known := goodIn_r _ [11, 12, 24, 25, 26, 27, 28, 29, 30, 31, 32, 33, 34, 35, 36, 37, 38, 39, 40, 41, 42, 43, 44, 45, 46, 47, 48, 49, 50, 51, 52, 53, 54, 55, 56, 57, 58] (by decide +kernel) (by decide +kernel)
set_option maxRecDepth 20000 in
theorem gX4_set_X4_known : GoodIn wsX4_set (wsV RX4 105 RX4 yX4_known wsX4_known) := goodIn_app (goodIn_of _ (by decide +kernel)) ggX4_set_X4_known
set_option maxRecDepth 20000 in
theorem ggX4_set_X4_goes : GoodIn wsX4_set wsX4_goes := goodIn_r _ [16, 17, 24, 25, 26, 27, 28, 29, 30, 31, 32, 33, 34, 35, 36, 37, 38, 39, 40, 41, 42, 43, 44, 45, 46, 47, 48, 49, 50, 51, 52, 53, 54, 55, 56, 57, 58] (by decide +kernel) (by decide +kernel)
set_option maxRecDepth 20000 in
theorem gX4_set_X4_goes : GoodIn wsX4_set (wsV RX4 101 RX4 yX4_goes wsX4_goes) := goodIn_app (goodIn_of _ (by decide +kernel)) ggX4_set_X4_goes
set_option maxRecDepth 20000 in
theorem ggX4_set_X4_rouse : GoodIn wsX4_set wsX4_rouse := goodIn_r _ [21, 22, 23, 24, 25, 26, 27, 28, 29, 30, 31, 32, 33, 34, 35, 36, 37, 38, 39, 40, 41, 42, 43, 44, 45, 46, 47, 48, 49, 50, 51, 52, 53, 54, 55, 56, 57, 58] (by decide +kernel) (by decide +kernel)
set_option maxRecDepth 20000 in
theorem gX4_set_X4_rouse : GoodIn wsX4_set (wsV RX4 111 RX4 yX4_rouse wsX4_rouse) := goodIn_app (goodIn_of _ (by decide +kernel)) ggX4_set_X4_rouse
theorem dX4_set_0 : decode cX4_set 0 = .ok (.fload_n 2, 1) := by decide +kernel
theorem dX4_set_1 : decode cX4_set 1 = .ok (.ldc 115, 2) := by decide +kernel
theorem dX4_set_3 : decode cX4_set 3 = .ok (.ldc 116, 2) := by decide +kernel
theorem dX4_set_5 : decode cX4_set 5 = .ok (.invokestatic 97, 3) := by decide +kernel
theorem dX4_set_8 : decode cX4_set 8 = .ok (.ifCond .eq 30, 3) := by decide +kernel
theorem dX4_set_11 : decode cX4_set 11 = .ok (.fload_n 3, 1) := by decide +kernel
theorem dX4_set_12 : decode cX4_set 12 = .ok (.ldc 115, 2) := by decide +kernel
theorem dX4_set_14 : decode cX4_set 14 = .ok (.ldc 116, 2) := by decide +kernel
theorem dX4_set_16 : decode cX4_set 16 = .ok (.invokestatic 97, 3) := by decide +kernel
theorem dX4_set_19 : decode cX4_set 19 = .ok (.ifCond .eq 19, 3) := by decide +kernel
theorem dX4_set_22 : decode cX4_set 22 = .ok (.fload 4, 2) := by decide +kernel
theorem dX4_set_24 : decode cX4_set 24 = .ok (.ldc 115, 2) := by decide +kernel
theorem dX4_set_26 : decode cX4_set 26 = .ok (.ldc 116, 2) := by decide +kernel
theorem dX4_set_28 : decode cX4_set 28 = .ok (.invokestatic 97, 3) := by decide +kernel
theorem dX4_set_31 : decode cX4_set 31 = .ok (.ifCond .eq 7, 3) := by decide +kernel
theorem dX4_set_34 : decode cX4_set 34 = .ok (.iconst 1, 1) := by decide +kernel
theorem dX4_set_35 : decode cX4_set 35 = .ok (.goto 4, 3) := by decide +kernel
theorem dX4_set_38 : decode cX4_set 38 = .ok (.iconst 0, 1) := by decide +kernel
theorem dX4_set_39 : decode cX4_set 39 = .ok (.istore 8, 2) := by decide +kernel
theorem dX4_set_41 : decode cX4_set 41 = .ok (.iload 8, 2) := by decide +kernel
theorem dX4_set_43 : decode cX4_set 43 = .ok (.ifCond .eq 43, 3) := by decide +kernel
theorem dX4_set_46 : decode cX4_set 46 = .ok (.fload 5, 2) := by decide +kernel
theorem dX4_set_48 : decode cX4_set 48 = .ok (.ldc 115, 2) := by decide +kernel
theorem dX4_set_50 : decode cX4_set 50 = .ok (.ldc 116, 2) := by decide +kernel
theorem dX4_set_52 : decode cX4_set 52 = .ok (.invokestatic 97, 3) := by decide +kernel
theorem dX4_set_55 : decode cX4_set 55 = .ok (.ifCond .eq 31, 3) := by decide +kernel
theorem dX4_set_58 : decode cX4_set 58 = .ok (.fload 6, 2) := by decide +kernel
theorem dX4_set_60 : decode cX4_set 60 = .ok (.ldc 115, 2) := by decide +kernel
theorem dX4_set_62 : decode cX4_set 62 = .ok (.ldc 116, 2) := by decide +kernel
theorem dX4_set_64 : decode cX4_set 64 = .ok (.invokestatic 97, 3) := by decide +kernel
theorem dX4_set_67 : decode cX4_set 67 = .ok (.ifCond .eq 19, 3) := by decide +kernel
theorem dX4_set_70 : decode cX4_set 70 = .ok (.fload 7, 2) := by decide +kernel
theorem dX4_set_72 : decode cX4_set 72 = .ok (.ldc 115, 2) := by decide +kernel
theorem dX4_set_74 : decode cX4_set 74 = .ok (.ldc 116, 2) := by decide +kernel
theorem dX4_set_76 : decode cX4_set 76 = .ok (.invokestatic 97, 3) := by decide +kernel
theorem dX4_set_79 : decode cX4_set 79 = .ok (.ifCond .eq 7, 3) := by decide +kernel
theorem dX4_set_82 : decode cX4_set 82 = .ok (.iconst 1, 1) := by decide +kernel
theorem dX4_set_83 : decode cX4_set 83 = .ok (.goto 4, 3) := by decide +kernel
theorem dX4_set_86 : decode cX4_set 86 = .ok (.iconst 0, 1) := by decide +kernel
theorem dX4_set_87 : decode cX4_set 87 = .ok (.istore 8, 2) := by decide +kernel
theorem dX4_set_89 : decode cX4_set 89 = .ok (.aload_n 0, 1) := by decide +kernel
theorem dX4_set_90 : decode cX4_set 90 = .ok (.aload_n 0, 1) := by decide +kernel
theorem dX4_set_91 : decode cX4_set 91 = .ok (.iload_n 1, 1) := by decide +kernel
theorem dX4_set_92 : decode cX4_set 92 = .ok (.invokevirtual 105, 3) := by decide +kernel
theorem dX4_set_95 : decode cX4_set 95 = .ok (.iload 8, 2) := by decide +kernel
theorem dX4_set_97 : decode cX4_set 97 = .ok (.iconst 1, 1) := by decide +kernel
theorem dX4_set_98 : decode cX4_set 98 = .ok (.invokevirtual 101, 3) := by decide +kernel
theorem dX4_set_101 : decode cX4_set 101 = .ok (.ifCond .eq 76, 3) := by decide +kernel
theorem dX4_set_104 : decode cX4_set 104 = .ok (.bipush 13, 2) := by decide +kernel
theorem dX4_set_106 : decode cX4_set 106 = .ok (.iload_n 1, 1) := by decide +kernel
theorem dX4_set_107 : decode cX4_set 107 = .ok (.imul, 1) := by decide +kernel
theorem dX4_set_108 : decode cX4_set 108 = .ok (.istore 9, 2) := by decide +kernel
theorem dX4_set_110 : decode cX4_set 110 = .ok (.aload_n 0, 1) := by decide +kernel
theorem dX4_set_111 : decode cX4_set 111 = .ok (.getfield 7, 3) := by decide +kernel
theorem dX4_set_114 : decode cX4_set 114 = .ok (.iload 9, 2) := by decide +kernel
theorem dX4_set_116 : decode cX4_set 116 = .ok (.fload_n 2, 1) := by decide +kernel
theorem dX4_set_117 : decode cX4_set 117 = .ok (.fastore, 1) := by decide +kernel
theorem dX4_set_118 : decode cX4_set 118 = .ok (.aload_n 0, 1) := by decide +kernel
theorem dX4_set_119 : decode cX4_set 119 = .ok (.getfield 7, 3) := by decide +kernel
theorem dX4_set_122 : decode cX4_set 122 = .ok (.iload 9, 2) := by decide +kernel
theorem dX4_set_124 : decode cX4_set 124 = .ok (.iconst 1, 1) := by decide +kernel
theorem dX4_set_125 : decode cX4_set 125 = .ok (.iadd, 1) := by decide +kernel
theorem dX4_set_126 : decode cX4_set 126 = .ok (.fload_n 3, 1) := by decide +kernel
theorem dX4_set_127 : decode cX4_set 127 = .ok (.fastore, 1) := by decide +kernel
theorem dX4_set_128 : decode cX4_set 128 = .ok (.aload_n 0, 1) := by decide +kernel
theorem dX4_set_129 : decode cX4_set 129 = .ok (.getfield 7, 3) := by decide +kernel
theorem dX4_set_132 : decode cX4_set 132 = .ok (.iload 9, 2) := by decide +kernel
theorem dX4_set_134 : decode cX4_set 134 = .ok (.iconst 2, 1) := by decide +kernel
theorem dX4_set_135 : decode cX4_set 135 = .ok (.iadd, 1) := by decide +kernel
theorem dX4_set_136 : decode cX4_set 136 = .ok (.fload 4, 2) := by decide +kernel
theorem dX4_set_138 : decode cX4_set 138 = .ok (.fastore, 1) := by decide +kernel
theorem dX4_set_139 : decode cX4_set 139 = .ok (.aload_n 0, 1) := by decide +kernel
theorem dX4_set_140 : decode cX4_set 140 = .ok (.getfield 7, 3) := by decide +kernel
theorem dX4_set_143 : decode cX4_set 143 = .ok (.iload 9, 2) := by decide +kernel
theorem dX4_set_145 : decode cX4_set 145 = .ok (.iconst 3, 1) := by decide +kernel
theorem dX4_set_146 : decode cX4_set 146 = .ok (.iadd, 1) := by decide +kernel
theorem dX4_set_147 : decode cX4_set 147 = .ok (.fload 5, 2) := by decide +kernel
theorem dX4_set_149 : decode cX4_set 149 = .ok (.fastore, 1) := by decide +kernel
theorem dX4_set_150 : decode cX4_set 150 = .ok (.aload_n 0, 1) := by decide +kernel
theorem dX4_set_151 : decode cX4_set 151 = .ok (.getfield 7, 3) := by decide +kernel
theorem dX4_set_154 : decode cX4_set 154 = .ok (.iload 9, 2) := by decide +kernel
theorem dX4_set_156 : decode cX4_set 156 = .ok (.iconst 4, 1) := by decide +kernel
theorem dX4_set_157 : decode cX4_set 157 = .ok (.iadd, 1) := by decide +kernel
theorem dX4_set_158 : decode cX4_set 158 = .ok (.fload 6, 2) := by decide +kernel
theorem dX4_set_160 : decode cX4_set 160 = .ok (.fastore, 1) := by decide +kernel
theorem dX4_set_161 : decode cX4_set 161 = .ok (.aload_n 0, 1) := by decide +kernel
theorem dX4_set_162 : decode cX4_set 162 = .ok (.getfield 7, 3) := by decide +kernel
theorem dX4_set_165 : decode cX4_set 165 = .ok (.iload 9, 2) := by decide +kernel
theorem dX4_set_167 : decode cX4_set 167 = .ok (.iconst 5, 1) := by decide +kernel
theorem dX4_set_168 : decode cX4_set 168 = .ok (.iadd, 1) := by decide +kernel
theorem dX4_set_169 : decode cX4_set 169 = .ok (.fload 7, 2) := by decide +kernel
theorem dX4_set_171 : decode cX4_set 171 = .ok (.fastore, 1) := by decide +kernel
theorem dX4_set_172 : decode cX4_set 172 = .ok (.aload_n 0, 1) := by decide +kernel
theorem dX4_set_173 : decode cX4_set 173 = .ok (.iload_n 1, 1) := by decide +kernel
theorem dX4_set_174 : decode cX4_set 174 = .ok (.invokevirtual 111, 3) := by decide +kernel
theorem dX4_set_177 : decode cX4_set 177 = .ok (.return_, 1) := by decide +kernel
set_option maxRecDepth 20000 in
theorem ggX4_gain_X4_known : GoodIn wsX4_gain wsX4_known := goodIn_r _ [8, 9, 28, 29, 30, 31, 32, 33, 34, 35, 36, 37, 38, 39, 40, 41, 42, 43, 44, 45, 46, 47, 48, 49, 50, 51, 52, 53, 54, 55, 56, 57, 58, 59, 60, 61, 62] (by decide +kernel) (by decide +kernel)
set_option maxRecDepth 20000 in
theorem gX4_gain_X4_known : GoodIn wsX4_gain (wsV RX4 105 RX4 yX4_known wsX4_known) := goodIn_app (goodIn_of _ (by decide +kernel)) ggX4_gain_X4_known
set_option maxRecDepth 20000 in
theorem ggX4_gain_X4_within : GoodIn wsX4_gain wsX4_within := goodIn_r _ [12] (by decide +kernel) (by decide +kernel)
set_option maxRecDepth 20000 in
theorem gX4_gain_X4_within : GoodIn wsX4_gain (va_wsS RX4 97 yX4_within wsX4_within) := goodIn_app (goodIn_of _ (by decide +kernel)) ggX4_gain_X4_within
set_option maxRecDepth 20000 in
theorem ggX4_gain_X4_goes : GoodIn wsX4_gain wsX4_goes := goodIn_r _ [16, 17, 28, 29, 30, 31, 32, 33, 34, 35, 36, 37, 38, 39, 40, 41, 42, 43, 44, 45, 46, 47, 48, 49, 50, 51, 52, 53, 54, 55, 56, 57, 58, 59, 60, 61, 62] (by decide +kernel) (by decide +kernel)
set_option maxRecDepth 20000 in
theorem gX4_gain_X4_goes : GoodIn wsX4_gain (wsV RX4 101 RX4 yX4_goes wsX4_goes) := goodIn_app (goodIn_of _ (by decide +kernel)) ggX4_gain_X4_goes
set_option maxRecDepth 20000 in
theorem ggX4_gain_X4_movable : GoodIn wsX4_gain wsX4_movable := goodIn_r _ [21, 3, 28, 29, 30, 31, 32, 33, 34, 35, 36, 37, 38, 39, 40, 41, 42, 43, 44, 45, 46, 47, 48, 49, 50, 51, 52, 53, 54, 55, 56, 57, 58, 59, 60, 61, 62] (by decide +kernel) (by decide +kernel)
set_option maxRecDepth 20000 in
theorem gX4_gain_X4_movable : GoodIn wsX4_gain (wsV RX4 119 RX4 yX4_movable wsX4_movable) := goodIn_app (goodIn_of _ (by decide +kernel)) ggX4_gain_X4_movable
set_option maxRecDepth 20000 in
theorem ggX4_gain_X4_rouse : GoodIn wsX4_gain wsX4_rouse := goodIn_r _ [25, 26, 27, 28, 29, 30, 31, 32, 33, 34, 35, 36, 37, 38, 39, 40, 41, 42, 43, 44, 45, 46, 47, 48, 49, 50, 51, 52, 53, 54, 55, 56, 57, 58, 59, 60, 61, 62] (by decide +kernel) (by decide +kernel)
set_option maxRecDepth 20000 in
theorem gX4_gain_X4_rouse : GoodIn wsX4_gain (wsV RX4 111 RX4 yX4_rouse wsX4_rouse) := goodIn_app (goodIn_of _ (by decide +kernel)) ggX4_gain_X4_rouse
theorem dX4_gain_0 : decode cX4_gain 0 = .ok (.aload_n 0, 1) := by decide +kernel
theorem dX4_gain_1 : decode cX4_gain 1 = .ok (.aload_n 0, 1) := by decide +kernel
theorem dX4_gain_2 : decode cX4_gain 2 = .ok (.iload_n 1, 1) := by decide +kernel
theorem dX4_gain_3 : decode cX4_gain 3 = .ok (.invokevirtual 105, 3) := by decide +kernel
theorem dX4_gain_6 : decode cX4_gain 6 = .ok (.ifCond .eq 20, 3) := by decide +kernel
theorem dX4_gain_9 : decode cX4_gain 9 = .ok (.aload_n 0, 1) := by decide +kernel
theorem dX4_gain_10 : decode cX4_gain 10 = .ok (.iload_n 2, 1) := by decide +kernel
theorem dX4_gain_11 : decode cX4_gain 11 = .ok (.invokevirtual 105, 3) := by decide +kernel
theorem dX4_gain_14 : decode cX4_gain 14 = .ok (.ifCond .eq 12, 3) := by decide +kernel
theorem dX4_gain_17 : decode cX4_gain 17 = .ok (.iload_n 1, 1) := by decide +kernel
theorem dX4_gain_18 : decode cX4_gain 18 = .ok (.iload_n 2, 1) := by decide +kernel
theorem dX4_gain_19 : decode cX4_gain 19 = .ok (.if_icmp .gt 7, 3) := by decide +kernel
theorem dX4_gain_22 : decode cX4_gain 22 = .ok (.iconst 1, 1) := by decide +kernel
theorem dX4_gain_23 : decode cX4_gain 23 = .ok (.goto 4, 3) := by decide +kernel
theorem dX4_gain_26 : decode cX4_gain 26 = .ok (.iconst 0, 1) := by decide +kernel
theorem dX4_gain_27 : decode cX4_gain 27 = .ok (.fload_n 3, 1) := by decide +kernel
theorem dX4_gain_28 : decode cX4_gain 28 = .ok (.ldc 117, 2) := by decide +kernel
theorem dX4_gain_30 : decode cX4_gain 30 = .ok (.ldc 118, 2) := by decide +kernel
theorem dX4_gain_32 : decode cX4_gain 32 = .ok (.invokestatic 97, 3) := by decide +kernel
theorem dX4_gain_35 : decode cX4_gain 35 = .ok (.ifCond .eq 31, 3) := by decide +kernel
theorem dX4_gain_38 : decode cX4_gain 38 = .ok (.fload 4, 2) := by decide +kernel
theorem dX4_gain_40 : decode cX4_gain 40 = .ok (.ldc 117, 2) := by decide +kernel
theorem dX4_gain_42 : decode cX4_gain 42 = .ok (.ldc 118, 2) := by decide +kernel
theorem dX4_gain_44 : decode cX4_gain 44 = .ok (.invokestatic 97, 3) := by decide +kernel
theorem dX4_gain_47 : decode cX4_gain 47 = .ok (.ifCond .eq 19, 3) := by decide +kernel
theorem dX4_gain_50 : decode cX4_gain 50 = .ok (.fload 5, 2) := by decide +kernel
theorem dX4_gain_52 : decode cX4_gain 52 = .ok (.ldc 117, 2) := by decide +kernel
theorem dX4_gain_54 : decode cX4_gain 54 = .ok (.ldc 118, 2) := by decide +kernel
theorem dX4_gain_56 : decode cX4_gain 56 = .ok (.invokestatic 97, 3) := by decide +kernel
theorem dX4_gain_59 : decode cX4_gain 59 = .ok (.ifCond .eq 7, 3) := by decide +kernel
theorem dX4_gain_62 : decode cX4_gain 62 = .ok (.iconst 1, 1) := by decide +kernel
theorem dX4_gain_63 : decode cX4_gain 63 = .ok (.goto 4, 3) := by decide +kernel
theorem dX4_gain_66 : decode cX4_gain 66 = .ok (.iconst 0, 1) := by decide +kernel
theorem dX4_gain_67 : decode cX4_gain 67 = .ok (.iconst 1, 1) := by decide +kernel
theorem dX4_gain_68 : decode cX4_gain 68 = .ok (.invokevirtual 101, 3) := by decide +kernel
theorem dX4_gain_71 : decode cX4_gain 71 = .ok (.ifCond .ne 5, 3) := by decide +kernel
theorem dX4_gain_74 : decode cX4_gain 74 = .ok (.iconst 0, 1) := by decide +kernel
theorem dX4_gain_75 : decode cX4_gain 75 = .ok (.ireturn, 1) := by decide +kernel
theorem dX4_gain_76 : decode cX4_gain 76 = .ok (.iconst 0, 1) := by decide +kernel
theorem dX4_gain_77 : decode cX4_gain 77 = .ok (.istore 6, 2) := by decide +kernel
theorem dX4_gain_79 : decode cX4_gain 79 = .ok (.iload_n 1, 1) := by decide +kernel
theorem dX4_gain_80 : decode cX4_gain 80 = .ok (.istore 7, 2) := by decide +kernel
theorem dX4_gain_82 : decode cX4_gain 82 = .ok (.iload 7, 2) := by decide +kernel
theorem dX4_gain_84 : decode cX4_gain 84 = .ok (.iload_n 2, 1) := by decide +kernel
theorem dX4_gain_85 : decode cX4_gain 85 = .ok (.if_icmp .gt 103, 3) := by decide +kernel
theorem dX4_gain_88 : decode cX4_gain 88 = .ok (.aload_n 0, 1) := by decide +kernel
theorem dX4_gain_89 : decode cX4_gain 89 = .ok (.iload 7, 2) := by decide +kernel
theorem dX4_gain_91 : decode cX4_gain 91 = .ok (.invokevirtual 119, 3) := by decide +kernel
theorem dX4_gain_94 : decode cX4_gain 94 = .ok (.ifCond .eq 88, 3) := by decide +kernel
theorem dX4_gain_97 : decode cX4_gain 97 = .ok (.aload_n 0, 1) := by decide +kernel
theorem dX4_gain_98 : decode cX4_gain 98 = .ok (.getfield 7, 3) := by decide +kernel
theorem dX4_gain_101 : decode cX4_gain 101 = .ok (.bipush 13, 2) := by decide +kernel
theorem dX4_gain_103 : decode cX4_gain 103 = .ok (.iload 7, 2) := by decide +kernel
theorem dX4_gain_105 : decode cX4_gain 105 = .ok (.imul, 1) := by decide +kernel
theorem dX4_gain_106 : decode cX4_gain 106 = .ok (.aload_n 0, 1) := by decide +kernel
theorem dX4_gain_107 : decode cX4_gain 107 = .ok (.getfield 7, 3) := by decide +kernel
theorem dX4_gain_110 : decode cX4_gain 110 = .ok (.bipush 13, 2) := by decide +kernel
theorem dX4_gain_112 : decode cX4_gain 112 = .ok (.iload 7, 2) := by decide +kernel
theorem dX4_gain_114 : decode cX4_gain 114 = .ok (.imul, 1) := by decide +kernel
theorem dX4_gain_115 : decode cX4_gain 115 = .ok (.faload, 1) := by decide +kernel
theorem dX4_gain_116 : decode cX4_gain 116 = .ok (.fload_n 3, 1) := by decide +kernel
theorem dX4_gain_117 : decode cX4_gain 117 = .ok (.fadd, 1) := by decide +kernel
theorem dX4_gain_118 : decode cX4_gain 118 = .ok (.fastore, 1) := by decide +kernel
theorem dX4_gain_119 : decode cX4_gain 119 = .ok (.aload_n 0, 1) := by decide +kernel
theorem dX4_gain_120 : decode cX4_gain 120 = .ok (.getfield 7, 3) := by decide +kernel
theorem dX4_gain_123 : decode cX4_gain 123 = .ok (.bipush 13, 2) := by decide +kernel
theorem dX4_gain_125 : decode cX4_gain 125 = .ok (.iload 7, 2) := by decide +kernel
theorem dX4_gain_127 : decode cX4_gain 127 = .ok (.imul, 1) := by decide +kernel
theorem dX4_gain_128 : decode cX4_gain 128 = .ok (.iconst 1, 1) := by decide +kernel
theorem dX4_gain_129 : decode cX4_gain 129 = .ok (.iadd, 1) := by decide +kernel
theorem dX4_gain_130 : decode cX4_gain 130 = .ok (.aload_n 0, 1) := by decide +kernel
theorem dX4_gain_131 : decode cX4_gain 131 = .ok (.getfield 7, 3) := by decide +kernel
theorem dX4_gain_134 : decode cX4_gain 134 = .ok (.bipush 13, 2) := by decide +kernel
theorem dX4_gain_136 : decode cX4_gain 136 = .ok (.iload 7, 2) := by decide +kernel
theorem dX4_gain_138 : decode cX4_gain 138 = .ok (.imul, 1) := by decide +kernel
theorem dX4_gain_139 : decode cX4_gain 139 = .ok (.iconst 1, 1) := by decide +kernel
theorem dX4_gain_140 : decode cX4_gain 140 = .ok (.iadd, 1) := by decide +kernel
theorem dX4_gain_141 : decode cX4_gain 141 = .ok (.faload, 1) := by decide +kernel
theorem dX4_gain_142 : decode cX4_gain 142 = .ok (.fload 4, 2) := by decide +kernel
theorem dX4_gain_144 : decode cX4_gain 144 = .ok (.fadd, 1) := by decide +kernel
theorem dX4_gain_145 : decode cX4_gain 145 = .ok (.fastore, 1) := by decide +kernel
theorem dX4_gain_146 : decode cX4_gain 146 = .ok (.aload_n 0, 1) := by decide +kernel
theorem dX4_gain_147 : decode cX4_gain 147 = .ok (.getfield 7, 3) := by decide +kernel
theorem dX4_gain_150 : decode cX4_gain 150 = .ok (.bipush 13, 2) := by decide +kernel
theorem dX4_gain_152 : decode cX4_gain 152 = .ok (.iload 7, 2) := by decide +kernel
theorem dX4_gain_154 : decode cX4_gain 154 = .ok (.imul, 1) := by decide +kernel
theorem dX4_gain_155 : decode cX4_gain 155 = .ok (.iconst 2, 1) := by decide +kernel
theorem dX4_gain_156 : decode cX4_gain 156 = .ok (.iadd, 1) := by decide +kernel
theorem dX4_gain_157 : decode cX4_gain 157 = .ok (.aload_n 0, 1) := by decide +kernel
theorem dX4_gain_158 : decode cX4_gain 158 = .ok (.getfield 7, 3) := by decide +kernel
theorem dX4_gain_161 : decode cX4_gain 161 = .ok (.bipush 13, 2) := by decide +kernel
theorem dX4_gain_163 : decode cX4_gain 163 = .ok (.iload 7, 2) := by decide +kernel
theorem dX4_gain_165 : decode cX4_gain 165 = .ok (.imul, 1) := by decide +kernel
theorem dX4_gain_166 : decode cX4_gain 166 = .ok (.iconst 2, 1) := by decide +kernel
theorem dX4_gain_167 : decode cX4_gain 167 = .ok (.iadd, 1) := by decide +kernel
theorem dX4_gain_168 : decode cX4_gain 168 = .ok (.faload, 1) := by decide +kernel
theorem dX4_gain_169 : decode cX4_gain 169 = .ok (.fload 5, 2) := by decide +kernel
theorem dX4_gain_171 : decode cX4_gain 171 = .ok (.fadd, 1) := by decide +kernel
theorem dX4_gain_172 : decode cX4_gain 172 = .ok (.fastore, 1) := by decide +kernel
theorem dX4_gain_173 : decode cX4_gain 173 = .ok (.aload_n 0, 1) := by decide +kernel
theorem dX4_gain_174 : decode cX4_gain 174 = .ok (.iload 7, 2) := by decide +kernel
theorem dX4_gain_176 : decode cX4_gain 176 = .ok (.invokevirtual 111, 3) := by decide +kernel
theorem dX4_gain_179 : decode cX4_gain 179 = .ok (.iinc 6 1, 3) := by decide +kernel
theorem dX4_gain_182 : decode cX4_gain 182 = .ok (.iinc 7 1, 3) := by decide +kernel
theorem dX4_gain_185 : decode cX4_gain 185 = .ok (.goto (-103), 3) := by decide +kernel
theorem dX4_gain_188 : decode cX4_gain 188 = .ok (.iload 6, 2) := by decide +kernel
theorem dX4_gain_190 : decode cX4_gain 190 = .ok (.ireturn, 1) := by decide +kernel
set_option maxRecDepth 20000 in
theorem ggX4_wake_X4_known : GoodIn wsX4_wake wsX4_known := goodIn_r _ [6, 7, 18, 19, 20, 21, 22, 23, 24, 25, 26, 27, 28, 29, 30, 31, 32, 33, 34, 35, 36, 37, 38, 39, 40, 41, 42, 43, 44, 45, 46, 47, 48, 49, 50, 51, 52] (by decide +kernel) (by decide +kernel)
set_option maxRecDepth 20000 in
theorem gX4_wake_X4_known : GoodIn wsX4_wake (wsV RX4 105 RX4 yX4_known wsX4_known) := goodIn_app (goodIn_of _ (by decide +kernel)) ggX4_wake_X4_known
set_option maxRecDepth 20000 in
theorem ggX4_wake_X4_goes : GoodIn wsX4_wake wsX4_goes := goodIn_r _ [11, 12, 18, 19, 20, 21, 22, 23, 24, 25, 26, 27, 28, 29, 30, 31, 32, 33, 34, 35, 36, 37, 38, 39, 40, 41, 42, 43, 44, 45, 46, 47, 48, 49, 50, 51, 52] (by decide +kernel) (by decide +kernel)
set_option maxRecDepth 20000 in
theorem gX4_wake_X4_goes : GoodIn wsX4_wake (wsV RX4 101 RX4 yX4_goes wsX4_goes) := goodIn_app (goodIn_of _ (by decide +kernel)) ggX4_wake_X4_goes
set_option maxRecDepth 20000 in
theorem ggX4_wake_X4_rouse : GoodIn wsX4_wake wsX4_rouse := goodIn_r _ [16, 1, 17, 18, 19, 20, 21, 22, 23, 24, 25, 26, 27, 28, 29, 30, 31, 32, 33, 34, 35, 36, 37, 38, 39, 40, 41, 42, 43, 44, 45, 46, 47, 48, 49, 50, 51, 52] (by decide +kernel) (by decide +kernel)
set_option maxRecDepth 20000 in
theorem gX4_wake_X4_rouse : GoodIn wsX4_wake (wsV RX4 111 RX4 yX4_rouse wsX4_rouse) := goodIn_app (goodIn_of _ (by decide +kernel)) ggX4_wake_X4_rouse
theorem dX4_wake_0 : decode cX4_wake 0 = .ok (.aload_n 0, 1) := by decide +kernel
theorem dX4_wake_1 : decode cX4_wake 1 = .ok (.aload_n 0, 1) := by decide +kernel
theorem dX4_wake_2 : decode cX4_wake 2 = .ok (.iload_n 1, 1) := by decide +kernel
theorem dX4_wake_3 : decode cX4_wake 3 = .ok (.invokevirtual 105, 3) := by decide +kernel
theorem dX4_wake_6 : decode cX4_wake 6 = .ok (.iconst 1, 1) := by decide +kernel
theorem dX4_wake_7 : decode cX4_wake 7 = .ok (.iconst 1, 1) := by decide +kernel
theorem dX4_wake_8 : decode cX4_wake 8 = .ok (.invokevirtual 101, 3) := by decide +kernel
theorem dX4_wake_11 : decode cX4_wake 11 = .ok (.ifCond .ne 5, 3) := by decide +kernel
theorem dX4_wake_14 : decode cX4_wake 14 = .ok (.iconst 0, 1) := by decide +kernel
theorem dX4_wake_15 : decode cX4_wake 15 = .ok (.ireturn, 1) := by decide +kernel
theorem dX4_wake_16 : decode cX4_wake 16 = .ok (.aload_n 0, 1) := by decide +kernel
theorem dX4_wake_17 : decode cX4_wake 17 = .ok (.getfield 13, 3) := by decide +kernel
theorem dX4_wake_20 : decode cX4_wake 20 = .ok (.iload_n 1, 1) := by decide +kernel
theorem dX4_wake_21 : decode cX4_wake 21 = .ok (.baload, 1) := by decide +kernel
theorem dX4_wake_22 : decode cX4_wake 22 = .ok (.istore_n 2, 1) := by decide +kernel
theorem dX4_wake_23 : decode cX4_wake 23 = .ok (.aload_n 0, 1) := by decide +kernel
theorem dX4_wake_24 : decode cX4_wake 24 = .ok (.iload_n 1, 1) := by decide +kernel
theorem dX4_wake_25 : decode cX4_wake 25 = .ok (.invokevirtual 111, 3) := by decide +kernel
theorem dX4_wake_28 : decode cX4_wake 28 = .ok (.iload_n 2, 1) := by decide +kernel
theorem dX4_wake_29 : decode cX4_wake 29 = .ok (.ireturn, 1) := by decide +kernel
set_option maxRecDepth 20000 in
theorem ggX4_vector_X4_within : GoodIn wsX4_vector wsX4_within := goodIn_r _ [7] (by decide +kernel) (by decide +kernel)
set_option maxRecDepth 20000 in
theorem gX4_vector_X4_within : GoodIn wsX4_vector (va_wsS RX4 97 yX4_within wsX4_within) := goodIn_app (goodIn_of _ (by decide +kernel)) ggX4_vector_X4_within
set_option maxRecDepth 20000 in
theorem ggX4_vector_X4_goes : GoodIn wsX4_vector wsX4_goes := goodIn_r _ [11, 12, 13, 14, 15, 16, 17, 18, 19, 20, 21, 22, 23, 24, 25, 26, 27, 28, 29, 30, 31, 32, 33, 34, 35, 36, 37, 38, 39, 40, 41, 42, 43, 44, 45, 46, 47] (by decide +kernel) (by decide +kernel)
set_option maxRecDepth 20000 in
theorem gX4_vector_X4_goes : GoodIn wsX4_vector (wsV RX4 101 RX4 yX4_goes wsX4_goes) := goodIn_app (goodIn_of _ (by decide +kernel)) ggX4_vector_X4_goes
theorem dX4_vector_0 : decode cX4_vector 0 = .ok (.aload_n 0, 1) := by decide +kernel
theorem dX4_vector_1 : decode cX4_vector 1 = .ok (.iload_n 1, 1) := by decide +kernel
theorem dX4_vector_2 : decode cX4_vector 2 = .ok (.ifCond .lt 12, 3) := by decide +kernel
theorem dX4_vector_5 : decode cX4_vector 5 = .ok (.iload_n 1, 1) := by decide +kernel
theorem dX4_vector_6 : decode cX4_vector 6 = .ok (.iconst 2, 1) := by decide +kernel
theorem dX4_vector_7 : decode cX4_vector 7 = .ok (.if_icmp .gt 7, 3) := by decide +kernel
theorem dX4_vector_10 : decode cX4_vector 10 = .ok (.iconst 1, 1) := by decide +kernel
theorem dX4_vector_11 : decode cX4_vector 11 = .ok (.goto 4, 3) := by decide +kernel
theorem dX4_vector_14 : decode cX4_vector 14 = .ok (.iconst 0, 1) := by decide +kernel
theorem dX4_vector_15 : decode cX4_vector 15 = .ok (.fload_n 2, 1) := by decide +kernel
theorem dX4_vector_16 : decode cX4_vector 16 = .ok (.ldc 117, 2) := by decide +kernel
theorem dX4_vector_18 : decode cX4_vector 18 = .ok (.ldc 118, 2) := by decide +kernel
theorem dX4_vector_20 : decode cX4_vector 20 = .ok (.invokestatic 97, 3) := by decide +kernel
theorem dX4_vector_23 : decode cX4_vector 23 = .ok (.ifCond .eq 30, 3) := by decide +kernel
theorem dX4_vector_26 : decode cX4_vector 26 = .ok (.fload_n 3, 1) := by decide +kernel
theorem dX4_vector_27 : decode cX4_vector 27 = .ok (.ldc 117, 2) := by decide +kernel
theorem dX4_vector_29 : decode cX4_vector 29 = .ok (.ldc 118, 2) := by decide +kernel
theorem dX4_vector_31 : decode cX4_vector 31 = .ok (.invokestatic 97, 3) := by decide +kernel
theorem dX4_vector_34 : decode cX4_vector 34 = .ok (.ifCond .eq 19, 3) := by decide +kernel
theorem dX4_vector_37 : decode cX4_vector 37 = .ok (.fload 4, 2) := by decide +kernel
theorem dX4_vector_39 : decode cX4_vector 39 = .ok (.ldc 117, 2) := by decide +kernel
theorem dX4_vector_41 : decode cX4_vector 41 = .ok (.ldc 118, 2) := by decide +kernel
theorem dX4_vector_43 : decode cX4_vector 43 = .ok (.invokestatic 97, 3) := by decide +kernel
theorem dX4_vector_46 : decode cX4_vector 46 = .ok (.ifCond .eq 7, 3) := by decide +kernel
theorem dX4_vector_49 : decode cX4_vector 49 = .ok (.iconst 1, 1) := by decide +kernel
theorem dX4_vector_50 : decode cX4_vector 50 = .ok (.goto 4, 3) := by decide +kernel
theorem dX4_vector_53 : decode cX4_vector 53 = .ok (.iconst 0, 1) := by decide +kernel
theorem dX4_vector_54 : decode cX4_vector 54 = .ok (.iconst 1, 1) := by decide +kernel
theorem dX4_vector_55 : decode cX4_vector 55 = .ok (.invokevirtual 101, 3) := by decide +kernel
theorem dX4_vector_58 : decode cX4_vector 58 = .ok (.ifCond .eq 35, 3) := by decide +kernel
theorem dX4_vector_61 : decode cX4_vector 61 = .ok (.aload_n 0, 1) := by decide +kernel
theorem dX4_vector_62 : decode cX4_vector 62 = .ok (.getfield 21, 3) := by decide +kernel
theorem dX4_vector_65 : decode cX4_vector 65 = .ok (.iconst 3, 1) := by decide +kernel
theorem dX4_vector_66 : decode cX4_vector 66 = .ok (.iload_n 1, 1) := by decide +kernel
theorem dX4_vector_67 : decode cX4_vector 67 = .ok (.imul, 1) := by decide +kernel
theorem dX4_vector_68 : decode cX4_vector 68 = .ok (.fload_n 2, 1) := by decide +kernel
theorem dX4_vector_69 : decode cX4_vector 69 = .ok (.fastore, 1) := by decide +kernel
theorem dX4_vector_70 : decode cX4_vector 70 = .ok (.aload_n 0, 1) := by decide +kernel
theorem dX4_vector_71 : decode cX4_vector 71 = .ok (.getfield 21, 3) := by decide +kernel
theorem dX4_vector_74 : decode cX4_vector 74 = .ok (.iconst 3, 1) := by decide +kernel
theorem dX4_vector_75 : decode cX4_vector 75 = .ok (.iload_n 1, 1) := by decide +kernel
theorem dX4_vector_76 : decode cX4_vector 76 = .ok (.imul, 1) := by decide +kernel
theorem dX4_vector_77 : decode cX4_vector 77 = .ok (.iconst 1, 1) := by decide +kernel
theorem dX4_vector_78 : decode cX4_vector 78 = .ok (.iadd, 1) := by decide +kernel
theorem dX4_vector_79 : decode cX4_vector 79 = .ok (.fload_n 3, 1) := by decide +kernel
theorem dX4_vector_80 : decode cX4_vector 80 = .ok (.fastore, 1) := by decide +kernel
theorem dX4_vector_81 : decode cX4_vector 81 = .ok (.aload_n 0, 1) := by decide +kernel
theorem dX4_vector_82 : decode cX4_vector 82 = .ok (.getfield 21, 3) := by decide +kernel
theorem dX4_vector_85 : decode cX4_vector 85 = .ok (.iconst 3, 1) := by decide +kernel
theorem dX4_vector_86 : decode cX4_vector 86 = .ok (.iload_n 1, 1) := by decide +kernel
theorem dX4_vector_87 : decode cX4_vector 87 = .ok (.imul, 1) := by decide +kernel
theorem dX4_vector_88 : decode cX4_vector 88 = .ok (.iconst 2, 1) := by decide +kernel
theorem dX4_vector_89 : decode cX4_vector 89 = .ok (.iadd, 1) := by decide +kernel
theorem dX4_vector_90 : decode cX4_vector 90 = .ok (.fload 4, 2) := by decide +kernel
theorem dX4_vector_92 : decode cX4_vector 92 = .ok (.fastore, 1) := by decide +kernel
theorem dX4_vector_93 : decode cX4_vector 93 = .ok (.return_, 1) := by decide +kernel
theorem dX4_keptOf_0 : decode cX4_keptOf 0 = .ok (.iconst 0, 1) := by decide +kernel
theorem dX4_keptOf_1 : decode cX4_keptOf 1 = .ok (.istore_n 2, 1) := by decide +kernel
theorem dX4_keptOf_2 : decode cX4_keptOf 2 = .ok (.iload_n 2, 1) := by decide +kernel
theorem dX4_keptOf_3 : decode cX4_keptOf 3 = .ok (.aload_n 0, 1) := by decide +kernel
theorem dX4_keptOf_4 : decode cX4_keptOf 4 = .ok (.getfield 122, 3) := by decide +kernel
theorem dX4_keptOf_7 : decode cX4_keptOf 7 = .ok (.if_icmp .ge 30, 3) := by decide +kernel
theorem dX4_keptOf_10 : decode cX4_keptOf 10 = .ok (.iload_n 1, 1) := by decide +kernel
theorem dX4_keptOf_11 : decode cX4_keptOf 11 = .ok (.ifCond .lt 26, 3) := by decide +kernel
theorem dX4_keptOf_14 : decode cX4_keptOf 14 = .ok (.aload_n 0, 1) := by decide +kernel
theorem dX4_keptOf_15 : decode cX4_keptOf 15 = .ok (.getfield 60, 3) := by decide +kernel
theorem dX4_keptOf_18 : decode cX4_keptOf 18 = .ok (.iload_n 2, 1) := by decide +kernel
theorem dX4_keptOf_19 : decode cX4_keptOf 19 = .ok (.iaload, 1) := by decide +kernel
theorem dX4_keptOf_20 : decode cX4_keptOf 20 = .ok (.iload_n 1, 1) := by decide +kernel
theorem dX4_keptOf_21 : decode cX4_keptOf 21 = .ok (.if_icmp .ne 10, 3) := by decide +kernel
theorem dX4_keptOf_24 : decode cX4_keptOf 24 = .ok (.aload_n 0, 1) := by decide +kernel
theorem dX4_keptOf_25 : decode cX4_keptOf 25 = .ok (.getfield 63, 3) := by decide +kernel
theorem dX4_keptOf_28 : decode cX4_keptOf 28 = .ok (.iload_n 2, 1) := by decide +kernel
theorem dX4_keptOf_29 : decode cX4_keptOf 29 = .ok (.faload, 1) := by decide +kernel
theorem dX4_keptOf_30 : decode cX4_keptOf 30 = .ok (.freturn, 1) := by decide +kernel
theorem dX4_keptOf_31 : decode cX4_keptOf 31 = .ok (.iinc 2 1, 3) := by decide +kernel
theorem dX4_keptOf_34 : decode cX4_keptOf 34 = .ok (.goto (-32), 3) := by decide +kernel
theorem dX4_keptOf_37 : decode cX4_keptOf 37 = .ok (.fconst 0, 1) := by decide +kernel
theorem dX4_keptOf_38 : decode cX4_keptOf 38 = .ok (.freturn, 1) := by decide +kernel
theorem dX4_held_0 : decode cX4_held 0 = .ok (.fload_n 0, 1) := by decide +kernel
theorem dX4_held_1 : decode cX4_held 1 = .ok (.fload_n 1, 1) := by decide +kernel
theorem dX4_held_2 : decode cX4_held 2 = .ok (.fcmp .g, 1) := by decide +kernel
theorem dX4_held_3 : decode cX4_held 3 = .ok (.ifCond .ge 7, 3) := by decide +kernel
theorem dX4_held_6 : decode cX4_held 6 = .ok (.fload_n 1, 1) := by decide +kernel
theorem dX4_held_7 : decode cX4_held 7 = .ok (.goto 14, 3) := by decide +kernel
theorem dX4_held_10 : decode cX4_held 10 = .ok (.fload_n 0, 1) := by decide +kernel
theorem dX4_held_11 : decode cX4_held 11 = .ok (.fload_n 2, 1) := by decide +kernel
theorem dX4_held_12 : decode cX4_held 12 = .ok (.fcmp .l, 1) := by decide +kernel
theorem dX4_held_13 : decode cX4_held 13 = .ok (.ifCond .le 7, 3) := by decide +kernel
theorem dX4_held_16 : decode cX4_held 16 = .ok (.fload_n 2, 1) := by decide +kernel
theorem dX4_held_17 : decode cX4_held 17 = .ok (.goto 4, 3) := by decide +kernel
theorem dX4_held_20 : decode cX4_held 20 = .ok (.fload_n 0, 1) := by decide +kernel
theorem dX4_held_21 : decode cX4_held 21 = .ok (.freturn, 1) := by decide +kernel
set_option maxRecDepth 20000 in
theorem ggX4_limited_X4_held : GoodIn wsX4_limited wsX4_held := goodIn_r _ [9] (by decide +kernel) (by decide +kernel)
set_option maxRecDepth 20000 in
theorem gX4_limited_X4_held : GoodIn wsX4_limited (va_wsS RX4 125 yX4_held wsX4_held) := goodIn_app (goodIn_of _ (by decide +kernel)) ggX4_limited_X4_held
theorem dX4_limited_0 : decode cX4_limited 0 = .ok (.aload_n 0, 1) := by decide +kernel
theorem dX4_limited_1 : decode cX4_limited 1 = .ok (.getfield 48, 3) := by decide +kernel
theorem dX4_limited_4 : decode cX4_limited 4 = .ok (.iload_n 1, 1) := by decide +kernel
theorem dX4_limited_5 : decode cX4_limited 5 = .ok (.iaload, 1) := by decide +kernel
theorem dX4_limited_6 : decode cX4_limited 6 = .ok (.ifCond .ge 20, 3) := by decide +kernel
theorem dX4_limited_9 : decode cX4_limited 9 = .ok (.fload_n 2, 1) := by decide +kernel
theorem dX4_limited_10 : decode cX4_limited 10 = .ok (.aload_n 0, 1) := by decide +kernel
theorem dX4_limited_11 : decode cX4_limited 11 = .ok (.getfield 39, 3) := by decide +kernel
theorem dX4_limited_14 : decode cX4_limited 14 = .ok (.iload_n 1, 1) := by decide +kernel
theorem dX4_limited_15 : decode cX4_limited 15 = .ok (.faload, 1) := by decide +kernel
theorem dX4_limited_16 : decode cX4_limited 16 = .ok (.aload_n 0, 1) := by decide +kernel
theorem dX4_limited_17 : decode cX4_limited 17 = .ok (.getfield 42, 3) := by decide +kernel
theorem dX4_limited_20 : decode cX4_limited 20 = .ok (.iload_n 1, 1) := by decide +kernel
theorem dX4_limited_21 : decode cX4_limited 21 = .ok (.faload, 1) := by decide +kernel
theorem dX4_limited_22 : decode cX4_limited 22 = .ok (.invokestatic 125, 3) := by decide +kernel
theorem dX4_limited_25 : decode cX4_limited 25 = .ok (.freturn, 1) := by decide +kernel
theorem dX4_limited_26 : decode cX4_limited 26 = .ok (.aload_n 0, 1) := by decide +kernel
theorem dX4_limited_27 : decode cX4_limited 27 = .ok (.getfield 45, 3) := by decide +kernel
theorem dX4_limited_30 : decode cX4_limited 30 = .ok (.iload_n 1, 1) := by decide +kernel
theorem dX4_limited_31 : decode cX4_limited 31 = .ok (.faload, 1) := by decide +kernel
theorem dX4_limited_32 : decode cX4_limited 32 = .ok (.aload_n 0, 1) := by decide +kernel
theorem dX4_limited_33 : decode cX4_limited 33 = .ok (.getfield 54, 3) := by decide +kernel
theorem dX4_limited_36 : decode cX4_limited 36 = .ok (.aload_n 0, 1) := by decide +kernel
theorem dX4_limited_37 : decode cX4_limited 37 = .ok (.getfield 48, 3) := by decide +kernel
theorem dX4_limited_40 : decode cX4_limited 40 = .ok (.iload_n 1, 1) := by decide +kernel
theorem dX4_limited_41 : decode cX4_limited 41 = .ok (.iaload, 1) := by decide +kernel
theorem dX4_limited_42 : decode cX4_limited 42 = .ok (.faload, 1) := by decide +kernel
theorem dX4_limited_43 : decode cX4_limited 43 = .ok (.fmul, 1) := by decide +kernel
theorem dX4_limited_44 : decode cX4_limited 44 = .ok (.fstore_n 3, 1) := by decide +kernel
theorem dX4_limited_45 : decode cX4_limited 45 = .ok (.fload_n 3, 1) := by decide +kernel
theorem dX4_limited_46 : decode cX4_limited 46 = .ok (.fconst 0, 1) := by decide +kernel
theorem dX4_limited_47 : decode cX4_limited 47 = .ok (.fcmp .g, 1) := by decide +kernel
theorem dX4_limited_48 : decode cX4_limited 48 = .ok (.ifCond .ge 7, 3) := by decide +kernel
theorem dX4_limited_51 : decode cX4_limited 51 = .ok (.fconst 0, 1) := by decide +kernel
theorem dX4_limited_52 : decode cX4_limited 52 = .ok (.goto 4, 3) := by decide +kernel
theorem dX4_limited_55 : decode cX4_limited 55 = .ok (.fload_n 3, 1) := by decide +kernel
theorem dX4_limited_56 : decode cX4_limited 56 = .ok (.fstore_n 3, 1) := by decide +kernel
theorem dX4_limited_57 : decode cX4_limited 57 = .ok (.fload_n 2, 1) := by decide +kernel
theorem dX4_limited_58 : decode cX4_limited 58 = .ok (.fconst 0, 1) := by decide +kernel
theorem dX4_limited_59 : decode cX4_limited 59 = .ok (.fload_n 3, 1) := by decide +kernel
theorem dX4_limited_60 : decode cX4_limited 60 = .ok (.fsub, 1) := by decide +kernel
theorem dX4_limited_61 : decode cX4_limited 61 = .ok (.fload_n 3, 1) := by decide +kernel
theorem dX4_limited_62 : decode cX4_limited 62 = .ok (.invokestatic 125, 3) := by decide +kernel
theorem dX4_limited_65 : decode cX4_limited 65 = .ok (.freturn, 1) := by decide +kernel
set_option maxRecDepth 20000 in
theorem ggX4_make_X4_keptOf : GoodIn wsX4_make wsX4_keptOf := goodIn_r _ [13, 14, 15, 16, 28, 29, 30, 31, 32, 33, 34, 35, 36, 37, 38, 39, 40, 41, 42, 43, 44, 45, 46, 47, 48, 49, 50, 51, 52, 53, 54, 55, 56, 57, 58, 59, 60, 61, 62] (by decide +kernel) (by decide +kernel)
set_option maxRecDepth 20000 in
theorem gX4_make_X4_keptOf : GoodIn wsX4_make (wsV RX4 132 RX4 yX4_keptOf wsX4_keptOf) := goodIn_app (goodIn_of _ (by decide +kernel)) ggX4_make_X4_keptOf
set_option maxRecDepth 20000 in
theorem ggX4_make_X4_limited : GoodIn wsX4_make wsX4_limited := goodIn_r _ [20, 21, 22, 23, 24, 8, 25, 26, 12, 27, 28, 29, 30, 31, 32, 33, 34, 35, 36, 37, 38, 39, 40, 41, 42, 43, 44, 45, 46, 47, 48, 49, 50, 51, 52, 53, 54, 55, 56, 57, 58, 59, 60, 61, 62] (by decide +kernel) (by decide +kernel)
set_option maxRecDepth 20000 in
theorem gX4_make_X4_limited : GoodIn wsX4_make (wsV RX4 136 RX4 yX4_limited wsX4_limited) := goodIn_app (goodIn_of _ (by decide +kernel)) ggX4_make_X4_limited
theorem dX4_make_0 : decode cX4_make 0 = .ok (.aload_n 0, 1) := by decide +kernel
theorem dX4_make_1 : decode cX4_make 1 = .ok (.getfield 129, 3) := by decide +kernel
theorem dX4_make_4 : decode cX4_make 4 = .ok (.istore 5, 2) := by decide +kernel
theorem dX4_make_6 : decode cX4_make 6 = .ok (.aload_n 0, 1) := by decide +kernel
theorem dX4_make_7 : decode cX4_make 7 = .ok (.getfield 24, 3) := by decide +kernel
theorem dX4_make_10 : decode cX4_make 10 = .ok (.iload 5, 2) := by decide +kernel
theorem dX4_make_12 : decode cX4_make 12 = .ok (.iload_n 1, 1) := by decide +kernel
theorem dX4_make_13 : decode cX4_make 13 = .ok (.iastore, 1) := by decide +kernel
theorem dX4_make_14 : decode cX4_make 14 = .ok (.aload_n 0, 1) := by decide +kernel
theorem dX4_make_15 : decode cX4_make 15 = .ok (.getfield 27, 3) := by decide +kernel
theorem dX4_make_18 : decode cX4_make 18 = .ok (.iload 5, 2) := by decide +kernel
theorem dX4_make_20 : decode cX4_make 20 = .ok (.iload_n 2, 1) := by decide +kernel
theorem dX4_make_21 : decode cX4_make 21 = .ok (.iastore, 1) := by decide +kernel
theorem dX4_make_22 : decode cX4_make 22 = .ok (.aload_n 0, 1) := by decide +kernel
theorem dX4_make_23 : decode cX4_make 23 = .ok (.getfield 33, 3) := by decide +kernel
theorem dX4_make_26 : decode cX4_make 26 = .ok (.iload 5, 2) := by decide +kernel
theorem dX4_make_28 : decode cX4_make 28 = .ok (.fload_n 3, 1) := by decide +kernel
theorem dX4_make_29 : decode cX4_make 29 = .ok (.fastore, 1) := by decide +kernel
theorem dX4_make_30 : decode cX4_make 30 = .ok (.aload_n 0, 1) := by decide +kernel
theorem dX4_make_31 : decode cX4_make 31 = .ok (.getfield 51, 3) := by decide +kernel
theorem dX4_make_34 : decode cX4_make 34 = .ok (.iload 5, 2) := by decide +kernel
theorem dX4_make_36 : decode cX4_make 36 = .ok (.iload 4, 2) := by decide +kernel
theorem dX4_make_38 : decode cX4_make 38 = .ok (.iastore, 1) := by decide +kernel
theorem dX4_make_39 : decode cX4_make 39 = .ok (.iconst 0, 1) := by decide +kernel
theorem dX4_make_40 : decode cX4_make 40 = .ok (.istore 6, 2) := by decide +kernel
theorem dX4_make_42 : decode cX4_make 42 = .ok (.iload 6, 2) := by decide +kernel
theorem dX4_make_44 : decode cX4_make 44 = .ok (.bipush 9, 2) := by decide +kernel
theorem dX4_make_46 : decode cX4_make 46 = .ok (.if_icmp .ge 29, 3) := by decide +kernel
theorem dX4_make_49 : decode cX4_make 49 = .ok (.aload_n 0, 1) := by decide +kernel
theorem dX4_make_50 : decode cX4_make 50 = .ok (.getfield 30, 3) := by decide +kernel
theorem dX4_make_53 : decode cX4_make 53 = .ok (.bipush 9, 2) := by decide +kernel
theorem dX4_make_55 : decode cX4_make 55 = .ok (.iload 5, 2) := by decide +kernel
theorem dX4_make_57 : decode cX4_make 57 = .ok (.imul, 1) := by decide +kernel
theorem dX4_make_58 : decode cX4_make 58 = .ok (.iload 6, 2) := by decide +kernel
theorem dX4_make_60 : decode cX4_make 60 = .ok (.iadd, 1) := by decide +kernel
theorem dX4_make_61 : decode cX4_make 61 = .ok (.aload_n 0, 1) := by decide +kernel
theorem dX4_make_62 : decode cX4_make 62 = .ok (.getfield 21, 3) := by decide +kernel
theorem dX4_make_65 : decode cX4_make 65 = .ok (.iload 6, 2) := by decide +kernel
theorem dX4_make_67 : decode cX4_make 67 = .ok (.faload, 1) := by decide +kernel
theorem dX4_make_68 : decode cX4_make 68 = .ok (.fastore, 1) := by decide +kernel
theorem dX4_make_69 : decode cX4_make 69 = .ok (.iinc 6 1, 3) := by decide +kernel
theorem dX4_make_72 : decode cX4_make 72 = .ok (.goto (-30), 3) := by decide +kernel
theorem dX4_make_75 : decode cX4_make 75 = .ok (.aload_n 0, 1) := by decide +kernel
theorem dX4_make_76 : decode cX4_make 76 = .ok (.dup, 1) := by decide +kernel
theorem dX4_make_77 : decode cX4_make 77 = .ok (.getfield 129, 3) := by decide +kernel
theorem dX4_make_80 : decode cX4_make 80 = .ok (.iconst 1, 1) := by decide +kernel
theorem dX4_make_81 : decode cX4_make 81 = .ok (.iadd, 1) := by decide +kernel
theorem dX4_make_82 : decode cX4_make 82 = .ok (.putfield 129, 3) := by decide +kernel
theorem dX4_make_85 : decode cX4_make 85 = .ok (.aload_n 0, 1) := by decide +kernel
theorem dX4_make_86 : decode cX4_make 86 = .ok (.getfield 54, 3) := by decide +kernel
theorem dX4_make_89 : decode cX4_make 89 = .ok (.iload 5, 2) := by decide +kernel
theorem dX4_make_91 : decode cX4_make 91 = .ok (.aload_n 0, 1) := by decide +kernel
theorem dX4_make_92 : decode cX4_make 92 = .ok (.iload 5, 2) := by decide +kernel
theorem dX4_make_94 : decode cX4_make 94 = .ok (.aload_n 0, 1) := by decide +kernel
theorem dX4_make_95 : decode cX4_make 95 = .ok (.iload 4, 2) := by decide +kernel
theorem dX4_make_97 : decode cX4_make 97 = .ok (.invokevirtual 132, 3) := by decide +kernel
theorem dX4_make_100 : decode cX4_make 100 = .ok (.invokevirtual 136, 3) := by decide +kernel
theorem dX4_make_103 : decode cX4_make 103 = .ok (.fastore, 1) := by decide +kernel
theorem dX4_make_104 : decode cX4_make 104 = .ok (.iload 5, 2) := by decide +kernel
theorem dX4_make_106 : decode cX4_make 106 = .ok (.ireturn, 1) := by decide +kernel
set_option maxRecDepth 20000 in
theorem ggX4_pair_X4_known : GoodIn wsX4_pair wsX4_known := goodIn_r _ [5, 6, 7, 8, 9, 10, 11, 12, 13, 14, 15, 16, 17, 18, 19, 20, 21, 22, 23, 24, 25, 26, 27, 28, 29, 30, 31, 32, 33, 34, 35, 36, 37, 38, 39, 40, 41] (by decide +kernel) (by decide +kernel)
set_option maxRecDepth 20000 in
theorem gX4_pair_X4_known : GoodIn wsX4_pair (wsV RX4 105 RX4 yX4_known wsX4_known) := goodIn_app (goodIn_of _ (by decide +kernel)) ggX4_pair_X4_known
theorem dX4_pair_0 : decode cX4_pair 0 = .ok (.aload_n 0, 1) := by decide +kernel
theorem dX4_pair_1 : decode cX4_pair 1 = .ok (.iload_n 1, 1) := by decide +kernel
theorem dX4_pair_2 : decode cX4_pair 2 = .ok (.invokevirtual 105, 3) := by decide +kernel
theorem dX4_pair_5 : decode cX4_pair 5 = .ok (.ifCond .eq 25, 3) := by decide +kernel
theorem dX4_pair_8 : decode cX4_pair 8 = .ok (.iload_n 2, 1) := by decide +kernel
theorem dX4_pair_9 : decode cX4_pair 9 = .ok (.iconst (-1), 1) := by decide +kernel
theorem dX4_pair_10 : decode cX4_pair 10 = .ok (.if_icmp .eq 11, 3) := by decide +kernel
theorem dX4_pair_13 : decode cX4_pair 13 = .ok (.aload_n 0, 1) := by decide +kernel
theorem dX4_pair_14 : decode cX4_pair 14 = .ok (.iload_n 2, 1) := by decide +kernel
theorem dX4_pair_15 : decode cX4_pair 15 = .ok (.invokevirtual 105, 3) := by decide +kernel
theorem dX4_pair_18 : decode cX4_pair 18 = .ok (.ifCond .eq 12, 3) := by decide +kernel
theorem dX4_pair_21 : decode cX4_pair 21 = .ok (.iload_n 1, 1) := by decide +kernel
theorem dX4_pair_22 : decode cX4_pair 22 = .ok (.iload_n 2, 1) := by decide +kernel
theorem dX4_pair_23 : decode cX4_pair 23 = .ok (.if_icmp .eq 7, 3) := by decide +kernel
theorem dX4_pair_26 : decode cX4_pair 26 = .ok (.iconst 1, 1) := by decide +kernel
theorem dX4_pair_27 : decode cX4_pair 27 = .ok (.goto 4, 3) := by decide +kernel
theorem dX4_pair_30 : decode cX4_pair 30 = .ok (.iconst 0, 1) := by decide +kernel
theorem dX4_pair_31 : decode cX4_pair 31 = .ok (.ireturn, 1) := by decide +kernel
set_option maxRecDepth 20000 in
theorem ggX4_row_X4_within : GoodIn wsX4_row wsX4_within := goodIn_r _ [15] (by decide +kernel) (by decide +kernel)
set_option maxRecDepth 20000 in
theorem gX4_row_X4_within : GoodIn wsX4_row (va_wsS RX4 97 yX4_within wsX4_within) := goodIn_app (goodIn_of _ (by decide +kernel)) ggX4_row_X4_within
set_option maxRecDepth 20000 in
theorem ggX4_row_X4_pair : GoodIn wsX4_row wsX4_pair := goodIn_r _ [19, 20, 21, 22, 14, 23, 24, 55, 56, 57, 58, 59, 60, 61, 62, 63, 64, 65, 66, 67, 68, 69, 70, 71, 72, 73, 74, 75, 76, 77, 78, 79, 80, 81, 82, 83, 84, 85, 86, 87, 88, 89] (by decide +kernel) (by decide +kernel)
set_option maxRecDepth 20000 in
theorem gX4_row_X4_pair : GoodIn wsX4_row (wsV RX4 142 RX4 yX4_pair wsX4_pair) := goodIn_app (goodIn_of _ (by decide +kernel)) ggX4_row_X4_pair
set_option maxRecDepth 20000 in
theorem ggX4_row_X4_goes : GoodIn wsX4_row wsX4_goes := goodIn_r _ [28, 29, 55, 56, 57, 58, 59, 60, 61, 62, 63, 64, 65, 66, 67, 68, 69, 70, 71, 72, 73, 74, 75, 76, 77, 78, 79, 80, 81, 82, 83, 84, 85, 86, 87, 88, 89] (by decide +kernel) (by decide +kernel)
set_option maxRecDepth 20000 in
theorem gX4_row_X4_goes : GoodIn wsX4_row (wsV RX4 101 RX4 yX4_goes wsX4_goes) := goodIn_app (goodIn_of _ (by decide +kernel)) ggX4_row_X4_goes
set_option maxRecDepth 20000 in
theorem ggX4_row_X4_make : GoodIn wsX4_row wsX4_make := goodIn_r _ [33, 6, 34, 35, 36, 37, 38, 39, 40, 41, 42, 43, 14, 44, 45, 46, 47, 48, 49, 50, 51, 11, 8, 9, 10, 52, 53, 54, 55, 56, 57, 58, 59, 60, 61, 62, 63, 64, 65, 66, 67, 68, 69, 70, 71, 72, 73, 74, 75, 76, 77, 78, 79, 80, 81, 82, 83, 84, 85, 86, 87, 88, 89] (by decide +kernel) (by decide +kernel)
set_option maxRecDepth 20000 in
theorem gX4_row_X4_make : GoodIn wsX4_row (wsV RX4 146 RX4 yX4_make wsX4_make) := goodIn_app (goodIn_of _ (by decide +kernel)) ggX4_row_X4_make
theorem dX4_row_0 : decode cX4_row 0 = .ok (.fload_n 3, 1) := by decide +kernel
theorem dX4_row_1 : decode cX4_row 1 = .ok (.ldc 115, 2) := by decide +kernel
theorem dX4_row_3 : decode cX4_row 3 = .ok (.ldc 116, 2) := by decide +kernel
theorem dX4_row_5 : decode cX4_row 5 = .ok (.invokestatic 97, 3) := by decide +kernel
theorem dX4_row_8 : decode cX4_row 8 = .ok (.ifCond .eq 50, 3) := by decide +kernel
theorem dX4_row_11 : decode cX4_row 11 = .ok (.fload 4, 2) := by decide +kernel
theorem dX4_row_13 : decode cX4_row 13 = .ok (.fconst 0, 1) := by decide +kernel
theorem dX4_row_14 : decode cX4_row 14 = .ok (.ldc 118, 2) := by decide +kernel
theorem dX4_row_16 : decode cX4_row 16 = .ok (.invokestatic 97, 3) := by decide +kernel
theorem dX4_row_19 : decode cX4_row 19 = .ok (.ifCond .eq 39, 3) := by decide +kernel
theorem dX4_row_22 : decode cX4_row 22 = .ok (.fload 5, 2) := by decide +kernel
theorem dX4_row_24 : decode cX4_row 24 = .ok (.ldc 140, 2) := by decide +kernel
theorem dX4_row_26 : decode cX4_row 26 = .ok (.ldc 141, 2) := by decide +kernel
theorem dX4_row_28 : decode cX4_row 28 = .ok (.invokestatic 97, 3) := by decide +kernel
theorem dX4_row_31 : decode cX4_row 31 = .ok (.ifCond .eq 27, 3) := by decide +kernel
theorem dX4_row_34 : decode cX4_row 34 = .ok (.fload 6, 2) := by decide +kernel
theorem dX4_row_36 : decode cX4_row 36 = .ok (.ldc 140, 2) := by decide +kernel
theorem dX4_row_38 : decode cX4_row 38 = .ok (.ldc 141, 2) := by decide +kernel
theorem dX4_row_40 : decode cX4_row 40 = .ok (.invokestatic 97, 3) := by decide +kernel
theorem dX4_row_43 : decode cX4_row 43 = .ok (.ifCond .eq 15, 3) := by decide +kernel
theorem dX4_row_46 : decode cX4_row 46 = .ok (.fload 5, 2) := by decide +kernel
theorem dX4_row_48 : decode cX4_row 48 = .ok (.fload 6, 2) := by decide +kernel
theorem dX4_row_50 : decode cX4_row 50 = .ok (.fcmp .g, 1) := by decide +kernel
theorem dX4_row_51 : decode cX4_row 51 = .ok (.ifCond .gt 7, 3) := by decide +kernel
theorem dX4_row_54 : decode cX4_row 54 = .ok (.iconst 1, 1) := by decide +kernel
theorem dX4_row_55 : decode cX4_row 55 = .ok (.goto 4, 3) := by decide +kernel
theorem dX4_row_58 : decode cX4_row 58 = .ok (.iconst 0, 1) := by decide +kernel
theorem dX4_row_59 : decode cX4_row 59 = .ok (.istore 8, 2) := by decide +kernel
theorem dX4_row_61 : decode cX4_row 61 = .ok (.aload_n 0, 1) := by decide +kernel
theorem dX4_row_62 : decode cX4_row 62 = .ok (.aload_n 0, 1) := by decide +kernel
theorem dX4_row_63 : decode cX4_row 63 = .ok (.iload_n 1, 1) := by decide +kernel
theorem dX4_row_64 : decode cX4_row 64 = .ok (.iload_n 2, 1) := by decide +kernel
theorem dX4_row_65 : decode cX4_row 65 = .ok (.invokevirtual 142, 3) := by decide +kernel
theorem dX4_row_68 : decode cX4_row 68 = .ok (.iload 8, 2) := by decide +kernel
theorem dX4_row_70 : decode cX4_row 70 = .ok (.aload_n 0, 1) := by decide +kernel
theorem dX4_row_71 : decode cX4_row 71 = .ok (.getfield 129, 3) := by decide +kernel
theorem dX4_row_74 : decode cX4_row 74 = .ok (.sipush 1024, 3) := by decide +kernel
theorem dX4_row_77 : decode cX4_row 77 = .ok (.if_icmp .ge 7, 3) := by decide +kernel
theorem dX4_row_80 : decode cX4_row 80 = .ok (.iconst 1, 1) := by decide +kernel
theorem dX4_row_81 : decode cX4_row 81 = .ok (.goto 4, 3) := by decide +kernel
theorem dX4_row_84 : decode cX4_row 84 = .ok (.iconst 0, 1) := by decide +kernel
theorem dX4_row_85 : decode cX4_row 85 = .ok (.invokevirtual 101, 3) := by decide +kernel
theorem dX4_row_88 : decode cX4_row 88 = .ok (.ifCond .ne 5, 3) := by decide +kernel
theorem dX4_row_91 : decode cX4_row 91 = .ok (.iconst 0, 1) := by decide +kernel
theorem dX4_row_92 : decode cX4_row 92 = .ok (.ireturn, 1) := by decide +kernel
theorem dX4_row_93 : decode cX4_row 93 = .ok (.aload_n 0, 1) := by decide +kernel
theorem dX4_row_94 : decode cX4_row 94 = .ok (.getfield 36, 3) := by decide +kernel
theorem dX4_row_97 : decode cX4_row 97 = .ok (.aload_n 0, 1) := by decide +kernel
theorem dX4_row_98 : decode cX4_row 98 = .ok (.getfield 129, 3) := by decide +kernel
theorem dX4_row_101 : decode cX4_row 101 = .ok (.fload 4, 2) := by decide +kernel
theorem dX4_row_103 : decode cX4_row 103 = .ok (.fastore, 1) := by decide +kernel
theorem dX4_row_104 : decode cX4_row 104 = .ok (.aload_n 0, 1) := by decide +kernel
theorem dX4_row_105 : decode cX4_row 105 = .ok (.getfield 39, 3) := by decide +kernel
theorem dX4_row_108 : decode cX4_row 108 = .ok (.aload_n 0, 1) := by decide +kernel
theorem dX4_row_109 : decode cX4_row 109 = .ok (.getfield 129, 3) := by decide +kernel
theorem dX4_row_112 : decode cX4_row 112 = .ok (.fload 5, 2) := by decide +kernel
theorem dX4_row_114 : decode cX4_row 114 = .ok (.fastore, 1) := by decide +kernel
theorem dX4_row_115 : decode cX4_row 115 = .ok (.aload_n 0, 1) := by decide +kernel
theorem dX4_row_116 : decode cX4_row 116 = .ok (.getfield 42, 3) := by decide +kernel
theorem dX4_row_119 : decode cX4_row 119 = .ok (.aload_n 0, 1) := by decide +kernel
theorem dX4_row_120 : decode cX4_row 120 = .ok (.getfield 129, 3) := by decide +kernel
theorem dX4_row_123 : decode cX4_row 123 = .ok (.fload 6, 2) := by decide +kernel
theorem dX4_row_125 : decode cX4_row 125 = .ok (.fastore, 1) := by decide +kernel
theorem dX4_row_126 : decode cX4_row 126 = .ok (.aload_n 0, 1) := by decide +kernel
theorem dX4_row_127 : decode cX4_row 127 = .ok (.getfield 45, 3) := by decide +kernel
theorem dX4_row_130 : decode cX4_row 130 = .ok (.aload_n 0, 1) := by decide +kernel
theorem dX4_row_131 : decode cX4_row 131 = .ok (.getfield 129, 3) := by decide +kernel
theorem dX4_row_134 : decode cX4_row 134 = .ok (.fconst 0, 1) := by decide +kernel
theorem dX4_row_135 : decode cX4_row 135 = .ok (.fastore, 1) := by decide +kernel
theorem dX4_row_136 : decode cX4_row 136 = .ok (.aload_n 0, 1) := by decide +kernel
theorem dX4_row_137 : decode cX4_row 137 = .ok (.getfield 48, 3) := by decide +kernel
theorem dX4_row_140 : decode cX4_row 140 = .ok (.aload_n 0, 1) := by decide +kernel
theorem dX4_row_141 : decode cX4_row 141 = .ok (.getfield 129, 3) := by decide +kernel
theorem dX4_row_144 : decode cX4_row 144 = .ok (.iconst (-1), 1) := by decide +kernel
theorem dX4_row_145 : decode cX4_row 145 = .ok (.iastore, 1) := by decide +kernel
theorem dX4_row_146 : decode cX4_row 146 = .ok (.aload_n 0, 1) := by decide +kernel
theorem dX4_row_147 : decode cX4_row 147 = .ok (.iload_n 1, 1) := by decide +kernel
theorem dX4_row_148 : decode cX4_row 148 = .ok (.iload_n 2, 1) := by decide +kernel

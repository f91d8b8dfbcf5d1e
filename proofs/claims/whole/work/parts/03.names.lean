theorem dX10_again_56 : decode cX10_again 56 = .ok (.getfield 12, 3) := by decide +kernel
theorem dX10_again_59 : decode cX10_again 59 = .ok (.getfield 99, 3) := by decide +kernel
theorem dX10_again_62 : decode cX10_again 62 = .ok (.getfield 197, 3) := by decide +kernel
theorem dX10_again_65 : decode cX10_again 65 = .ok (.invokevirtual 190, 3) := by decide +kernel
theorem dX10_again_68 : decode cX10_again 68 = .ok (.aload_n 0, 1) := by decide +kernel
theorem dX10_again_69 : decode cX10_again 69 = .ok (.getfield 33, 3) := by decide +kernel
theorem dX10_again_72 : decode cX10_again 72 = .ok (.aload_n 0, 1) := by decide +kernel
theorem dX10_again_73 : decode cX10_again 73 = .ok (.getfield 12, 3) := by decide +kernel
theorem dX10_again_76 : decode cX10_again 76 = .ok (.iload_n 1, 1) := by decide +kernel
theorem dX10_again_77 : decode cX10_again 77 = .ok (.iload_n 2, 1) := by decide +kernel
theorem dX10_again_78 : decode cX10_again 78 = .ok (.invokevirtual 200, 3) := by decide +kernel
theorem dX10_again_81 : decode cX10_again 81 = .ok (.istore_n 3, 1) := by decide +kernel
theorem dX10_again_82 : decode cX10_again 82 = .ok (.aload_n 0, 1) := by decide +kernel
theorem dX10_again_83 : decode cX10_again 83 = .ok (.getfield 33, 3) := by decide +kernel
theorem dX10_again_86 : decode cX10_again 86 = .ok (.getfield 194, 3) := by decide +kernel
theorem dX10_again_89 : decode cX10_again 89 = .ok (.iload_n 1, 1) := by decide +kernel
theorem dX10_again_90 : decode cX10_again 90 = .ok (.invokevirtual 115, 3) := by decide +kernel
theorem dX10_again_93 : decode cX10_again 93 = .ok (.aload_n 0, 1) := by decide +kernel
theorem dX10_again_94 : decode cX10_again 94 = .ok (.getfield 33, 3) := by decide +kernel
theorem dX10_again_97 : decode cX10_again 97 = .ok (.getfield 194, 3) := by decide +kernel
theorem dX10_again_100 : decode cX10_again 100 = .ok (.iload_n 2, 1) := by decide +kernel
theorem dX10_again_101 : decode cX10_again 101 = .ok (.invokevirtual 115, 3) := by decide +kernel
theorem dX10_again_104 : decode cX10_again 104 = .ok (.iadd, 1) := by decide +kernel
theorem dX10_again_105 : decode cX10_again 105 = .ok (.iconst 2, 1) := by decide +kernel
theorem dX10_again_106 : decode cX10_again 106 = .ok (.aload_n 0, 1) := by decide +kernel
theorem dX10_again_107 : decode cX10_again 107 = .ok (.getfield 33, 3) := by decide +kernel
theorem dX10_again_110 : decode cX10_again 110 = .ok (.getfield 194, 3) := by decide +kernel
theorem dX10_again_113 : decode cX10_again 113 = .ok (.iload_n 3, 1) := by decide +kernel
theorem dX10_again_114 : decode cX10_again 114 = .ok (.invokevirtual 115, 3) := by decide +kernel
theorem dX10_again_117 : decode cX10_again 117 = .ok (.imul, 1) := by decide +kernel
theorem dX10_again_118 : decode cX10_again 118 = .ok (.isub, 1) := by decide +kernel
theorem dX10_again_119 : decode cX10_again 119 = .ok (.ireturn, 1) := by decide +kernel
set_option maxRecDepth 20000 in
theorem ggX10_way_X5_holds : GoodIn wsX10_way wsX5_holds := goodIn_r _ [9, 10, 11, 12, 13, 14, 15, 16, 85, 86, 87, 88, 89, 90, 91] (by decide +kernel) (by decide +kernel)
set_option maxRecDepth 20000 in
theorem gX10_way_X5_holds : GoodIn wsX10_way (wsV RX10 108 RX5 yX5_holds wsX5_holds) := goodIn_app (goodIn_of _ (by decide +kernel)) ggX10_way_X5_holds
set_option maxRecDepth 20000 in
theorem ggX10_way_X9_spread : GoodIn wsX10_way wsX9_spread := goodIn_r _ [21, 22, 23, 24, 25, 26, 27, 28, 14, 29, 16, 30, 31, 32, 33, 34, 35, 36, 20, 37, 38, 12, 13, 15, 39, 40, 41, 42, 43, 44, 45, 46, 47, 48, 49, 50, 51, 52, 53, 8, 54, 55, 78, 79, 80, 81, 82, 83, 84, 76, 77, 91, 92, 93, 94, 95, 96, 97, 85, 86, 87, 88, 89, 90] (by decide +kernel) (by decide +kernel)
set_option maxRecDepth 20000 in
theorem gX10_way_X9_spread : GoodIn wsX10_way (wsV RX10 190 RX9 yX9_spread wsX9_spread) := goodIn_app (goodIn_of _ (by decide +kernel)) ggX10_way_X9_spread
set_option maxRecDepth 20000 in
theorem ggX10_way_X4_at : GoodIn wsX10_way wsX4_at := goodIn_r _ [15, 16, 91] (by decide +kernel) (by decide +kernel)
set_option maxRecDepth 20000 in
theorem gX10_way_X4_at : GoodIn wsX10_way (wsV RX10 115 RX4 yX4_at wsX4_at) := goodIn_app (goodIn_of _ (by decide +kernel)) ggX10_way_X4_at
set_option maxRecDepth 20000 in
theorem ggX10_way_X9_roomAhead : GoodIn wsX10_way wsX9_roomAhead := goodIn_r _ [60, 61, 62, 63, 20, 64, 25, 65, 66, 67, 68, 22, 38, 12, 13, 14, 15, 16, 43, 44, 45, 46, 47, 48, 49, 50, 51, 52, 53, 8, 54, 55, 76, 77, 78, 79, 80, 81, 82, 83, 84, 91, 92, 93, 94, 95, 96, 97, 85, 86, 87, 88, 89, 90] (by decide +kernel) (by decide +kernel)
set_option maxRecDepth 20000 in
theorem gX10_way_X9_roomAhead : GoodIn wsX10_way (wsV RX10 204 RX9 yX9_roomAhead wsX9_roomAhead) := goodIn_app (goodIn_of _ (by decide +kernel)) ggX10_way_X9_roomAhead
theorem dX10_way_0 : decode cX10_way 0 = .ok (.aload_n 0, 1) := by decide +kernel
theorem dX10_way_1 : decode cX10_way 1 = .ok (.getfield 12, 3) := by decide +kernel
theorem dX10_way_4 : decode cX10_way 4 = .ok (.getfield 99, 3) := by decide +kernel
theorem dX10_way_7 : decode cX10_way 7 = .ok (.iload_n 1, 1) := by decide +kernel
theorem dX10_way_8 : decode cX10_way 8 = .ok (.invokevirtual 108, 3) := by decide +kernel
theorem dX10_way_11 : decode cX10_way 11 = .ok (.ifCond .eq 21, 3) := by decide +kernel
theorem dX10_way_14 : decode cX10_way 14 = .ok (.aload_n 0, 1) := by decide +kernel
theorem dX10_way_15 : decode cX10_way 15 = .ok (.getfield 12, 3) := by decide +kernel
theorem dX10_way_18 : decode cX10_way 18 = .ok (.getfield 99, 3) := by decide +kernel
theorem dX10_way_21 : decode cX10_way 21 = .ok (.iload_n 2, 1) := by decide +kernel
theorem dX10_way_22 : decode cX10_way 22 = .ok (.invokevirtual 108, 3) := by decide +kernel
theorem dX10_way_25 : decode cX10_way 25 = .ok (.ifCond .eq 7, 3) := by decide +kernel
theorem dX10_way_28 : decode cX10_way 28 = .ok (.iload_n 3, 1) := by decide +kernel
theorem dX10_way_29 : decode cX10_way 29 = .ok (.ifCond .ge 5, 3) := by decide +kernel
theorem dX10_way_32 : decode cX10_way 32 = .ok (.iconst (-1), 1) := by decide +kernel
theorem dX10_way_33 : decode cX10_way 33 = .ok (.ireturn, 1) := by decide +kernel
theorem dX10_way_34 : decode cX10_way 34 = .ok (.aload_n 0, 1) := by decide +kernel
theorem dX10_way_35 : decode cX10_way 35 = .ok (.getfield 33, 3) := by decide +kernel
theorem dX10_way_38 : decode cX10_way 38 = .ok (.aload_n 0, 1) := by decide +kernel
theorem dX10_way_39 : decode cX10_way 39 = .ok (.getfield 12, 3) := by decide +kernel
theorem dX10_way_42 : decode cX10_way 42 = .ok (.iload_n 2, 1) := by decide +kernel
theorem dX10_way_43 : decode cX10_way 43 = .ok (.invokevirtual 190, 3) := by decide +kernel
theorem dX10_way_46 : decode cX10_way 46 = .ok (.iload_n 3, 1) := by decide +kernel
theorem dX10_way_47 : decode cX10_way 47 = .ok (.aload_n 0, 1) := by decide +kernel
theorem dX10_way_48 : decode cX10_way 48 = .ok (.getfield 33, 3) := by decide +kernel
theorem dX10_way_51 : decode cX10_way 51 = .ok (.getfield 194, 3) := by decide +kernel
theorem dX10_way_54 : decode cX10_way 54 = .ok (.iload_n 1, 1) := by decide +kernel
theorem dX10_way_55 : decode cX10_way 55 = .ok (.invokevirtual 115, 3) := by decide +kernel
theorem dX10_way_58 : decode cX10_way 58 = .ok (.if_icmp .le 6, 3) := by decide +kernel
theorem dX10_way_61 : decode cX10_way 61 = .ok (.bipush (-4), 2) := by decide +kernel
theorem dX10_way_63 : decode cX10_way 63 = .ok (.ireturn, 1) := by decide +kernel
theorem dX10_way_64 : decode cX10_way 64 = .ok (.aload_n 0, 1) := by decide +kernel
theorem dX10_way_65 : decode cX10_way 65 = .ok (.getfield 33, 3) := by decide +kernel
theorem dX10_way_68 : decode cX10_way 68 = .ok (.aload_n 0, 1) := by decide +kernel
theorem dX10_way_69 : decode cX10_way 69 = .ok (.getfield 12, 3) := by decide +kernel
theorem dX10_way_72 : decode cX10_way 72 = .ok (.iload_n 1, 1) := by decide +kernel
theorem dX10_way_73 : decode cX10_way 73 = .ok (.iload_n 3, 1) := by decide +kernel
theorem dX10_way_74 : decode cX10_way 74 = .ok (.invokevirtual 204, 3) := by decide +kernel
theorem dX10_way_77 : decode cX10_way 77 = .ok (.ireturn, 1) := by decide +kernel
set_option maxRecDepth 20000 in
theorem ggX10_farthest_X5_holds : GoodIn wsX10_farthest wsX5_holds := goodIn_r _ [9, 10, 11, 12, 13, 14, 15, 16, 78, 79, 80, 81, 82, 83, 84] (by decide +kernel) (by decide +kernel)
set_option maxRecDepth 20000 in
theorem gX10_farthest_X5_holds : GoodIn wsX10_farthest (wsV RX10 108 RX5 yX5_holds wsX5_holds) := goodIn_app (goodIn_of _ (by decide +kernel)) ggX10_farthest_X5_holds
set_option maxRecDepth 20000 in
theorem ggX10_farthest_X9_spread : GoodIn wsX10_farthest wsX9_spread := goodIn_r _ [21, 22, 23, 24, 25, 26, 27, 28, 14, 29, 16, 30, 31, 32, 33, 34, 35, 36, 20, 37, 38, 12, 13, 15, 39, 40, 41, 42, 43, 44, 45, 46, 47, 48, 49, 50, 51, 52, 53, 8, 54, 55, 71, 72, 73, 74, 75, 76, 77, 69, 70, 84, 85, 86, 87, 88, 89, 90, 78, 79, 80, 81, 82, 83] (by decide +kernel) (by decide +kernel)
set_option maxRecDepth 20000 in
theorem gX10_farthest_X9_spread : GoodIn wsX10_farthest (wsV RX10 190 RX9 yX9_spread wsX9_spread) := goodIn_app (goodIn_of _ (by decide +kernel)) ggX10_farthest_X9_spread
set_option maxRecDepth 20000 in
theorem ggX10_farthest_X9_farthestRoom : GoodIn wsX10_farthest wsX9_farthestRoom := goodIn_r _ [59, 25, 22, 60, 6, 7, 8, 9, 10, 11, 12, 13, 14, 15, 16, 38, 69, 70, 71, 72, 73, 74, 75, 76, 77, 78, 79, 80, 81, 82, 83, 84] (by decide +kernel) (by decide +kernel)
set_option maxRecDepth 20000 in
theorem gX10_farthest_X9_farthestRoom : GoodIn wsX10_farthest (wsV RX10 207 RX9 yX9_farthestRoom wsX9_farthestRoom) := goodIn_app (goodIn_of _ (by decide +kernel)) ggX10_farthest_X9_farthestRoom
set_option maxRecDepth 20000 in
theorem ggX10_farthest_X4_at : GoodIn wsX10_farthest wsX4_at := goodIn_r _ [15, 16, 84] (by decide +kernel) (by decide +kernel)
set_option maxRecDepth 20000 in
theorem gX10_farthest_X4_at : GoodIn wsX10_farthest (wsV RX10 115 RX4 yX4_at wsX4_at) := goodIn_app (goodIn_of _ (by decide +kernel)) ggX10_farthest_X4_at
theorem dX10_farthest_0 : decode cX10_farthest 0 = .ok (.aload_n 0, 1) := by decide +kernel
theorem dX10_farthest_1 : decode cX10_farthest 1 = .ok (.getfield 12, 3) := by decide +kernel
theorem dX10_farthest_4 : decode cX10_farthest 4 = .ok (.getfield 99, 3) := by decide +kernel
theorem dX10_farthest_7 : decode cX10_farthest 7 = .ok (.iload_n 1, 1) := by decide +kernel
theorem dX10_farthest_8 : decode cX10_farthest 8 = .ok (.invokevirtual 108, 3) := by decide +kernel
theorem dX10_farthest_11 : decode cX10_farthest 11 = .ok (.ifCond .eq 12, 3) := by decide +kernel
theorem dX10_farthest_14 : decode cX10_farthest 14 = .ok (.iload_n 2, 1) := by decide +kernel
theorem dX10_farthest_15 : decode cX10_farthest 15 = .ok (.ifCond .lt 8, 3) := by decide +kernel
theorem dX10_farthest_18 : decode cX10_farthest 18 = .ok (.iload_n 2, 1) := by decide +kernel
theorem dX10_farthest_19 : decode cX10_farthest 19 = .ok (.iconst 1, 1) := by decide +kernel
theorem dX10_farthest_20 : decode cX10_farthest 20 = .ok (.if_icmp .le 5, 3) := by decide +kernel
theorem dX10_farthest_23 : decode cX10_farthest 23 = .ok (.iconst (-1), 1) := by decide +kernel
theorem dX10_farthest_24 : decode cX10_farthest 24 = .ok (.ireturn, 1) := by decide +kernel
theorem dX10_farthest_25 : decode cX10_farthest 25 = .ok (.aload_n 0, 1) := by decide +kernel
theorem dX10_farthest_26 : decode cX10_farthest 26 = .ok (.getfield 33, 3) := by decide +kernel
theorem dX10_farthest_29 : decode cX10_farthest 29 = .ok (.aload_n 0, 1) := by decide +kernel
theorem dX10_farthest_30 : decode cX10_farthest 30 = .ok (.getfield 12, 3) := by decide +kernel
theorem dX10_farthest_33 : decode cX10_farthest 33 = .ok (.iload_n 1, 1) := by decide +kernel
theorem dX10_farthest_34 : decode cX10_farthest 34 = .ok (.invokevirtual 190, 3) := by decide +kernel
theorem dX10_farthest_37 : decode cX10_farthest 37 = .ok (.aload_n 0, 1) := by decide +kernel
theorem dX10_farthest_38 : decode cX10_farthest 38 = .ok (.getfield 33, 3) := by decide +kernel
theorem dX10_farthest_41 : decode cX10_farthest 41 = .ok (.aload_n 0, 1) := by decide +kernel
theorem dX10_farthest_42 : decode cX10_farthest 42 = .ok (.getfield 12, 3) := by decide +kernel
theorem dX10_farthest_45 : decode cX10_farthest 45 = .ok (.invokevirtual 207, 3) := by decide +kernel
theorem dX10_farthest_48 : decode cX10_farthest 48 = .ok (.istore_n 3, 1) := by decide +kernel
theorem dX10_farthest_49 : decode cX10_farthest 49 = .ok (.iload_n 2, 1) := by decide +kernel
theorem dX10_farthest_50 : decode cX10_farthest 50 = .ok (.ifCond .ne 7, 3) := by decide +kernel
theorem dX10_farthest_53 : decode cX10_farthest 53 = .ok (.iload_n 3, 1) := by decide +kernel
theorem dX10_farthest_54 : decode cX10_farthest 54 = .ok (.goto 14, 3) := by decide +kernel
theorem dX10_farthest_57 : decode cX10_farthest 57 = .ok (.aload_n 0, 1) := by decide +kernel
theorem dX10_farthest_58 : decode cX10_farthest 58 = .ok (.getfield 33, 3) := by decide +kernel
theorem dX10_farthest_61 : decode cX10_farthest 61 = .ok (.getfield 194, 3) := by decide +kernel
theorem dX10_farthest_64 : decode cX10_farthest 64 = .ok (.iload_n 3, 1) := by decide +kernel
theorem dX10_farthest_65 : decode cX10_farthest 65 = .ok (.invokevirtual 115, 3) := by decide +kernel
theorem dX10_farthest_68 : decode cX10_farthest 68 = .ok (.ireturn, 1) := by decide +kernel
set_option maxRecDepth 20000 in
theorem ggX10_longest_X9_findLongest : GoodIn wsX10_longest wsX9_findLongest := goodIn_r _ [10, 11, 12, 13, 14, 15, 16, 17, 18, 19, 20, 21, 22, 23, 24, 25, 26, 27, 28, 29, 30, 9, 31, 32, 33, 34, 35, 36, 37, 38, 39, 40, 41, 42, 43, 44, 45, 46, 47, 48, 49, 50, 51, 52, 53, 54, 55, 56, 57, 58, 59, 60, 61, 62, 63, 64, 65, 66, 67, 75, 76, 77, 78, 79, 80, 81, 82, 83, 84, 85, 86, 87, 88, 89, 90, 91, 92, 93, 94, 95, 96] (by decide +kernel) (by decide +kernel)
set_option maxRecDepth 20000 in
theorem gX10_longest_X9_findLongest : GoodIn wsX10_longest (wsV RX10 210 RX9 yX9_findLongest wsX9_findLongest) := goodIn_app (goodIn_of _ (by decide +kernel)) ggX10_longest_X9_findLongest
theorem dX10_longest_0 : decode cX10_longest 0 = .ok (.iload_n 1, 1) := by decide +kernel
theorem dX10_longest_1 : decode cX10_longest 1 = .ok (.ifCond .lt 8, 3) := by decide +kernel
theorem dX10_longest_4 : decode cX10_longest 4 = .ok (.iload_n 1, 1) := by decide +kernel
theorem dX10_longest_5 : decode cX10_longest 5 = .ok (.iconst 2, 1) := by decide +kernel
theorem dX10_longest_6 : decode cX10_longest 6 = .ok (.if_icmp .le 5, 3) := by decide +kernel
theorem dX10_longest_9 : decode cX10_longest 9 = .ok (.iconst (-1), 1) := by decide +kernel
theorem dX10_longest_10 : decode cX10_longest 10 = .ok (.ireturn, 1) := by decide +kernel
theorem dX10_longest_11 : decode cX10_longest 11 = .ok (.aload_n 0, 1) := by decide +kernel
theorem dX10_longest_12 : decode cX10_longest 12 = .ok (.getfield 33, 3) := by decide +kernel
theorem dX10_longest_15 : decode cX10_longest 15 = .ok (.aload_n 0, 1) := by decide +kernel
theorem dX10_longest_16 : decode cX10_longest 16 = .ok (.getfield 12, 3) := by decide +kernel
theorem dX10_longest_19 : decode cX10_longest 19 = .ok (.invokevirtual 210, 3) := by decide +kernel
theorem dX10_longest_22 : decode cX10_longest 22 = .ok (.iload_n 1, 1) := by decide +kernel
theorem dX10_longest_23 : decode cX10_longest 23 = .ok (.lookupswitch 41 #[(0, 25), (1, 33)], 25) := by decide +kernel
theorem dX10_longest_48 : decode cX10_longest 48 = .ok (.aload_n 0, 1) := by decide +kernel
theorem dX10_longest_49 : decode cX10_longest 49 = .ok (.getfield 33, 3) := by decide +kernel
theorem dX10_longest_52 : decode cX10_longest 52 = .ok (.getfield 214, 3) := by decide +kernel
theorem dX10_longest_55 : decode cX10_longest 55 = .ok (.ireturn, 1) := by decide +kernel
theorem dX10_longest_56 : decode cX10_longest 56 = .ok (.aload_n 0, 1) := by decide +kernel
theorem dX10_longest_57 : decode cX10_longest 57 = .ok (.getfield 33, 3) := by decide +kernel
theorem dX10_longest_60 : decode cX10_longest 60 = .ok (.getfield 217, 3) := by decide +kernel
theorem dX10_longest_63 : decode cX10_longest 63 = .ok (.ireturn, 1) := by decide +kernel
theorem dX10_longest_64 : decode cX10_longest 64 = .ok (.aload_n 0, 1) := by decide +kernel
theorem dX10_longest_65 : decode cX10_longest 65 = .ok (.getfield 33, 3) := by decide +kernel
theorem dX10_longest_68 : decode cX10_longest 68 = .ok (.getfield 220, 3) := by decide +kernel
theorem dX10_longest_71 : decode cX10_longest 71 = .ok (.ireturn, 1) := by decide +kernel
set_option maxRecDepth 20000 in
theorem ggX10_grade_X9_spread : GoodIn wsX10_grade wsX9_spread := goodIn_r _ [16, 17, 18, 19, 20, 21, 22, 23, 24, 25, 26, 27, 28, 29, 30, 31, 32, 33, 15, 34, 35, 36, 37, 38, 39, 40, 41, 42, 43, 44, 45, 46, 47, 48, 49, 50, 51, 52, 53, 54, 55, 56, 100, 101, 102, 103, 104, 105, 106, 92, 93, 107, 94, 95, 96, 97, 98, 99, 108, 109, 110, 111, 112, 113] (by decide +kernel) (by decide +kernel)
set_option maxRecDepth 20000 in
theorem gX10_grade_X9_spread : GoodIn wsX10_grade (wsV RX10 190 RX9 yX9_spread wsX9_spread) := goodIn_app (goodIn_of _ (by decide +kernel)) ggX10_grade_X9_spread
set_option maxRecDepth 20000 in
theorem ggX10_grade_X4_at : GoodIn wsX10_grade wsX4_at := goodIn_r _ [38, 26, 107] (by decide +kernel) (by decide +kernel)
set_option maxRecDepth 20000 in
theorem gX10_grade_X4_at : GoodIn wsX10_grade (wsV RX10 115 RX4 yX4_at wsX4_at) := goodIn_app (goodIn_of _ (by decide +kernel)) ggX10_grade_X4_at
set_option maxRecDepth 20000 in
theorem ggX10_grade_X9_forksAhead : GoodIn wsX10_grade wsX9_forksAhead := goodIn_r _ [61, 17, 35, 36, 37, 24, 38, 26, 62, 63, 64, 46, 65, 66, 67, 68, 69, 48, 49, 50, 70, 71, 72, 73, 74, 75, 76, 77, 78, 79, 15, 80, 20, 81, 82, 83, 84, 43, 44, 45, 47, 51, 52, 53, 54, 55, 56, 100, 101, 102, 103, 104, 105, 106, 107, 92, 93, 94, 95, 96, 97, 98, 99, 108, 109, 110, 111, 112, 113] (by decide +kernel) (by decide +kernel)
set_option maxRecDepth 20000 in
theorem gX10_grade_X9_forksAhead : GoodIn wsX10_grade (wsV RX10 223 RX9 yX9_forksAhead wsX9_forksAhead) := goodIn_app (goodIn_of _ (by decide +kernel)) ggX10_grade_X9_forksAhead
theorem dX10_grade_0 : decode cX10_grade 0 = .ok (.aload_n 0, 1) := by decide +kernel
theorem dX10_grade_1 : decode cX10_grade 1 = .ok (.getfield 33, 3) := by decide +kernel
theorem dX10_grade_4 : decode cX10_grade 4 = .ok (.aload_n 0, 1) := by decide +kernel
theorem dX10_grade_5 : decode cX10_grade 5 = .ok (.getfield 12, 3) := by decide +kernel
theorem dX10_grade_8 : decode cX10_grade 8 = .ok (.aload_n 0, 1) := by decide +kernel
theorem dX10_grade_9 : decode cX10_grade 9 = .ok (.getfield 12, 3) := by decide +kernel
theorem dX10_grade_12 : decode cX10_grade 12 = .ok (.getfield 58, 3) := by decide +kernel
theorem dX10_grade_15 : decode cX10_grade 15 = .ok (.getfield 179, 3) := by decide +kernel
theorem dX10_grade_18 : decode cX10_grade 18 = .ok (.invokevirtual 190, 3) := by decide +kernel
theorem dX10_grade_21 : decode cX10_grade 21 = .ok (.aload_n 0, 1) := by decide +kernel
theorem dX10_grade_22 : decode cX10_grade 22 = .ok (.getfield 33, 3) := by decide +kernel
theorem dX10_grade_25 : decode cX10_grade 25 = .ok (.getfield 194, 3) := by decide +kernel
theorem dX10_grade_28 : decode cX10_grade 28 = .ok (.aload_n 0, 1) := by decide +kernel
theorem dX10_grade_29 : decode cX10_grade 29 = .ok (.getfield 12, 3) := by decide +kernel
theorem dX10_grade_32 : decode cX10_grade 32 = .ok (.getfield 58, 3) := by decide +kernel
theorem dX10_grade_35 : decode cX10_grade 35 = .ok (.getfield 176, 3) := by decide +kernel
theorem dX10_grade_38 : decode cX10_grade 38 = .ok (.invokevirtual 115, 3) := by decide +kernel
theorem dX10_grade_41 : decode cX10_grade 41 = .ok (.istore_n 1, 1) := by decide +kernel
theorem dX10_grade_42 : decode cX10_grade 42 = .ok (.iload_n 1, 1) := by decide +kernel
theorem dX10_grade_43 : decode cX10_grade 43 = .ok (.iconst (-1), 1) := by decide +kernel
theorem dX10_grade_44 : decode cX10_grade 44 = .ok (.if_icmp .ne 6, 3) := by decide +kernel
theorem dX10_grade_47 : decode cX10_grade 47 = .ok (.bipush (-4), 2) := by decide +kernel
theorem dX10_grade_49 : decode cX10_grade 49 = .ok (.ireturn, 1) := by decide +kernel
theorem dX10_grade_50 : decode cX10_grade 50 = .ok (.aload_n 0, 1) := by decide +kernel
theorem dX10_grade_51 : decode cX10_grade 51 = .ok (.getfield 33, 3) := by decide +kernel
theorem dX10_grade_54 : decode cX10_grade 54 = .ok (.aload_n 0, 1) := by decide +kernel
theorem dX10_grade_55 : decode cX10_grade 55 = .ok (.getfield 12, 3) := by decide +kernel
theorem dX10_grade_58 : decode cX10_grade 58 = .ok (.aload_n 0, 1) := by decide +kernel
theorem dX10_grade_59 : decode cX10_grade 59 = .ok (.getfield 12, 3) := by decide +kernel
theorem dX10_grade_62 : decode cX10_grade 62 = .ok (.getfield 58, 3) := by decide +kernel
theorem dX10_grade_65 : decode cX10_grade 65 = .ok (.getfield 176, 3) := by decide +kernel
theorem dX10_grade_68 : decode cX10_grade 68 = .ok (.invokevirtual 223, 3) := by decide +kernel
theorem dX10_grade_71 : decode cX10_grade 71 = .ok (.istore_n 2, 1) := by decide +kernel
theorem dX10_grade_72 : decode cX10_grade 72 = .ok (.aload_n 0, 1) := by decide +kernel
theorem dX10_grade_73 : decode cX10_grade 73 = .ok (.getfield 33, 3) := by decide +kernel
theorem dX10_grade_76 : decode cX10_grade 76 = .ok (.getfield 226, 3) := by decide +kernel
theorem dX10_grade_79 : decode cX10_grade 79 = .ok (.iload_n 1, 1) := by decide +kernel
theorem dX10_grade_80 : decode cX10_grade 80 = .ok (.iconst 1, 1) := by decide +kernel
theorem dX10_grade_81 : decode cX10_grade 81 = .ok (.iadd, 1) := by decide +kernel
theorem dX10_grade_82 : decode cX10_grade 82 = .ok (.isub, 1) := by decide +kernel
theorem dX10_grade_83 : decode cX10_grade 83 = .ok (.istore_n 3, 1) := by decide +kernel
theorem dX10_grade_84 : decode cX10_grade 84 = .ok (.iload_n 1, 1) := by decide +kernel
theorem dX10_grade_85 : decode cX10_grade 85 = .ok (.iconst 4, 1) := by decide +kernel
theorem dX10_grade_86 : decode cX10_grade 86 = .ok (.iload_n 2, 1) := by decide +kernel
theorem dX10_grade_87 : decode cX10_grade 87 = .ok (.imul, 1) := by decide +kernel
theorem dX10_grade_88 : decode cX10_grade 88 = .ok (.iadd, 1) := by decide +kernel
theorem dX10_grade_89 : decode cX10_grade 89 = .ok (.iload_n 3, 1) := by decide +kernel
theorem dX10_grade_90 : decode cX10_grade 90 = .ok (.iconst 2, 1) := by decide +kernel
theorem dX10_grade_91 : decode cX10_grade 91 = .ok (.idiv, 1) := by decide +kernel
theorem dX10_grade_92 : decode cX10_grade 92 = .ok (.iadd, 1) := by decide +kernel
theorem dX10_grade_93 : decode cX10_grade 93 = .ok (.bipush 10, 2) := by decide +kernel
theorem dX10_grade_95 : decode cX10_grade 95 = .ok (.idiv, 1) := by decide +kernel
theorem dX10_grade_96 : decode cX10_grade 96 = .ok (.bipush 9, 2) := by decide +kernel
theorem dX10_grade_98 : decode cX10_grade 98 = .ok (.invokestatic 229, 3) := by decide +kernel
theorem dX10_grade_101 : decode cX10_grade 101 = .ok (.ireturn, 1) := by decide +kernel
set_option maxRecDepth 20000 in
theorem ggX10_sign_X5_holds : GoodIn wsX10_sign wsX5_holds := goodIn_r _ [9, 10, 11, 12, 13, 14, 15, 16, 112, 113, 114, 115, 116, 117, 118] (by decide +kernel) (by decide +kernel)
set_option maxRecDepth 20000 in
theorem gX10_sign_X5_holds : GoodIn wsX10_sign (wsV RX10 108 RX5 yX5_holds wsX5_holds) := goodIn_app (goodIn_of _ (by decide +kernel)) ggX10_sign_X5_holds
set_option maxRecDepth 20000 in
theorem ggX10_sign_X10_isSign : GoodIn wsX10_sign wsX10_isSign := goodIn_r _ [20, 21, 22, 19, 23] (by decide +kernel) (by decide +kernel)
set_option maxRecDepth 20000 in
theorem gX10_sign_X10_isSign : GoodIn wsX10_sign (va_wsS RX10 234 yX10_isSign wsX10_isSign) := goodIn_app (goodIn_of _ (by decide +kernel)) ggX10_sign_X10_isSign
set_option maxRecDepth 20000 in
theorem ggX10_sign_X1_hasSign : GoodIn wsX10_sign wsX1_hasSign := goodIn_r _ [28, 29, 30, 31, 12, 13, 14, 15, 16, 110, 111, 119, 120, 121, 122, 123, 124, 118] (by decide +kernel) (by decide +kernel)
set_option maxRecDepth 20000 in
theorem gX10_sign_X1_hasSign : GoodIn wsX10_sign (wsV RX10 237 RX1 yX1_hasSign wsX1_hasSign) := goodIn_app (goodIn_of _ (by decide +kernel)) ggX10_sign_X1_hasSign
set_option maxRecDepth 20000 in
theorem ggX10_sign_X1_signCount : GoodIn wsX10_sign wsX1_signCount := goodIn_r _ [35, 36, 37, 38, 27, 39, 40, 25, 26, 28, 29, 30, 31, 12, 13, 14, 15, 16, 41, 42, 43, 44, 45, 46, 47, 48, 49, 50, 51, 52, 53, 54, 55, 56, 110, 111, 119, 120, 121, 122, 123, 124, 118] (by decide +kernel) (by decide +kernel)
set_option maxRecDepth 20000 in
theorem gX10_sign_X1_signCount : GoodIn wsX10_sign (wsV RX10 182 RX1 yX1_signCount wsX1_signCount) := goodIn_app (goodIn_of _ (by decide +kernel)) ggX10_sign_X1_signCount
set_option maxRecDepth 20000 in
theorem ggX10_sign_X0_keep : GoodIn wsX10_sign wsX0_keep := goodIn_r _ [61, 62, 63, 64, 65, 66, 60, 67, 68, 69, 70, 71, 72, 73, 74, 75, 76, 77, 78, 79, 80, 81, 82, 83, 84, 85, 14, 86, 16, 87, 88, 89, 90, 91, 92, 93, 94, 125, 126, 119, 120, 121, 122, 123, 124, 118] (by decide +kernel) (by decide +kernel)
set_option maxRecDepth 20000 in
theorem gX10_sign_X0_keep : GoodIn wsX10_sign (wsV RX10 85 RX0 yX0_keep wsX0_keep) := goodIn_app (goodIn_of _ (by decide +kernel)) ggX10_sign_X0_keep
set_option maxRecDepth 20000 in
theorem ggX10_sign_X1_putSign : GoodIn wsX10_sign wsX1_putSign := goodIn_r _ [98, 29, 30, 99, 100, 101, 14, 102, 16, 110, 111, 119, 120, 121, 122, 123, 124, 118] (by decide +kernel) (by decide +kernel)
set_option maxRecDepth 20000 in
theorem gX10_sign_X1_putSign : GoodIn wsX10_sign (wsV RX10 240 RX1 yX1_putSign wsX1_putSign) := goodIn_app (goodIn_of _ (by decide +kernel)) ggX10_sign_X1_putSign
theorem dX10_sign_0 : decode cX10_sign 0 = .ok (.aload_n 0, 1) := by decide +kernel
theorem dX10_sign_1 : decode cX10_sign 1 = .ok (.getfield 12, 3) := by decide +kernel
theorem dX10_sign_4 : decode cX10_sign 4 = .ok (.getfield 99, 3) := by decide +kernel
theorem dX10_sign_7 : decode cX10_sign 7 = .ok (.iload_n 1, 1) := by decide +kernel
theorem dX10_sign_8 : decode cX10_sign 8 = .ok (.invokevirtual 108, 3) := by decide +kernel
theorem dX10_sign_11 : decode cX10_sign 11 = .ok (.ifCond .eq 11, 3) := by decide +kernel
theorem dX10_sign_14 : decode cX10_sign 14 = .ok (.iload_n 2, 1) := by decide +kernel
theorem dX10_sign_15 : decode cX10_sign 15 = .ok (.iload_n 3, 1) := by decide +kernel
theorem dX10_sign_16 : decode cX10_sign 16 = .ok (.invokestatic 234, 3) := by decide +kernel
theorem dX10_sign_19 : decode cX10_sign 19 = .ok (.ifCond .ne 5, 3) := by decide +kernel
theorem dX10_sign_22 : decode cX10_sign 22 = .ok (.iconst (-1), 1) := by decide +kernel
theorem dX10_sign_23 : decode cX10_sign 23 = .ok (.ireturn, 1) := by decide +kernel
theorem dX10_sign_24 : decode cX10_sign 24 = .ok (.aload_n 0, 1) := by decide +kernel
theorem dX10_sign_25 : decode cX10_sign 25 = .ok (.getfield 12, 3) := by decide +kernel
theorem dX10_sign_28 : decode cX10_sign 28 = .ok (.iload_n 1, 1) := by decide +kernel
theorem dX10_sign_29 : decode cX10_sign 29 = .ok (.invokevirtual 237, 3) := by decide +kernel
theorem dX10_sign_32 : decode cX10_sign 32 = .ok (.ifCond .ne 19, 3) := by decide +kernel
theorem dX10_sign_35 : decode cX10_sign 35 = .ok (.aload_n 0, 1) := by decide +kernel
theorem dX10_sign_36 : decode cX10_sign 36 = .ok (.getfield 12, 3) := by decide +kernel
theorem dX10_sign_39 : decode cX10_sign 39 = .ok (.iconst 0, 1) := by decide +kernel
theorem dX10_sign_40 : decode cX10_sign 40 = .ok (.invokevirtual 182, 3) := by decide +kernel
theorem dX10_sign_43 : decode cX10_sign 43 = .ok (.bipush 20, 2) := by decide +kernel
theorem dX10_sign_45 : decode cX10_sign 45 = .ok (.if_icmp .lt 6, 3) := by decide +kernel
theorem dX10_sign_48 : decode cX10_sign 48 = .ok (.bipush (-3), 2) := by decide +kernel
theorem dX10_sign_50 : decode cX10_sign 50 = .ok (.ireturn, 1) := by decide +kernel
theorem dX10_sign_51 : decode cX10_sign 51 = .ok (.aload_n 0, 1) := by decide +kernel
theorem dX10_sign_52 : decode cX10_sign 52 = .ok (.getfield 19, 3) := by decide +kernel
theorem dX10_sign_55 : decode cX10_sign 55 = .ok (.aload_n 0, 1) := by decide +kernel
theorem dX10_sign_56 : decode cX10_sign 56 = .ok (.getfield 12, 3) := by decide +kernel
theorem dX10_sign_59 : decode cX10_sign 59 = .ok (.getfield 58, 3) := by decide +kernel
theorem dX10_sign_62 : decode cX10_sign 62 = .ok (.invokevirtual 85, 3) := by decide +kernel
theorem dX10_sign_65 : decode cX10_sign 65 = .ok (.aload_n 0, 1) := by decide +kernel
theorem dX10_sign_66 : decode cX10_sign 66 = .ok (.getfield 12, 3) := by decide +kernel
theorem dX10_sign_69 : decode cX10_sign 69 = .ok (.iload_n 1, 1) := by decide +kernel
theorem dX10_sign_70 : decode cX10_sign 70 = .ok (.iload_n 2, 1) := by decide +kernel
theorem dX10_sign_71 : decode cX10_sign 71 = .ok (.iload_n 3, 1) := by decide +kernel
theorem dX10_sign_72 : decode cX10_sign 72 = .ok (.invokevirtual 240, 3) := by decide +kernel
theorem dX10_sign_75 : decode cX10_sign 75 = .ok (.aload_n 0, 1) := by decide +kernel
theorem dX10_sign_76 : decode cX10_sign 76 = .ok (.getfield 12, 3) := by decide +kernel
theorem dX10_sign_79 : decode cX10_sign 79 = .ok (.iconst 0, 1) := by decide +kernel
theorem dX10_sign_80 : decode cX10_sign 80 = .ok (.invokevirtual 182, 3) := by decide +kernel
theorem dX10_sign_83 : decode cX10_sign 83 = .ok (.ireturn, 1) := by decide +kernel
set_option maxRecDepth 20000 in
theorem ggX10_unsign_X5_holds : GoodIn wsX10_unsign wsX5_holds := goodIn_r _ [9, 10, 11, 12, 13, 14, 15, 16, 84, 85, 86, 87, 88, 89, 90] (by decide +kernel) (by decide +kernel)
set_option maxRecDepth 20000 in
theorem gX10_unsign_X5_holds : GoodIn wsX10_unsign (wsV RX10 108 RX5 yX5_holds wsX5_holds) := goodIn_app (goodIn_of _ (by decide +kernel)) ggX10_unsign_X5_holds
set_option maxRecDepth 20000 in
theorem ggX10_unsign_X1_hasSign : GoodIn wsX10_unsign wsX1_hasSign := goodIn_r _ [21, 22, 23, 24, 12, 13, 14, 15, 16, 82, 83, 91, 92, 93, 94, 95, 96, 90] (by decide +kernel) (by decide +kernel)
set_option maxRecDepth 20000 in
theorem gX10_unsign_X1_hasSign : GoodIn wsX10_unsign (wsV RX10 237 RX1 yX1_hasSign wsX1_hasSign) := goodIn_app (goodIn_of _ (by decide +kernel)) ggX10_unsign_X1_hasSign
set_option maxRecDepth 20000 in
theorem ggX10_unsign_X0_keep : GoodIn wsX10_unsign wsX0_keep := goodIn_r _ [29, 30, 31, 32, 33, 34, 28, 35, 36, 37, 38, 39, 40, 41, 42, 43, 44, 45, 46, 47, 48, 49, 50, 51, 52, 53, 14, 54, 16, 55, 56, 57, 58, 59, 60, 61, 62, 97, 98, 91, 92, 93, 94, 95, 96, 90] (by decide +kernel) (by decide +kernel)
set_option maxRecDepth 20000 in
theorem gX10_unsign_X0_keep : GoodIn wsX10_unsign (wsV RX10 85 RX0 yX0_keep wsX0_keep) := goodIn_app (goodIn_of _ (by decide +kernel)) ggX10_unsign_X0_keep
set_option maxRecDepth 20000 in
theorem ggX10_unsign_X1_signKind : GoodIn wsX10_unsign wsX1_signKind := goodIn_r _ [66, 22, 23, 24, 12, 13, 14, 15, 16, 82, 83, 91, 92, 93, 94, 95, 96, 90] (by decide +kernel) (by decide +kernel)
set_option maxRecDepth 20000 in
theorem gX10_unsign_X1_signKind : GoodIn wsX10_unsign (wsV RX10 244 RX1 yX1_signKind wsX1_signKind) := goodIn_app (goodIn_of _ (by decide +kernel)) ggX10_unsign_X1_signKind
set_option maxRecDepth 20000 in
theorem ggX10_unsign_X1_removeSign : GoodIn wsX10_unsign wsX1_removeSign := goodIn_r _ [70, 22, 23, 71, 72, 73, 14, 74, 16, 82, 83, 91, 92, 93, 94, 95, 96, 90] (by decide +kernel) (by decide +kernel)
set_option maxRecDepth 20000 in
theorem gX10_unsign_X1_removeSign : GoodIn wsX10_unsign (wsV RX10 247 RX1 yX1_removeSign wsX1_removeSign) := goodIn_app (goodIn_of _ (by decide +kernel)) ggX10_unsign_X1_removeSign
theorem dX10_unsign_0 : decode cX10_unsign 0 = .ok (.aload_n 0, 1) := by decide +kernel
theorem dX10_unsign_1 : decode cX10_unsign 1 = .ok (.getfield 12, 3) := by decide +kernel
theorem dX10_unsign_4 : decode cX10_unsign 4 = .ok (.getfield 99, 3) := by decide +kernel
theorem dX10_unsign_7 : decode cX10_unsign 7 = .ok (.iload_n 1, 1) := by decide +kernel
theorem dX10_unsign_8 : decode cX10_unsign 8 = .ok (.invokevirtual 108, 3) := by decide +kernel
theorem dX10_unsign_11 : decode cX10_unsign 11 = .ok (.ifCond .ne 5, 3) := by decide +kernel
theorem dX10_unsign_14 : decode cX10_unsign 14 = .ok (.iconst (-1), 1) := by decide +kernel
theorem dX10_unsign_15 : decode cX10_unsign 15 = .ok (.ireturn, 1) := by decide +kernel
theorem dX10_unsign_16 : decode cX10_unsign 16 = .ok (.aload_n 0, 1) := by decide +kernel
theorem dX10_unsign_17 : decode cX10_unsign 17 = .ok (.getfield 12, 3) := by decide +kernel
theorem dX10_unsign_20 : decode cX10_unsign 20 = .ok (.iload_n 1, 1) := by decide +kernel
theorem dX10_unsign_21 : decode cX10_unsign 21 = .ok (.invokevirtual 237, 3) := by decide +kernel
theorem dX10_unsign_24 : decode cX10_unsign 24 = .ok (.ifCond .ne 6, 3) := by decide +kernel
theorem dX10_unsign_27 : decode cX10_unsign 27 = .ok (.bipush (-4), 2) := by decide +kernel
theorem dX10_unsign_29 : decode cX10_unsign 29 = .ok (.ireturn, 1) := by decide +kernel
theorem dX10_unsign_30 : decode cX10_unsign 30 = .ok (.aload_n 0, 1) := by decide +kernel
theorem dX10_unsign_31 : decode cX10_unsign 31 = .ok (.getfield 19, 3) := by decide +kernel
theorem dX10_unsign_34 : decode cX10_unsign 34 = .ok (.aload_n 0, 1) := by decide +kernel
theorem dX10_unsign_35 : decode cX10_unsign 35 = .ok (.getfield 12, 3) := by decide +kernel
theorem dX10_unsign_38 : decode cX10_unsign 38 = .ok (.getfield 58, 3) := by decide +kernel
theorem dX10_unsign_41 : decode cX10_unsign 41 = .ok (.invokevirtual 85, 3) := by decide +kernel
theorem dX10_unsign_44 : decode cX10_unsign 44 = .ok (.aload_n 0, 1) := by decide +kernel
theorem dX10_unsign_45 : decode cX10_unsign 45 = .ok (.getfield 12, 3) := by decide +kernel
theorem dX10_unsign_48 : decode cX10_unsign 48 = .ok (.iload_n 1, 1) := by decide +kernel
theorem dX10_unsign_49 : decode cX10_unsign 49 = .ok (.invokevirtual 244, 3) := by decide +kernel
theorem dX10_unsign_52 : decode cX10_unsign 52 = .ok (.istore_n 2, 1) := by decide +kernel
theorem dX10_unsign_53 : decode cX10_unsign 53 = .ok (.aload_n 0, 1) := by decide +kernel
theorem dX10_unsign_54 : decode cX10_unsign 54 = .ok (.getfield 12, 3) := by decide +kernel
theorem dX10_unsign_57 : decode cX10_unsign 57 = .ok (.iload_n 1, 1) := by decide +kernel
theorem dX10_unsign_58 : decode cX10_unsign 58 = .ok (.invokevirtual 247, 3) := by decide +kernel
theorem dX10_unsign_61 : decode cX10_unsign 61 = .ok (.iload_n 2, 1) := by decide +kernel
theorem dX10_unsign_62 : decode cX10_unsign 62 = .ok (.ireturn, 1) := by decide +kernel
set_option maxRecDepth 20000 in
theorem ggX10_points_X5_holds : GoodIn wsX10_points wsX5_holds := goodIn_r _ [10, 11, 12, 13, 14, 15, 16, 17, 116, 117, 118, 119, 120, 121, 122] (by decide +kernel) (by decide +kernel)
set_option maxRecDepth 20000 in
theorem gX10_points_X5_holds : GoodIn wsX10_points (wsV RX10 108 RX5 yX5_holds wsX5_holds) := goodIn_app (goodIn_of _ (by decide +kernel)) ggX10_points_X5_holds
set_option maxRecDepth 20000 in
theorem ggX10_points_X1_signCounts : GoodIn wsX10_points wsX1_signCounts := goodIn_r _ [22, 23, 24, 25, 21, 26, 27, 28, 29, 13, 14, 15, 16, 17, 30, 31, 32, 33, 34, 35, 36, 37, 38, 39, 40, 41, 42, 43, 44, 45, 108, 109, 110, 111, 112, 113, 114, 115, 122] (by decide +kernel) (by decide +kernel)
set_option maxRecDepth 20000 in
theorem gX10_points_X1_signCounts : GoodIn wsX10_points (wsV RX10 251 RX1 yX1_signCounts wsX1_signCounts) := goodIn_app (goodIn_of _ (by decide +kernel)) ggX10_points_X1_signCounts
set_option maxRecDepth 20000 in
theorem ggX10_points_X9_spread : GoodIn wsX10_points wsX9_spread := goodIn_r _ [50, 51, 52, 53, 54, 55, 56, 57, 15, 58, 17, 59, 60, 61, 62, 63, 64, 65, 49, 66, 67, 13, 14, 16, 68, 69, 70, 71, 72, 73, 74, 21, 75, 27, 38, 29, 76, 77, 78, 9, 79, 80, 123, 124, 125, 126, 127, 128, 129, 108, 109, 122, 110, 111, 112, 113, 114, 115, 116, 117, 118, 119, 120, 121] (by decide +kernel) (by decide +kernel)
set_option maxRecDepth 20000 in
theorem gX10_points_X9_spread : GoodIn wsX10_points (wsV RX10 190 RX9 yX9_spread wsX9_spread) := goodIn_app (goodIn_of _ (by decide +kernel)) ggX10_points_X9_spread
set_option maxRecDepth 20000 in
theorem ggX10_points_X9_signDirection : GoodIn wsX10_points wsX9_signDirection := goodIn_r _ [84, 85, 86, 87, 21, 88, 27, 28, 29, 13, 14, 15, 16, 17, 89, 90, 91, 92, 72, 73, 74, 75, 38, 93, 94, 95, 49, 96, 51, 54, 67, 76, 77, 78, 9, 79, 80, 97, 98, 99, 100, 108, 109, 110, 111, 112, 113, 114, 115, 122, 123, 124, 125, 126, 127, 128, 129, 116, 117, 118, 119, 120, 121] (by decide +kernel) (by decide +kernel)
set_option maxRecDepth 20000 in
theorem gX10_points_X9_signDirection : GoodIn wsX10_points (wsV RX10 254 RX9 yX9_signDirection wsX9_signDirection) := goodIn_app (goodIn_of _ (by decide +kernel)) ggX10_points_X9_signDirection
theorem dX10_points_0 : decode cX10_points 0 = .ok (.aload_n 0, 1) := by decide +kernel
theorem dX10_points_1 : decode cX10_points 1 = .ok (.getfield 12, 3) := by decide +kernel
theorem dX10_points_4 : decode cX10_points 4 = .ok (.getfield 99, 3) := by decide +kernel
theorem dX10_points_7 : decode cX10_points 7 = .ok (.iload_n 1, 1) := by decide +kernel
theorem dX10_points_8 : decode cX10_points 8 = .ok (.invokevirtual 108, 3) := by decide +kernel
theorem dX10_points_11 : decode cX10_points 11 = .ok (.ifCond .ne 5, 3) := by decide +kernel
theorem dX10_points_14 : decode cX10_points 14 = .ok (.iconst (-1), 1) := by decide +kernel
theorem dX10_points_15 : decode cX10_points 15 = .ok (.ireturn, 1) := by decide +kernel
theorem dX10_points_16 : decode cX10_points 16 = .ok (.aload_n 0, 1) := by decide +kernel
theorem dX10_points_17 : decode cX10_points 17 = .ok (.getfield 12, 3) := by decide +kernel
theorem dX10_points_20 : decode cX10_points 20 = .ok (.iload_n 1, 1) := by decide +kernel
theorem dX10_points_21 : decode cX10_points 21 = .ok (.invokevirtual 251, 3) := by decide +kernel
theorem dX10_points_24 : decode cX10_points 24 = .ok (.ifCond .ne 6, 3) := by decide +kernel
theorem dX10_points_27 : decode cX10_points 27 = .ok (.bipush (-2), 2) := by decide +kernel
theorem dX10_points_29 : decode cX10_points 29 = .ok (.ireturn, 1) := by decide +kernel
theorem dX10_points_30 : decode cX10_points 30 = .ok (.aload_n 0, 1) := by decide +kernel
theorem dX10_points_31 : decode cX10_points 31 = .ok (.getfield 33, 3) := by decide +kernel
theorem dX10_points_34 : decode cX10_points 34 = .ok (.aload_n 0, 1) := by decide +kernel
theorem dX10_points_35 : decode cX10_points 35 = .ok (.getfield 12, 3) := by decide +kernel
theorem dX10_points_38 : decode cX10_points 38 = .ok (.aload_n 0, 1) := by decide +kernel
theorem dX10_points_39 : decode cX10_points 39 = .ok (.getfield 12, 3) := by decide +kernel
theorem dX10_points_42 : decode cX10_points 42 = .ok (.getfield 58, 3) := by decide +kernel
theorem dX10_points_45 : decode cX10_points 45 = .ok (.getfield 179, 3) := by decide +kernel
theorem dX10_points_48 : decode cX10_points 48 = .ok (.invokevirtual 190, 3) := by decide +kernel
theorem dX10_points_51 : decode cX10_points 51 = .ok (.aload_n 0, 1) := by decide +kernel
theorem dX10_points_52 : decode cX10_points 52 = .ok (.getfield 33, 3) := by decide +kernel
theorem dX10_points_55 : decode cX10_points 55 = .ok (.aload_n 0, 1) := by decide +kernel
theorem dX10_points_56 : decode cX10_points 56 = .ok (.getfield 12, 3) := by decide +kernel
theorem dX10_points_59 : decode cX10_points 59 = .ok (.iload_n 1, 1) := by decide +kernel
theorem dX10_points_60 : decode cX10_points 60 = .ok (.invokevirtual 254, 3) := by decide +kernel
theorem dX10_points_63 : decode cX10_points 63 = .ok (.istore_n 2, 1) := by decide +kernel
theorem dX10_points_64 : decode cX10_points 64 = .ok (.iload_n 2, 1) := by decide +kernel
theorem dX10_points_65 : decode cX10_points 65 = .ok (.iconst (-1), 1) := by decide +kernel
theorem dX10_points_66 : decode cX10_points 66 = .ok (.if_icmp .ne 8, 3) := by decide +kernel
theorem dX10_points_69 : decode cX10_points 69 = .ok (.bipush (-4), 2) := by decide +kernel
theorem dX10_points_71 : decode cX10_points 71 = .ok (.goto 4, 3) := by decide +kernel
theorem dX10_points_74 : decode cX10_points 74 = .ok (.iload_n 2, 1) := by decide +kernel
theorem dX10_points_75 : decode cX10_points 75 = .ok (.ireturn, 1) := by decide +kernel
set_option maxRecDepth 20000 in
theorem ggX10_walk_X8_go : GoodIn wsX10_walk wsX8_go := goodIn_r _ [11, 12, 13, 14, 15, 16, 17, 18, 19, 20, 21, 22, 23, 24, 25, 26, 27, 28, 29, 30, 31, 32, 33, 34, 35, 36, 37, 38, 39, 40, 41, 42, 43, 44, 45, 46, 47, 48, 49, 50, 51, 52, 53, 54, 55, 56, 57, 58, 59, 60, 61, 62, 63, 64, 65, 66, 67, 68, 69, 10, 70, 71, 72, 73, 74, 75, 76, 77, 78, 79, 80, 81, 82, 83, 84, 85, 86, 87, 88, 89, 90, 91, 92, 93, 94, 95, 96, 97, 98, 99, 100, 101, 102, 103, 104, 105, 106, 107, 108, 109, 110, 111, 112, 113, 114, 115, 116, 117, 118, 119, 120, 121, 122, 123, 124, 125, 126, 127, 128, 129, 142, 143, 144, 145, 146, 147, 148, 149, 137, 138, 139, 140, 141, 150, 151, 152, 153, 154, 155, 156, 157, 158, 159, 160, 161, 162, 163] (by decide +kernel) (by decide +kernel)
set_option maxRecDepth 20000 in
theorem gX10_walk_X8_go : GoodIn wsX10_walk (wsV RX10 257 RX8 yX8_go wsX8_go) := goodIn_app (goodIn_of _ (by decide +kernel)) ggX10_walk_X8_go
theorem dX10_walk_0 : decode cX10_walk 0 = .ok (.iload_n 1, 1) := by decide +kernel
theorem dX10_walk_1 : decode cX10_walk 1 = .ok (.ifCond .lt 19, 3) := by decide +kernel
theorem dX10_walk_4 : decode cX10_walk 4 = .ok (.iload_n 1, 1) := by decide +kernel
theorem dX10_walk_5 : decode cX10_walk 5 = .ok (.sipush 2000, 3) := by decide +kernel
theorem dX10_walk_8 : decode cX10_walk 8 = .ok (.if_icmp .gt 12, 3) := by decide +kernel
theorem dX10_walk_11 : decode cX10_walk 11 = .ok (.iload_n 2, 1) := by decide +kernel
theorem dX10_walk_12 : decode cX10_walk 12 = .ok (.ifCond .lt 8, 3) := by decide +kernel
theorem dX10_walk_15 : decode cX10_walk 15 = .ok (.iload_n 2, 1) := by decide +kernel
theorem dX10_walk_16 : decode cX10_walk 16 = .ok (.iconst 2, 1) := by decide +kernel
theorem dX10_walk_17 : decode cX10_walk 17 = .ok (.if_icmp .le 5, 3) := by decide +kernel
theorem dX10_walk_20 : decode cX10_walk 20 = .ok (.iconst (-1), 1) := by decide +kernel
theorem dX10_walk_21 : decode cX10_walk 21 = .ok (.ireturn, 1) := by decide +kernel
theorem dX10_walk_22 : decode cX10_walk 22 = .ok (.aload_n 0, 1) := by decide +kernel
theorem dX10_walk_23 : decode cX10_walk 23 = .ok (.getfield 40, 3) := by decide +kernel
theorem dX10_walk_26 : decode cX10_walk 26 = .ok (.aload_n 0, 1) := by decide +kernel
theorem dX10_walk_27 : decode cX10_walk 27 = .ok (.getfield 12, 3) := by decide +kernel
theorem dX10_walk_30 : decode cX10_walk 30 = .ok (.aload_n 0, 1) := by decide +kernel
theorem dX10_walk_31 : decode cX10_walk 31 = .ok (.getfield 33, 3) := by decide +kernel
theorem dX10_walk_34 : decode cX10_walk 34 = .ok (.iload_n 1, 1) := by decide +kernel
theorem dX10_walk_35 : decode cX10_walk 35 = .ok (.invokevirtual 257, 3) := by decide +kernel
theorem dX10_walk_38 : decode cX10_walk 38 = .ok (.iload_n 2, 1) := by decide +kernel
theorem dX10_walk_39 : decode cX10_walk 39 = .ok (.lookupswitch 41 #[(0, 25), (1, 33)], 25) := by decide +kernel
theorem dX10_walk_64 : decode cX10_walk 64 = .ok (.aload_n 0, 1) := by decide +kernel
theorem dX10_walk_65 : decode cX10_walk 65 = .ok (.getfield 40, 3) := by decide +kernel
theorem dX10_walk_68 : decode cX10_walk 68 = .ok (.getfield 261, 3) := by decide +kernel
theorem dX10_walk_71 : decode cX10_walk 71 = .ok (.ireturn, 1) := by decide +kernel
theorem dX10_walk_72 : decode cX10_walk 72 = .ok (.aload_n 0, 1) := by decide +kernel
theorem dX10_walk_73 : decode cX10_walk 73 = .ok (.getfield 40, 3) := by decide +kernel
theorem dX10_walk_76 : decode cX10_walk 76 = .ok (.getfield 264, 3) := by decide +kernel
theorem dX10_walk_79 : decode cX10_walk 79 = .ok (.ireturn, 1) := by decide +kernel
theorem dX10_walk_80 : decode cX10_walk 80 = .ok (.aload_n 0, 1) := by decide +kernel
theorem dX10_walk_81 : decode cX10_walk 81 = .ok (.getfield 40, 3) := by decide +kernel
theorem dX10_walk_84 : decode cX10_walk 84 = .ok (.getfield 267, 3) := by decide +kernel
theorem dX10_walk_87 : decode cX10_walk 87 = .ok (.ireturn, 1) := by decide +kernel
set_option maxRecDepth 20000 in
theorem ggX10_walked_X8_go : GoodIn wsX10_walked wsX8_go := goodIn_r _ [12, 13, 14, 15, 16, 17, 18, 19, 20, 21, 22, 23, 24, 25, 26, 27, 28, 29, 30, 31, 32, 33, 34, 35, 36, 37, 38, 39, 40, 41, 42, 43, 44, 45, 46, 47, 48, 49, 50, 51, 52, 53, 54, 55, 56, 57, 58, 59, 60, 61, 62, 63, 64, 65, 66, 67, 68, 69, 70, 11, 71, 72, 73, 74, 75, 76, 77, 78, 79, 80, 81, 82, 83, 84, 85, 86, 87, 88, 89, 90, 91, 92, 93, 94, 95, 96, 97, 98, 99, 100, 101, 102, 103, 104, 105, 106, 107, 108, 109, 110, 111, 112, 113, 114, 115, 116, 117, 118, 119, 120, 121, 122, 123, 124, 125, 126, 127, 128, 129, 130, 143, 144, 145, 146, 147, 148, 149, 150, 138, 139, 140, 141, 142, 151, 152, 153, 154, 155, 156, 157, 158, 159, 160, 161, 162, 163, 164] (by decide +kernel) (by decide +kernel)
set_option maxRecDepth 20000 in
theorem gX10_walked_X8_go : GoodIn wsX10_walked (wsV RX10 257 RX8 yX8_go wsX8_go) := goodIn_app (goodIn_of _ (by decide +kernel)) ggX10_walked_X8_go
theorem dX10_walked_0 : decode cX10_walked 0 = .ok (.aload_n 0, 1) := by decide +kernel
theorem dX10_walked_1 : decode cX10_walked 1 = .ok (.getfield 40, 3) := by decide +kernel
theorem dX10_walked_4 : decode cX10_walked 4 = .ok (.aload_n 0, 1) := by decide +kernel
theorem dX10_walked_5 : decode cX10_walked 5 = .ok (.getfield 12, 3) := by decide +kernel
theorem dX10_walked_8 : decode cX10_walked 8 = .ok (.aload_n 0, 1) := by decide +kernel
theorem dX10_walked_9 : decode cX10_walked 9 = .ok (.getfield 33, 3) := by decide +kernel
theorem dX10_walked_12 : decode cX10_walked 12 = .ok (.sipush 2000, 3) := by decide +kernel
theorem dX10_walked_15 : decode cX10_walked 15 = .ok (.invokevirtual 257, 3) := by decide +kernel
theorem dX10_walked_18 : decode cX10_walked 18 = .ok (.aload_n 0, 1) := by decide +kernel
theorem dX10_walked_19 : decode cX10_walked 19 = .ok (.getfield 40, 3) := by decide +kernel
theorem dX10_walked_22 : decode cX10_walked 22 = .ok (.getfield 261, 3) := by decide +kernel
theorem dX10_walked_25 : decode cX10_walked 25 = .ok (.aload_n 0, 1) := by decide +kernel
theorem dX10_walked_26 : decode cX10_walked 26 = .ok (.getfield 12, 3) := by decide +kernel
theorem dX10_walked_29 : decode cX10_walked 29 = .ok (.getfield 58, 3) := by decide +kernel
theorem dX10_walked_32 : decode cX10_walked 32 = .ok (.getfield 179, 3) := by decide +kernel
theorem dX10_walked_35 : decode cX10_walked 35 = .ok (.if_icmp .ne 13, 3) := by decide +kernel
theorem dX10_walked_38 : decode cX10_walked 38 = .ok (.aload_n 0, 1) := by decide +kernel
theorem dX10_walked_39 : decode cX10_walked 39 = .ok (.getfield 40, 3) := by decide +kernel
theorem dX10_walked_42 : decode cX10_walked 42 = .ok (.getfield 264, 3) := by decide +kernel
theorem dX10_walked_45 : decode cX10_walked 45 = .ok (.goto 5, 3) := by decide +kernel
theorem dX10_walked_48 : decode cX10_walked 48 = .ok (.bipush (-4), 2) := by decide +kernel
theorem dX10_walked_50 : decode cX10_walked 50 = .ok (.ireturn, 1) := by decide +kernel
set_option maxRecDepth 20000 in
theorem ggX10_undo_X0_restore : GoodIn wsX10_undo wsX0_restore := goodIn_r _ [10, 11, 12, 13, 14, 9, 15, 16, 17, 18, 19, 20, 21, 22, 23, 24, 25, 26, 27, 28, 29, 30, 31, 32, 33, 34, 35, 36, 37, 38, 39, 40, 41, 195, 196, 199, 200, 201, 202, 203, 204, 205] (by decide +kernel) (by decide +kernel)
set_option maxRecDepth 20000 in
theorem gX10_undo_X0_restore : GoodIn wsX10_undo (wsV RX10 270 RX0 yX0_restore wsX0_restore) := goodIn_app (goodIn_of _ (by decide +kernel)) ggX10_undo_X0_restore
set_option maxRecDepth 20000 in
theorem ggX10_undo_X5_build : GoodIn wsX10_undo wsX5_build := goodIn_r _ [46, 47, 48, 49, 50, 51, 52, 53, 54, 31, 55, 33, 56, 57, 58, 59, 60, 61, 62, 63, 64, 65, 66, 45, 67, 68, 69, 70, 71, 72, 73, 74, 75, 76, 77, 78, 79, 80, 81, 82, 83, 84, 85, 86, 87, 88, 89, 90, 91, 92, 93, 94, 95, 96, 97, 98, 99, 100, 36, 101, 102, 35, 37, 103, 104, 105, 106, 107, 108, 109, 110, 111, 112, 113, 114, 115, 116, 117, 118, 119, 120, 121, 122, 123, 124, 125, 126, 127, 128, 129, 130, 131, 132, 133, 134, 135, 136, 137, 138, 139, 140, 141, 142, 143, 144, 145, 146, 147, 148, 149, 150, 151, 152, 153, 154, 155, 156, 157, 158, 159, 160, 161, 162, 163, 164, 165, 166, 167, 168, 169, 170, 171, 172, 173, 174, 175, 176, 177, 178, 179, 180, 181, 182, 183, 184, 185, 186, 187, 199, 200, 201, 202, 203, 204, 206, 207, 208, 209, 210, 211, 205] (by decide +kernel) (by decide +kernel)
set_option maxRecDepth 20000 in
theorem gX10_undo_X5_build : GoodIn wsX10_undo (wsV RX10 273 RX5 yX5_build wsX5_build) := goodIn_app (goodIn_of _ (by decide +kernel)) ggX10_undo_X5_build
theorem dX10_undo_0 : decode cX10_undo 0 = .ok (.aload_n 0, 1) := by decide +kernel
theorem dX10_undo_1 : decode cX10_undo 1 = .ok (.getfield 19, 3) := by decide +kernel
theorem dX10_undo_4 : decode cX10_undo 4 = .ok (.getfield 186, 3) := by decide +kernel
theorem dX10_undo_7 : decode cX10_undo 7 = .ok (.ifCond .ne 6, 3) := by decide +kernel
theorem dX10_undo_10 : decode cX10_undo 10 = .ok (.bipush (-2), 2) := by decide +kernel
theorem dX10_undo_12 : decode cX10_undo 12 = .ok (.ireturn, 1) := by decide +kernel
theorem dX10_undo_13 : decode cX10_undo 13 = .ok (.aload_n 0, 1) := by decide +kernel
theorem dX10_undo_14 : decode cX10_undo 14 = .ok (.getfield 19, 3) := by decide +kernel
theorem dX10_undo_17 : decode cX10_undo 17 = .ok (.aload_n 0, 1) := by decide +kernel
theorem dX10_undo_18 : decode cX10_undo 18 = .ok (.getfield 12, 3) := by decide +kernel
theorem dX10_undo_21 : decode cX10_undo 21 = .ok (.getfield 58, 3) := by decide +kernel
theorem dX10_undo_24 : decode cX10_undo 24 = .ok (.invokevirtual 270, 3) := by decide +kernel
theorem dX10_undo_27 : decode cX10_undo 27 = .ok (.aload_n 0, 1) := by decide +kernel
theorem dX10_undo_28 : decode cX10_undo 28 = .ok (.getfield 12, 3) := by decide +kernel
theorem dX10_undo_31 : decode cX10_undo 31 = .ok (.getfield 99, 3) := by decide +kernel
theorem dX10_undo_34 : decode cX10_undo 34 = .ok (.aload_n 0, 1) := by decide +kernel
theorem dX10_undo_35 : decode cX10_undo 35 = .ok (.getfield 12, 3) := by decide +kernel
theorem dX10_undo_38 : decode cX10_undo 38 = .ok (.getfield 58, 3) := by decide +kernel
theorem dX10_undo_41 : decode cX10_undo 41 = .ok (.invokevirtual 273, 3) := by decide +kernel
theorem dX10_undo_44 : decode cX10_undo 44 = .ok (.aload_n 0, 1) := by decide +kernel
theorem dX10_undo_45 : decode cX10_undo 45 = .ok (.getfield 19, 3) := by decide +kernel
theorem dX10_undo_48 : decode cX10_undo 48 = .ok (.getfield 186, 3) := by decide +kernel
theorem dX10_undo_51 : decode cX10_undo 51 = .ok (.ireturn, 1) := by decide +kernel
set_option maxRecDepth 20000 in
theorem ggX10_type_X4_put : GoodIn wsX10_type wsX4_put := goodIn_r _ [8, 9, 19] (by decide +kernel) (by decide +kernel)
set_option maxRecDepth 20000 in
theorem gX10_type_X4_put : GoodIn wsX10_type (wsV RX10 68 RX4 yX4_put wsX4_put) := goodIn_app (goodIn_of _ (by decide +kernel)) ggX10_type_X4_put
theorem dX10_type_0 : decode cX10_type 0 = .ok (.iload_n 1, 1) := by decide +kernel
theorem dX10_type_1 : decode cX10_type 1 = .ok (.bipush 32, 2) := by decide +kernel
theorem dX10_type_3 : decode cX10_type 3 = .ok (.if_icmp .lt 9, 3) := by decide +kernel
theorem dX10_type_6 : decode cX10_type 6 = .ok (.iload_n 1, 1) := by decide +kernel
theorem dX10_type_7 : decode cX10_type 7 = .ok (.bipush 126, 2) := by decide +kernel
theorem dX10_type_9 : decode cX10_type 9 = .ok (.if_icmp .le 5, 3) := by decide +kernel
theorem dX10_type_12 : decode cX10_type 12 = .ok (.iconst (-1), 1) := by decide +kernel
theorem dX10_type_13 : decode cX10_type 13 = .ok (.ireturn, 1) := by decide +kernel
theorem dX10_type_14 : decode cX10_type 14 = .ok (.aload_n 0, 1) := by decide +kernel
theorem dX10_type_15 : decode cX10_type 15 = .ok (.getfield 47, 3) := by decide +kernel
theorem dX10_type_18 : decode cX10_type 18 = .ok (.getfield 96, 3) := by decide +kernel
theorem dX10_type_21 : decode cX10_type 21 = .ok (.sipush 200, 3) := by decide +kernel
theorem dX10_type_24 : decode cX10_type 24 = .ok (.if_icmp .lt 6, 3) := by decide +kernel
theorem dX10_type_27 : decode cX10_type 27 = .ok (.bipush (-3), 2) := by decide +kernel
theorem dX10_type_29 : decode cX10_type 29 = .ok (.ireturn, 1) := by decide +kernel
theorem dX10_type_30 : decode cX10_type 30 = .ok (.aload_n 0, 1) := by decide +kernel
theorem dX10_type_31 : decode cX10_type 31 = .ok (.getfield 47, 3) := by decide +kernel
theorem dX10_type_34 : decode cX10_type 34 = .ok (.getfield 89, 3) := by decide +kernel
theorem dX10_type_37 : decode cX10_type 37 = .ok (.aload_n 0, 1) := by decide +kernel
theorem dX10_type_38 : decode cX10_type 38 = .ok (.getfield 47, 3) := by decide +kernel
theorem dX10_type_41 : decode cX10_type 41 = .ok (.getfield 96, 3) := by decide +kernel
theorem dX10_type_44 : decode cX10_type 44 = .ok (.iload_n 1, 1) := by decide +kernel
theorem dX10_type_45 : decode cX10_type 45 = .ok (.invokevirtual 68, 3) := by decide +kernel
theorem dX10_type_48 : decode cX10_type 48 = .ok (.aload_n 0, 1) := by decide +kernel
theorem dX10_type_49 : decode cX10_type 49 = .ok (.getfield 47, 3) := by decide +kernel
theorem dX10_type_52 : decode cX10_type 52 = .ok (.dup, 1) := by decide +kernel
theorem dX10_type_53 : decode cX10_type 53 = .ok (.getfield 96, 3) := by decide +kernel
theorem dX10_type_56 : decode cX10_type 56 = .ok (.iconst 1, 1) := by decide +kernel
theorem dX10_type_57 : decode cX10_type 57 = .ok (.iadd, 1) := by decide +kernel
theorem dX10_type_58 : decode cX10_type 58 = .ok (.putfield 96, 3) := by decide +kernel
theorem dX10_type_61 : decode cX10_type 61 = .ok (.aload_n 0, 1) := by decide +kernel
theorem dX10_type_62 : decode cX10_type 62 = .ok (.getfield 47, 3) := by decide +kernel
theorem dX10_type_65 : decode cX10_type 65 = .ok (.getfield 96, 3) := by decide +kernel
theorem dX10_type_68 : decode cX10_type 68 = .ok (.ireturn, 1) := by decide +kernel
theorem dX10_clearText_0 : decode cX10_clearText 0 = .ok (.aload_n 0, 1) := by decide +kernel
theorem dX10_clearText_1 : decode cX10_clearText 1 = .ok (.getfield 47, 3) := by decide +kernel
theorem dX10_clearText_4 : decode cX10_clearText 4 = .ok (.getfield 96, 3) := by decide +kernel
theorem dX10_clearText_7 : decode cX10_clearText 7 = .ok (.istore_n 1, 1) := by decide +kernel
theorem dX10_clearText_8 : decode cX10_clearText 8 = .ok (.aload_n 0, 1) := by decide +kernel
theorem dX10_clearText_9 : decode cX10_clearText 9 = .ok (.getfield 47, 3) := by decide +kernel
theorem dX10_clearText_12 : decode cX10_clearText 12 = .ok (.iconst 0, 1) := by decide +kernel
theorem dX10_clearText_13 : decode cX10_clearText 13 = .ok (.putfield 96, 3) := by decide +kernel
theorem dX10_clearText_16 : decode cX10_clearText 16 = .ok (.iload_n 1, 1) := by decide +kernel
theorem dX10_clearText_17 : decode cX10_clearText 17 = .ok (.ireturn, 1) := by decide +kernel
set_option maxRecDepth 20000 in
theorem ggX10_fault_X2_read : GoodIn wsX10_fault wsX2_read := goodIn_r _ [10, 11, 12, 13, 14, 15, 16, 17, 18, 19, 20, 21, 22, 23, 24, 25, 26, 27, 28, 29, 30, 31, 32, 33, 34, 35, 36, 37, 38, 39, 40, 41, 42, 43, 44, 45, 46, 47, 48, 49, 50, 51, 52, 53, 54, 55, 56, 57, 58, 59, 60, 61, 62, 63, 64, 65, 66, 67, 68, 69, 70, 71, 72, 73, 74, 75, 76, 77, 78, 79, 80, 81, 82, 83, 84, 85, 86, 87, 88, 89, 90, 91, 92, 93, 94, 95, 96, 97, 98, 99, 100, 101, 102, 103, 104, 105, 106, 107, 108, 109, 110, 111, 112, 113, 114, 115, 116, 117, 9, 118, 119, 120, 121, 122, 123, 124, 125, 126, 127, 128, 129, 130, 131, 132, 133, 134, 135, 136, 137, 138, 139, 140, 141, 142, 143, 144, 145, 146, 147, 158, 159, 160, 161, 162, 163, 164, 165, 155, 156, 157, 166, 167, 168, 169, 170, 171, 172, 173, 174] (by decide +kernel) (by decide +kernel)
set_option maxRecDepth 20000 in
theorem gX10_fault_X2_read : GoodIn wsX10_fault (wsV RX10 276 RX2 yX2_read wsX2_read) := goodIn_app (goodIn_of _ (by decide +kernel)) ggX10_fault_X2_read
theorem dX10_fault_0 : decode cX10_fault 0 = .ok (.iload_n 1, 1) := by decide +kernel
theorem dX10_fault_1 : decode cX10_fault 1 = .ok (.ifCond .lt 8, 3) := by decide +kernel
theorem dX10_fault_4 : decode cX10_fault 4 = .ok (.iload_n 1, 1) := by decide +kernel
theorem dX10_fault_5 : decode cX10_fault 5 = .ok (.iconst 1, 1) := by decide +kernel
theorem dX10_fault_6 : decode cX10_fault 6 = .ok (.if_icmp .le 5, 3) := by decide +kernel
theorem dX10_fault_9 : decode cX10_fault 9 = .ok (.iconst (-1), 1) := by decide +kernel
theorem dX10_fault_10 : decode cX10_fault 10 = .ok (.ireturn, 1) := by decide +kernel
theorem dX10_fault_11 : decode cX10_fault 11 = .ok (.aload_n 0, 1) := by decide +kernel
theorem dX10_fault_12 : decode cX10_fault 12 = .ok (.getfield 54, 3) := by decide +kernel
theorem dX10_fault_15 : decode cX10_fault 15 = .ok (.aload_n 0, 1) := by decide +kernel
theorem dX10_fault_16 : decode cX10_fault 16 = .ok (.getfield 12, 3) := by decide +kernel
theorem dX10_fault_19 : decode cX10_fault 19 = .ok (.aload_n 0, 1) := by decide +kernel
theorem dX10_fault_20 : decode cX10_fault 20 = .ok (.getfield 47, 3) := by decide +kernel
theorem dX10_fault_23 : decode cX10_fault 23 = .ok (.invokevirtual 276, 3) := by decide +kernel
theorem dX10_fault_26 : decode cX10_fault 26 = .ok (.aload_n 0, 1) := by decide +kernel
theorem dX10_fault_27 : decode cX10_fault 27 = .ok (.getfield 54, 3) := by decide +kernel
theorem dX10_fault_30 : decode cX10_fault 30 = .ok (.getfield 280, 3) := by decide +kernel
theorem dX10_fault_33 : decode cX10_fault 33 = .ok (.ifCond .ne 6, 3) := by decide +kernel
theorem dX10_fault_36 : decode cX10_fault 36 = .ok (.bipush (-4), 2) := by decide +kernel
theorem dX10_fault_38 : decode cX10_fault 38 = .ok (.ireturn, 1) := by decide +kernel
theorem dX10_fault_39 : decode cX10_fault 39 = .ok (.iload_n 1, 1) := by decide +kernel
theorem dX10_fault_40 : decode cX10_fault 40 = .ok (.ifCond .ne 13, 3) := by decide +kernel
theorem dX10_fault_43 : decode cX10_fault 43 = .ok (.aload_n 0, 1) := by decide +kernel
theorem dX10_fault_44 : decode cX10_fault 44 = .ok (.getfield 54, 3) := by decide +kernel
theorem dX10_fault_47 : decode cX10_fault 47 = .ok (.getfield 283, 3) := by decide +kernel
theorem dX10_fault_50 : decode cX10_fault 50 = .ok (.goto 10, 3) := by decide +kernel
theorem dX10_fault_53 : decode cX10_fault 53 = .ok (.aload_n 0, 1) := by decide +kernel
theorem dX10_fault_54 : decode cX10_fault 54 = .ok (.getfield 54, 3) := by decide +kernel
theorem dX10_fault_57 : decode cX10_fault 57 = .ok (.getfield 280, 3) := by decide +kernel
theorem dX10_fault_60 : decode cX10_fault 60 = .ok (.ireturn, 1) := by decide +kernel
set_option maxRecDepth 20000 in
theorem ggX10_moved_X2_read : GoodIn wsX10_moved wsX2_read := goodIn_r _ [9, 10, 11, 12, 13, 14, 15, 16, 17, 18, 19, 20, 21, 22, 23, 24, 25, 26, 27, 28, 29, 30, 31, 32, 33, 34, 35, 36, 37, 38, 39, 40, 41, 42, 43, 44, 45, 46, 47, 48, 49, 50, 51, 52, 53, 54, 55, 56, 57, 58, 59, 60, 61, 62, 63, 64, 65, 66, 67, 68, 69, 70, 71, 72, 73, 74, 75, 76, 77, 78, 79, 80, 81, 82, 83, 84, 85, 86, 87, 88, 89, 90, 91, 92, 93, 94, 95, 96, 97, 98, 99, 100, 101, 102, 103, 104, 105, 106, 107, 108, 109, 110, 111, 112, 113, 114, 115, 116, 8, 117, 118, 119, 120, 121, 122, 123, 124, 125, 126, 127, 128, 129, 130, 131, 132, 133, 134, 135, 136, 137, 138, 139, 140, 141, 142, 143, 144, 145, 146, 157, 158, 159, 160, 161, 162, 163, 164, 154, 155, 156, 165, 166, 167, 168, 169, 170, 171, 172, 173] (by decide +kernel) (by decide +kernel)
set_option maxRecDepth 20000 in
theorem gX10_moved_X2_read : GoodIn wsX10_moved (wsV RX10 276 RX2 yX2_read wsX2_read) := goodIn_app (goodIn_of _ (by decide +kernel)) ggX10_moved_X2_read
theorem dX10_moved_0 : decode cX10_moved 0 = .ok (.aload_n 0, 1) := by decide +kernel
theorem dX10_moved_1 : decode cX10_moved 1 = .ok (.getfield 54, 3) := by decide +kernel
theorem dX10_moved_4 : decode cX10_moved 4 = .ok (.aload_n 0, 1) := by decide +kernel
theorem dX10_moved_5 : decode cX10_moved 5 = .ok (.getfield 12, 3) := by decide +kernel
theorem dX10_moved_8 : decode cX10_moved 8 = .ok (.aload_n 0, 1) := by decide +kernel
theorem dX10_moved_9 : decode cX10_moved 9 = .ok (.getfield 47, 3) := by decide +kernel
theorem dX10_moved_12 : decode cX10_moved 12 = .ok (.invokevirtual 276, 3) := by decide +kernel
theorem dX10_moved_15 : decode cX10_moved 15 = .ok (.aload_n 0, 1) := by decide +kernel
theorem dX10_moved_16 : decode cX10_moved 16 = .ok (.getfield 54, 3) := by decide +kernel
theorem dX10_moved_19 : decode cX10_moved 19 = .ok (.getfield 286, 3) := by decide +kernel
theorem dX10_moved_22 : decode cX10_moved 22 = .ok (.ireturn, 1) := by decide +kernel
theorem dX10_isDirection_0 : decode cX10_isDirection 0 = .ok (.iload_n 0, 1) := by decide +kernel
theorem dX10_isDirection_1 : decode cX10_isDirection 1 = .ok (.ifCond .lt 12, 3) := by decide +kernel
theorem dX10_isDirection_4 : decode cX10_isDirection 4 = .ok (.iload_n 0, 1) := by decide +kernel
theorem dX10_isDirection_5 : decode cX10_isDirection 5 = .ok (.iconst 4, 1) := by decide +kernel
theorem dX10_isDirection_6 : decode cX10_isDirection 6 = .ok (.if_icmp .ge 7, 3) := by decide +kernel
theorem dX10_isDirection_9 : decode cX10_isDirection 9 = .ok (.iconst 1, 1) := by decide +kernel
theorem dX10_isDirection_10 : decode cX10_isDirection 10 = .ok (.goto 4, 3) := by decide +kernel
theorem dX10_isDirection_13 : decode cX10_isDirection 13 = .ok (.iconst 0, 1) := by decide +kernel
theorem dX10_isDirection_14 : decode cX10_isDirection 14 = .ok (.ireturn, 1) := by decide +kernel
set_option maxRecDepth 20000 in
theorem ggX10_isSign_X10_isDirection : GoodIn wsX10_isSign wsX10_isDirection := goodIn_r _ [4] (by decide +kernel) (by decide +kernel)
set_option maxRecDepth 20000 in
theorem gX10_isSign_X10_isDirection : GoodIn wsX10_isSign (va_wsS RX10 134 yX10_isDirection wsX10_isDirection) := goodIn_app (goodIn_of _ (by decide +kernel)) ggX10_isSign_X10_isDirection
theorem dX10_isSign_0 : decode cX10_isSign 0 = .ok (.iload_n 0, 1) := by decide +kernel
theorem dX10_isSign_1 : decode cX10_isSign 1 = .ok (.iconst 2, 1) := by decide +kernel
theorem dX10_isSign_2 : decode cX10_isSign 2 = .ok (.if_icmp .ne 8, 3) := by decide +kernel
theorem dX10_isSign_5 : decode cX10_isSign 5 = .ok (.iload_n 1, 1) := by decide +kernel
theorem dX10_isSign_6 : decode cX10_isSign 6 = .ok (.invokestatic 134, 3) := by decide +kernel
theorem dX10_isSign_9 : decode cX10_isSign 9 = .ok (.ireturn, 1) := by decide +kernel
theorem dX10_isSign_10 : decode cX10_isSign 10 = .ok (.iload_n 0, 1) := by decide +kernel
theorem dX10_isSign_11 : decode cX10_isSign 11 = .ok (.ifCond .lt 16, 3) := by decide +kernel
theorem dX10_isSign_14 : decode cX10_isSign 14 = .ok (.iload_n 0, 1) := by decide +kernel
theorem dX10_isSign_15 : decode cX10_isSign 15 = .ok (.iconst 2, 1) := by decide +kernel
theorem dX10_isSign_16 : decode cX10_isSign 16 = .ok (.if_icmp .ge 11, 3) := by decide +kernel
theorem dX10_isSign_19 : decode cX10_isSign 19 = .ok (.iload_n 1, 1) := by decide +kernel
theorem dX10_isSign_20 : decode cX10_isSign 20 = .ok (.ifCond .ne 7, 3) := by decide +kernel
theorem dX10_isSign_23 : decode cX10_isSign 23 = .ok (.iconst 1, 1) := by decide +kernel
theorem dX10_isSign_24 : decode cX10_isSign 24 = .ok (.goto 4, 3) := by decide +kernel
theorem dX10_isSign_27 : decode cX10_isSign 27 = .ok (.iconst 0, 1) := by decide +kernel
theorem dX10_isSign_28 : decode cX10_isSign 28 = .ok (.ireturn, 1) := by decide +kernel
theorem dX10_opposite_0 : decode cX10_opposite 0 = .ok (.iload_n 0, 1) := by decide +kernel
theorem dX10_opposite_1 : decode cX10_opposite 1 = .ok (.iconst 2, 1) := by decide +kernel
theorem dX10_opposite_2 : decode cX10_opposite 2 = .ok (.iadd, 1) := by decide +kernel
theorem dX10_opposite_3 : decode cX10_opposite 3 = .ok (.iconst 4, 1) := by decide +kernel
theorem dX10_opposite_4 : decode cX10_opposite 4 = .ok (.irem, 1) := by decide +kernel
theorem dX10_opposite_5 : decode cX10_opposite 5 = .ok (.ireturn, 1) := by decide +kernel
set_option maxRecDepth 20000 in
theorem ggX11_init_X11_begins : GoodIn wsX11_init wsX11_begins := goodIn_r _ [18, 5, 19, 20, 21, 17, 22, 23, 24, 25, 26, 27, 28, 29, 30, 31, 32, 33, 34, 35, 36, 37, 38, 39, 40, 41, 42, 43, 44, 45, 46, 47, 48, 49] (by decide +kernel) (by decide +kernel)
set_option maxRecDepth 20000 in
theorem gX11_init_X11_begins : GoodIn wsX11_init (wsV RX11 35 RX11 yX11_begins wsX11_begins) := goodIn_app (goodIn_of _ (by decide +kernel)) ggX11_init_X11_begins
theorem dX11_init_0 : decode cX11_init 0 = .ok (.aload_n 0, 1) := by decide +kernel
theorem dX11_init_1 : decode cX11_init 1 = .ok (.invokespecial 1, 3) := by decide +kernel
theorem dX11_init_4 : decode cX11_init 4 = .ok (.aload_n 0, 1) := by decide +kernel
theorem dX11_init_5 : decode cX11_init 5 = .ok (.sipush 639, 3) := by decide +kernel
theorem dX11_init_8 : decode cX11_init 8 = .ok (.newarray .int, 2) := by decide +kernel
theorem dX11_init_10 : decode cX11_init 10 = .ok (.putfield 7, 3) := by decide +kernel
theorem dX11_init_13 : decode cX11_init 13 = .ok (.aload_n 0, 1) := by decide +kernel
theorem dX11_init_14 : decode cX11_init 14 = .ok (.sipush 3195, 3) := by decide +kernel
theorem dX11_init_17 : decode cX11_init 17 = .ok (.newarray .int, 2) := by decide +kernel
theorem dX11_init_19 : decode cX11_init 19 = .ok (.putfield 13, 3) := by decide +kernel
theorem dX11_init_22 : decode cX11_init 22 = .ok (.aload_n 0, 1) := by decide +kernel
theorem dX11_init_23 : decode cX11_init 23 = .ok (.sipush 200, 3) := by decide +kernel
theorem dX11_init_26 : decode cX11_init 26 = .ok (.newarray .int, 2) := by decide +kernel
theorem dX11_init_28 : decode cX11_init 28 = .ok (.putfield 16, 3) := by decide +kernel
theorem dX11_init_31 : decode cX11_init 31 = .ok (.aload_n 0, 1) := by decide +kernel
theorem dX11_init_32 : decode cX11_init 32 = .ok (.sipush 420, 3) := by decide +kernel
theorem dX11_init_35 : decode cX11_init 35 = .ok (.newarray .int, 2) := by decide +kernel
theorem dX11_init_37 : decode cX11_init 37 = .ok (.putfield 19, 3) := by decide +kernel
theorem dX11_init_40 : decode cX11_init 40 = .ok (.aload_n 0, 1) := by decide +kernel
theorem dX11_init_41 : decode cX11_init 41 = .ok (.sipush 210, 3) := by decide +kernel
theorem dX11_init_44 : decode cX11_init 44 = .ok (.newarray .int, 2) := by decide +kernel
theorem dX11_init_46 : decode cX11_init 46 = .ok (.putfield 22, 3) := by decide +kernel
theorem dX11_init_49 : decode cX11_init 49 = .ok (.aload_n 0, 1) := by decide +kernel
theorem dX11_init_50 : decode cX11_init 50 = .ok (.sipush 210, 3) := by decide +kernel
theorem dX11_init_53 : decode cX11_init 53 = .ok (.newarray .int, 2) := by decide +kernel
theorem dX11_init_55 : decode cX11_init 55 = .ok (.putfield 25, 3) := by decide +kernel
theorem dX11_init_58 : decode cX11_init 58 = .ok (.aload_n 0, 1) := by decide +kernel
theorem dX11_init_59 : decode cX11_init 59 = .ok (.sipush 210, 3) := by decide +kernel
theorem dX11_init_62 : decode cX11_init 62 = .ok (.newarray .int, 2) := by decide +kernel
theorem dX11_init_64 : decode cX11_init 64 = .ok (.putfield 28, 3) := by decide +kernel
theorem dX11_init_67 : decode cX11_init 67 = .ok (.aload_n 0, 1) := by decide +kernel
theorem dX11_init_68 : decode cX11_init 68 = .ok (.sipush 210, 3) := by decide +kernel
theorem dX11_init_71 : decode cX11_init 71 = .ok (.newarray .boolean, 2) := by decide +kernel
theorem dX11_init_73 : decode cX11_init 73 = .ok (.putfield 31, 3) := by decide +kernel
theorem dX11_init_76 : decode cX11_init 76 = .ok (.aload_n 0, 1) := by decide +kernel
theorem dX11_init_77 : decode cX11_init 77 = .ok (.getfield 7, 3) := by decide +kernel
theorem dX11_init_80 : decode cX11_init 80 = .ok (.iconst 0, 1) := by decide +kernel
theorem dX11_init_81 : decode cX11_init 81 = .ok (.iconst 2, 1) := by decide +kernel
theorem dX11_init_82 : decode cX11_init 82 = .ok (.iastore, 1) := by decide +kernel
theorem dX11_init_83 : decode cX11_init 83 = .ok (.aload_n 0, 1) := by decide +kernel
theorem dX11_init_84 : decode cX11_init 84 = .ok (.getfield 7, 3) := by decide +kernel
theorem dX11_init_87 : decode cX11_init 87 = .ok (.iconst 1, 1) := by decide +kernel
theorem dX11_init_88 : decode cX11_init 88 = .ok (.bipush 72, 2) := by decide +kernel
theorem dX11_init_90 : decode cX11_init 90 = .ok (.iastore, 1) := by decide +kernel
theorem dX11_init_91 : decode cX11_init 91 = .ok (.aload_n 0, 1) := by decide +kernel
theorem dX11_init_92 : decode cX11_init 92 = .ok (.getfield 7, 3) := by decide +kernel
theorem dX11_init_95 : decode cX11_init 95 = .ok (.iconst 2, 1) := by decide +kernel
theorem dX11_init_96 : decode cX11_init 96 = .ok (.bipush 73, 2) := by decide +kernel
theorem dX11_init_98 : decode cX11_init 98 = .ok (.iastore, 1) := by decide +kernel
theorem dX11_init_99 : decode cX11_init 99 = .ok (.aload_n 0, 1) := by decide +kernel
theorem dX11_init_100 : decode cX11_init 100 = .ok (.invokevirtual 35, 3) := by decide +kernel
theorem dX11_init_103 : decode cX11_init 103 = .ok (.return_, 1) := by decide +kernel
theorem dX11_in_0 : decode cX11_in 0 = .ok (.iload_n 0, 1) := by decide +kernel
theorem dX11_in_1 : decode cX11_in 1 = .ok (.iload_n 1, 1) := by decide +kernel
theorem dX11_in_2 : decode cX11_in 2 = .ok (.if_icmp .lt 12, 3) := by decide +kernel
theorem dX11_in_5 : decode cX11_in 5 = .ok (.iload_n 0, 1) := by decide +kernel
theorem dX11_in_6 : decode cX11_in 6 = .ok (.iload_n 2, 1) := by decide +kernel
theorem dX11_in_7 : decode cX11_in 7 = .ok (.if_icmp .gt 7, 3) := by decide +kernel
theorem dX11_in_10 : decode cX11_in 10 = .ok (.iconst 1, 1) := by decide +kernel
theorem dX11_in_11 : decode cX11_in 11 = .ok (.goto 4, 3) := by decide +kernel
theorem dX11_in_14 : decode cX11_in 14 = .ok (.iconst 0, 1) := by decide +kernel
theorem dX11_in_15 : decode cX11_in 15 = .ok (.ireturn, 1) := by decide +kernel
theorem dX11_records_0 : decode cX11_records 0 = .ok (.aload_n 0, 1) := by decide +kernel
theorem dX11_records_1 : decode cX11_records 1 = .ok (.getfield 38, 3) := by decide +kernel
theorem dX11_records_4 : decode cX11_records 4 = .ok (.iconst 5, 1) := by decide +kernel
theorem dX11_records_5 : decode cX11_records 5 = .ok (.if_icmp .ne 44, 3) := by decide +kernel
theorem dX11_records_8 : decode cX11_records 8 = .ok (.iconst 0, 1) := by decide +kernel
theorem dX11_records_9 : decode cX11_records 9 = .ok (.istore_n 1, 1) := by decide +kernel
theorem dX11_records_10 : decode cX11_records 10 = .ok (.iload_n 1, 1) := by decide +kernel
theorem dX11_records_11 : decode cX11_records 11 = .ok (.sipush 2556, 3) := by decide +kernel
theorem dX11_records_14 : decode cX11_records 14 = .ok (.if_icmp .ge 25, 3) := by decide +kernel
theorem dX11_records_17 : decode cX11_records 17 = .ok (.aload_n 0, 1) := by decide +kernel
theorem dX11_records_18 : decode cX11_records 18 = .ok (.getfield 13, 3) := by decide +kernel
theorem dX11_records_21 : decode cX11_records 21 = .ok (.iload_n 1, 1) := by decide +kernel
theorem dX11_records_22 : decode cX11_records 22 = .ok (.aload_n 0, 1) := by decide +kernel
theorem dX11_records_23 : decode cX11_records 23 = .ok (.getfield 13, 3) := by decide +kernel
theorem dX11_records_26 : decode cX11_records 26 = .ok (.iload_n 1, 1) := by decide +kernel
theorem dX11_records_27 : decode cX11_records 27 = .ok (.sipush 639, 3) := by decide +kernel
theorem dX11_records_30 : decode cX11_records 30 = .ok (.iadd, 1) := by decide +kernel
theorem dX11_records_31 : decode cX11_records 31 = .ok (.iaload, 1) := by decide +kernel
theorem dX11_records_32 : decode cX11_records 32 = .ok (.iastore, 1) := by decide +kernel
theorem dX11_records_33 : decode cX11_records 33 = .ok (.iinc 1 1, 3) := by decide +kernel
theorem dX11_records_36 : decode cX11_records 36 = .ok (.goto (-26), 3) := by decide +kernel
theorem dX11_records_39 : decode cX11_records 39 = .ok (.aload_n 0, 1) := by decide +kernel
theorem dX11_records_40 : decode cX11_records 40 = .ok (.dup, 1) := by decide +kernel
theorem dX11_records_41 : decode cX11_records 41 = .ok (.getfield 38, 3) := by decide +kernel
theorem dX11_records_44 : decode cX11_records 44 = .ok (.iconst 1, 1) := by decide +kernel
theorem dX11_records_45 : decode cX11_records 45 = .ok (.isub, 1) := by decide +kernel
theorem dX11_records_46 : decode cX11_records 46 = .ok (.putfield 38, 3) := by decide +kernel
theorem dX11_records_49 : decode cX11_records 49 = .ok (.iconst 0, 1) := by decide +kernel
theorem dX11_records_50 : decode cX11_records 50 = .ok (.istore_n 1, 1) := by decide +kernel
theorem dX11_records_51 : decode cX11_records 51 = .ok (.iload_n 1, 1) := by decide +kernel
theorem dX11_records_52 : decode cX11_records 52 = .ok (.sipush 639, 3) := by decide +kernel
theorem dX11_records_55 : decode cX11_records 55 = .ok (.if_icmp .ge 30, 3) := by decide +kernel
theorem dX11_records_58 : decode cX11_records 58 = .ok (.aload_n 0, 1) := by decide +kernel
theorem dX11_records_59 : decode cX11_records 59 = .ok (.getfield 13, 3) := by decide +kernel
theorem dX11_records_62 : decode cX11_records 62 = .ok (.sipush 639, 3) := by decide +kernel
theorem dX11_records_65 : decode cX11_records 65 = .ok (.aload_n 0, 1) := by decide +kernel
theorem dX11_records_66 : decode cX11_records 66 = .ok (.getfield 38, 3) := by decide +kernel
theorem dX11_records_69 : decode cX11_records 69 = .ok (.imul, 1) := by decide +kernel
theorem dX11_records_70 : decode cX11_records 70 = .ok (.iload_n 1, 1) := by decide +kernel
theorem dX11_records_71 : decode cX11_records 71 = .ok (.iadd, 1) := by decide +kernel
theorem dX11_records_72 : decode cX11_records 72 = .ok (.aload_n 0, 1) := by decide +kernel
theorem dX11_records_73 : decode cX11_records 73 = .ok (.getfield 7, 3) := by decide +kernel
theorem dX11_records_76 : decode cX11_records 76 = .ok (.iload_n 1, 1) := by decide +kernel
theorem dX11_records_77 : decode cX11_records 77 = .ok (.iaload, 1) := by decide +kernel
theorem dX11_records_78 : decode cX11_records 78 = .ok (.iastore, 1) := by decide +kernel
theorem dX11_records_79 : decode cX11_records 79 = .ok (.iinc 1 1, 3) := by decide +kernel
theorem dX11_records_82 : decode cX11_records 82 = .ok (.goto (-31), 3) := by decide +kernel
theorem dX11_records_85 : decode cX11_records 85 = .ok (.aload_n 0, 1) := by decide +kernel
theorem dX11_records_86 : decode cX11_records 86 = .ok (.dup, 1) := by decide +kernel
theorem dX11_records_87 : decode cX11_records 87 = .ok (.getfield 38, 3) := by decide +kernel
theorem dX11_records_90 : decode cX11_records 90 = .ok (.iconst 1, 1) := by decide +kernel
theorem dX11_records_91 : decode cX11_records 91 = .ok (.iadd, 1) := by decide +kernel
theorem dX11_records_92 : decode cX11_records 92 = .ok (.putfield 38, 3) := by decide +kernel
theorem dX11_records_95 : decode cX11_records 95 = .ok (.return_, 1) := by decide +kernel
theorem dX11_undo_0 : decode cX11_undo 0 = .ok (.aload_n 0, 1) := by decide +kernel
theorem dX11_undo_1 : decode cX11_undo 1 = .ok (.getfield 38, 3) := by decide +kernel
theorem dX11_undo_4 : decode cX11_undo 4 = .ok (.ifCond .ne 6, 3) := by decide +kernel
theorem dX11_undo_7 : decode cX11_undo 7 = .ok (.bipush (-2), 2) := by decide +kernel
theorem dX11_undo_9 : decode cX11_undo 9 = .ok (.ireturn, 1) := by decide +kernel
theorem dX11_undo_10 : decode cX11_undo 10 = .ok (.aload_n 0, 1) := by decide +kernel
theorem dX11_undo_11 : decode cX11_undo 11 = .ok (.dup, 1) := by decide +kernel
theorem dX11_undo_12 : decode cX11_undo 12 = .ok (.getfield 38, 3) := by decide +kernel
theorem dX11_undo_15 : decode cX11_undo 15 = .ok (.iconst 1, 1) := by decide +kernel
theorem dX11_undo_16 : decode cX11_undo 16 = .ok (.isub, 1) := by decide +kernel
theorem dX11_undo_17 : decode cX11_undo 17 = .ok (.putfield 38, 3) := by decide +kernel
theorem dX11_undo_20 : decode cX11_undo 20 = .ok (.iconst 0, 1) := by decide +kernel
theorem dX11_undo_21 : decode cX11_undo 21 = .ok (.istore_n 1, 1) := by decide +kernel
theorem dX11_undo_22 : decode cX11_undo 22 = .ok (.iload_n 1, 1) := by decide +kernel
theorem dX11_undo_23 : decode cX11_undo 23 = .ok (.sipush 639, 3) := by decide +kernel
theorem dX11_undo_26 : decode cX11_undo 26 = .ok (.if_icmp .ge 30, 3) := by decide +kernel
theorem dX11_undo_29 : decode cX11_undo 29 = .ok (.aload_n 0, 1) := by decide +kernel
theorem dX11_undo_30 : decode cX11_undo 30 = .ok (.getfield 7, 3) := by decide +kernel
theorem dX11_undo_33 : decode cX11_undo 33 = .ok (.iload_n 1, 1) := by decide +kernel
theorem dX11_undo_34 : decode cX11_undo 34 = .ok (.aload_n 0, 1) := by decide +kernel
theorem dX11_undo_35 : decode cX11_undo 35 = .ok (.getfield 13, 3) := by decide +kernel
theorem dX11_undo_38 : decode cX11_undo 38 = .ok (.sipush 639, 3) := by decide +kernel
theorem dX11_undo_41 : decode cX11_undo 41 = .ok (.aload_n 0, 1) := by decide +kernel
theorem dX11_undo_42 : decode cX11_undo 42 = .ok (.getfield 38, 3) := by decide +kernel
theorem dX11_undo_45 : decode cX11_undo 45 = .ok (.imul, 1) := by decide +kernel
theorem dX11_undo_46 : decode cX11_undo 46 = .ok (.iload_n 1, 1) := by decide +kernel
theorem dX11_undo_47 : decode cX11_undo 47 = .ok (.iadd, 1) := by decide +kernel
theorem dX11_undo_48 : decode cX11_undo 48 = .ok (.iaload, 1) := by decide +kernel
theorem dX11_undo_49 : decode cX11_undo 49 = .ok (.iastore, 1) := by decide +kernel
theorem dX11_undo_50 : decode cX11_undo 50 = .ok (.iinc 1 1, 3) := by decide +kernel
theorem dX11_undo_53 : decode cX11_undo 53 = .ok (.goto (-31), 3) := by decide +kernel
theorem dX11_undo_56 : decode cX11_undo 56 = .ok (.aload_n 0, 1) := by decide +kernel
theorem dX11_undo_57 : decode cX11_undo 57 = .ok (.getfield 38, 3) := by decide +kernel
theorem dX11_undo_60 : decode cX11_undo 60 = .ok (.ireturn, 1) := by decide +kernel
set_option maxRecDepth 20000 in
theorem ggX11_shape_X11_rows : GoodIn wsX11_shape wsX11_rows := goodIn_r _ [4] (by decide +kernel) (by decide +kernel)
set_option maxRecDepth 20000 in
theorem gX11_shape_X11_rows : GoodIn wsX11_shape (va_wsS RX11 42 yX11_rows wsX11_rows) := goodIn_app (goodIn_of _ (by decide +kernel)) ggX11_shape_X11_rows
theorem dX11_shape_0 : decode cX11_shape 0 = .ok (.iload_n 0, 1) := by decide +kernel
theorem dX11_shape_1 : decode cX11_shape 1 = .ok (.tableswitch 307 65 87 #[107, 307, 121, 307, 135, 149, 163, 177, 191, 307, 307, 200, 214, 307, 228, 242, 307, 307, 256, 269, 279, 307, 293], 107) := by decide +kernel
theorem dX11_shape_108 : decode cX11_shape 108 = .ok (.bipush 31, 2) := by decide +kernel
theorem dX11_shape_110 : decode cX11_shape 110 = .ok (.bipush 17, 2) := by decide +kernel
theorem dX11_shape_112 : decode cX11_shape 112 = .ok (.bipush 31, 2) := by decide +kernel
theorem dX11_shape_114 : decode cX11_shape 114 = .ok (.bipush 17, 2) := by decide +kernel
theorem dX11_shape_116 : decode cX11_shape 116 = .ok (.bipush 17, 2) := by decide +kernel
theorem dX11_shape_118 : decode cX11_shape 118 = .ok (.invokestatic 42, 3) := by decide +kernel
theorem dX11_shape_121 : decode cX11_shape 121 = .ok (.ireturn, 1) := by decide +kernel
theorem dX11_shape_122 : decode cX11_shape 122 = .ok (.bipush 31, 2) := by decide +kernel
theorem dX11_shape_124 : decode cX11_shape 124 = .ok (.bipush 16, 2) := by decide +kernel
theorem dX11_shape_126 : decode cX11_shape 126 = .ok (.bipush 16, 2) := by decide +kernel
theorem dX11_shape_128 : decode cX11_shape 128 = .ok (.bipush 16, 2) := by decide +kernel
theorem dX11_shape_130 : decode cX11_shape 130 = .ok (.bipush 31, 2) := by decide +kernel
theorem dX11_shape_132 : decode cX11_shape 132 = .ok (.invokestatic 42, 3) := by decide +kernel
theorem dX11_shape_135 : decode cX11_shape 135 = .ok (.ireturn, 1) := by decide +kernel
theorem dX11_shape_136 : decode cX11_shape 136 = .ok (.bipush 31, 2) := by decide +kernel
theorem dX11_shape_138 : decode cX11_shape 138 = .ok (.bipush 16, 2) := by decide +kernel
theorem dX11_shape_140 : decode cX11_shape 140 = .ok (.bipush 30, 2) := by decide +kernel
theorem dX11_shape_142 : decode cX11_shape 142 = .ok (.bipush 16, 2) := by decide +kernel
theorem dX11_shape_144 : decode cX11_shape 144 = .ok (.bipush 31, 2) := by decide +kernel
theorem dX11_shape_146 : decode cX11_shape 146 = .ok (.invokestatic 42, 3) := by decide +kernel
theorem dX11_shape_149 : decode cX11_shape 149 = .ok (.ireturn, 1) := by decide +kernel
theorem dX11_shape_150 : decode cX11_shape 150 = .ok (.bipush 31, 2) := by decide +kernel
theorem dX11_shape_152 : decode cX11_shape 152 = .ok (.bipush 16, 2) := by decide +kernel
theorem dX11_shape_154 : decode cX11_shape 154 = .ok (.bipush 30, 2) := by decide +kernel
theorem dX11_shape_156 : decode cX11_shape 156 = .ok (.bipush 16, 2) := by decide +kernel
theorem dX11_shape_158 : decode cX11_shape 158 = .ok (.bipush 16, 2) := by decide +kernel
theorem dX11_shape_160 : decode cX11_shape 160 = .ok (.invokestatic 42, 3) := by decide +kernel
theorem dX11_shape_163 : decode cX11_shape 163 = .ok (.ireturn, 1) := by decide +kernel
theorem dX11_shape_164 : decode cX11_shape 164 = .ok (.bipush 31, 2) := by decide +kernel
theorem dX11_shape_166 : decode cX11_shape 166 = .ok (.bipush 16, 2) := by decide +kernel
theorem dX11_shape_168 : decode cX11_shape 168 = .ok (.bipush 23, 2) := by decide +kernel
theorem dX11_shape_170 : decode cX11_shape 170 = .ok (.bipush 17, 2) := by decide +kernel
theorem dX11_shape_172 : decode cX11_shape 172 = .ok (.bipush 31, 2) := by decide +kernel
theorem dX11_shape_174 : decode cX11_shape 174 = .ok (.invokestatic 42, 3) := by decide +kernel
theorem dX11_shape_177 : decode cX11_shape 177 = .ok (.ireturn, 1) := by decide +kernel
theorem dX11_shape_178 : decode cX11_shape 178 = .ok (.bipush 17, 2) := by decide +kernel
theorem dX11_shape_180 : decode cX11_shape 180 = .ok (.bipush 17, 2) := by decide +kernel
theorem dX11_shape_182 : decode cX11_shape 182 = .ok (.bipush 31, 2) := by decide +kernel
theorem dX11_shape_184 : decode cX11_shape 184 = .ok (.bipush 17, 2) := by decide +kernel
theorem dX11_shape_186 : decode cX11_shape 186 = .ok (.bipush 17, 2) := by decide +kernel
theorem dX11_shape_188 : decode cX11_shape 188 = .ok (.invokestatic 42, 3) := by decide +kernel
theorem dX11_shape_191 : decode cX11_shape 191 = .ok (.ireturn, 1) := by decide +kernel
theorem dX11_shape_192 : decode cX11_shape 192 = .ok (.iconst 4, 1) := by decide +kernel
theorem dX11_shape_193 : decode cX11_shape 193 = .ok (.iconst 4, 1) := by decide +kernel
theorem dX11_shape_194 : decode cX11_shape 194 = .ok (.iconst 4, 1) := by decide +kernel
theorem dX11_shape_195 : decode cX11_shape 195 = .ok (.iconst 4, 1) := by decide +kernel
theorem dX11_shape_196 : decode cX11_shape 196 = .ok (.iconst 4, 1) := by decide +kernel
theorem dX11_shape_197 : decode cX11_shape 197 = .ok (.invokestatic 42, 3) := by decide +kernel
theorem dX11_shape_200 : decode cX11_shape 200 = .ok (.ireturn, 1) := by decide +kernel
theorem dX11_shape_201 : decode cX11_shape 201 = .ok (.bipush 16, 2) := by decide +kernel
theorem dX11_shape_203 : decode cX11_shape 203 = .ok (.bipush 16, 2) := by decide +kernel
theorem dX11_shape_205 : decode cX11_shape 205 = .ok (.bipush 16, 2) := by decide +kernel
theorem dX11_shape_207 : decode cX11_shape 207 = .ok (.bipush 16, 2) := by decide +kernel
theorem dX11_shape_209 : decode cX11_shape 209 = .ok (.bipush 31, 2) := by decide +kernel
theorem dX11_shape_211 : decode cX11_shape 211 = .ok (.invokestatic 42, 3) := by decide +kernel
theorem dX11_shape_214 : decode cX11_shape 214 = .ok (.ireturn, 1) := by decide +kernel
theorem dX11_shape_215 : decode cX11_shape 215 = .ok (.bipush 31, 2) := by decide +kernel
theorem dX11_shape_217 : decode cX11_shape 217 = .ok (.bipush 21, 2) := by decide +kernel
theorem dX11_shape_219 : decode cX11_shape 219 = .ok (.bipush 21, 2) := by decide +kernel
theorem dX11_shape_221 : decode cX11_shape 221 = .ok (.bipush 21, 2) := by decide +kernel
theorem dX11_shape_223 : decode cX11_shape 223 = .ok (.bipush 21, 2) := by decide +kernel
theorem dX11_shape_225 : decode cX11_shape 225 = .ok (.invokestatic 42, 3) := by decide +kernel
theorem dX11_shape_228 : decode cX11_shape 228 = .ok (.ireturn, 1) := by decide +kernel
theorem dX11_shape_229 : decode cX11_shape 229 = .ok (.bipush 31, 2) := by decide +kernel
theorem dX11_shape_231 : decode cX11_shape 231 = .ok (.bipush 17, 2) := by decide +kernel
theorem dX11_shape_233 : decode cX11_shape 233 = .ok (.bipush 17, 2) := by decide +kernel
theorem dX11_shape_235 : decode cX11_shape 235 = .ok (.bipush 17, 2) := by decide +kernel
theorem dX11_shape_237 : decode cX11_shape 237 = .ok (.bipush 31, 2) := by decide +kernel
theorem dX11_shape_239 : decode cX11_shape 239 = .ok (.invokestatic 42, 3) := by decide +kernel
theorem dX11_shape_242 : decode cX11_shape 242 = .ok (.ireturn, 1) := by decide +kernel
theorem dX11_shape_243 : decode cX11_shape 243 = .ok (.bipush 31, 2) := by decide +kernel
theorem dX11_shape_245 : decode cX11_shape 245 = .ok (.bipush 17, 2) := by decide +kernel
theorem dX11_shape_247 : decode cX11_shape 247 = .ok (.bipush 31, 2) := by decide +kernel
theorem dX11_shape_249 : decode cX11_shape 249 = .ok (.bipush 16, 2) := by decide +kernel
theorem dX11_shape_251 : decode cX11_shape 251 = .ok (.bipush 16, 2) := by decide +kernel
theorem dX11_shape_253 : decode cX11_shape 253 = .ok (.invokestatic 42, 3) := by decide +kernel
theorem dX11_shape_256 : decode cX11_shape 256 = .ok (.ireturn, 1) := by decide +kernel
theorem dX11_shape_257 : decode cX11_shape 257 = .ok (.bipush 31, 2) := by decide +kernel
theorem dX11_shape_259 : decode cX11_shape 259 = .ok (.bipush 16, 2) := by decide +kernel
theorem dX11_shape_261 : decode cX11_shape 261 = .ok (.bipush 31, 2) := by decide +kernel
theorem dX11_shape_263 : decode cX11_shape 263 = .ok (.iconst 1, 1) := by decide +kernel
theorem dX11_shape_264 : decode cX11_shape 264 = .ok (.bipush 31, 2) := by decide +kernel
theorem dX11_shape_266 : decode cX11_shape 266 = .ok (.invokestatic 42, 3) := by decide +kernel
theorem dX11_shape_269 : decode cX11_shape 269 = .ok (.ireturn, 1) := by decide +kernel
theorem dX11_shape_270 : decode cX11_shape 270 = .ok (.bipush 31, 2) := by decide +kernel
theorem dX11_shape_272 : decode cX11_shape 272 = .ok (.iconst 4, 1) := by decide +kernel
theorem dX11_shape_273 : decode cX11_shape 273 = .ok (.iconst 4, 1) := by decide +kernel
theorem dX11_shape_274 : decode cX11_shape 274 = .ok (.iconst 4, 1) := by decide +kernel
theorem dX11_shape_275 : decode cX11_shape 275 = .ok (.iconst 4, 1) := by decide +kernel
theorem dX11_shape_276 : decode cX11_shape 276 = .ok (.invokestatic 42, 3) := by decide +kernel
theorem dX11_shape_279 : decode cX11_shape 279 = .ok (.ireturn, 1) := by decide +kernel
theorem dX11_shape_280 : decode cX11_shape 280 = .ok (.bipush 17, 2) := by decide +kernel
theorem dX11_shape_282 : decode cX11_shape 282 = .ok (.bipush 17, 2) := by decide +kernel
theorem dX11_shape_284 : decode cX11_shape 284 = .ok (.bipush 17, 2) := by decide +kernel
theorem dX11_shape_286 : decode cX11_shape 286 = .ok (.bipush 17, 2) := by decide +kernel
theorem dX11_shape_288 : decode cX11_shape 288 = .ok (.bipush 31, 2) := by decide +kernel
theorem dX11_shape_290 : decode cX11_shape 290 = .ok (.invokestatic 42, 3) := by decide +kernel
theorem dX11_shape_293 : decode cX11_shape 293 = .ok (.ireturn, 1) := by decide +kernel
theorem dX11_shape_294 : decode cX11_shape 294 = .ok (.bipush 21, 2) := by decide +kernel
theorem dX11_shape_296 : decode cX11_shape 296 = .ok (.bipush 21, 2) := by decide +kernel
theorem dX11_shape_298 : decode cX11_shape 298 = .ok (.bipush 21, 2) := by decide +kernel
theorem dX11_shape_300 : decode cX11_shape 300 = .ok (.bipush 21, 2) := by decide +kernel
theorem dX11_shape_302 : decode cX11_shape 302 = .ok (.bipush 31, 2) := by decide +kernel
theorem dX11_shape_304 : decode cX11_shape 304 = .ok (.invokestatic 42, 3) := by decide +kernel
theorem dX11_shape_307 : decode cX11_shape 307 = .ok (.ireturn, 1) := by decide +kernel
theorem dX11_shape_308 : decode cX11_shape 308 = .ok (.iconst 0, 1) := by decide +kernel
theorem dX11_shape_309 : decode cX11_shape 309 = .ok (.ireturn, 1) := by decide +kernel
theorem dX11_rows_0 : decode cX11_rows 0 = .ok (.bipush 32, 2) := by decide +kernel
theorem dX11_rows_2 : decode cX11_rows 2 = .ok (.iload_n 0, 1) := by decide +kernel
theorem dX11_rows_3 : decode cX11_rows 3 = .ok (.imul, 1) := by decide +kernel
theorem dX11_rows_4 : decode cX11_rows 4 = .ok (.iload_n 1, 1) := by decide +kernel
theorem dX11_rows_5 : decode cX11_rows 5 = .ok (.iadd, 1) := by decide +kernel
theorem dX11_rows_6 : decode cX11_rows 6 = .ok (.bipush 32, 2) := by decide +kernel
theorem dX11_rows_8 : decode cX11_rows 8 = .ok (.imul, 1) := by decide +kernel
theorem dX11_rows_9 : decode cX11_rows 9 = .ok (.iload_n 2, 1) := by decide +kernel
theorem dX11_rows_10 : decode cX11_rows 10 = .ok (.iadd, 1) := by decide +kernel
theorem dX11_rows_11 : decode cX11_rows 11 = .ok (.bipush 32, 2) := by decide +kernel
theorem dX11_rows_13 : decode cX11_rows 13 = .ok (.imul, 1) := by decide +kernel
theorem dX11_rows_14 : decode cX11_rows 14 = .ok (.iload_n 3, 1) := by decide +kernel
theorem dX11_rows_15 : decode cX11_rows 15 = .ok (.iadd, 1) := by decide +kernel
theorem dX11_rows_16 : decode cX11_rows 16 = .ok (.bipush 32, 2) := by decide +kernel
theorem dX11_rows_18 : decode cX11_rows 18 = .ok (.imul, 1) := by decide +kernel
theorem dX11_rows_19 : decode cX11_rows 19 = .ok (.iload 4, 2) := by decide +kernel
theorem dX11_rows_21 : decode cX11_rows 21 = .ok (.iadd, 1) := by decide +kernel
theorem dX11_rows_22 : decode cX11_rows 22 = .ok (.ireturn, 1) := by decide +kernel
theorem dX11_wide_0 : decode cX11_wide 0 = .ok (.bipush 6, 2) := by decide +kernel
theorem dX11_wide_2 : decode cX11_wide 2 = .ok (.aload_n 0, 1) := by decide +kernel
theorem dX11_wide_3 : decode cX11_wide 3 = .ok (.getfield 7, 3) := by decide +kernel
theorem dX11_wide_6 : decode cX11_wide 6 = .ok (.iconst 0, 1) := by decide +kernel
theorem dX11_wide_7 : decode cX11_wide 7 = .ok (.iaload, 1) := by decide +kernel
theorem dX11_wide_8 : decode cX11_wide 8 = .ok (.imul, 1) := by decide +kernel
theorem dX11_wide_9 : decode cX11_wide 9 = .ok (.iconst 1, 1) := by decide +kernel
theorem dX11_wide_10 : decode cX11_wide 10 = .ok (.isub, 1) := by decide +kernel
theorem dX11_wide_11 : decode cX11_wide 11 = .ok (.ireturn, 1) := by decide +kernel
set_option maxRecDepth 20000 in
theorem ggX11_cells_X11_wide : GoodIn wsX11_cells wsX11_wide := goodIn_r _ [5, 6, 7, 8, 9, 10, 11, 12, 13, 14, 15, 16, 17, 18, 19, 20, 21, 22, 23] (by decide +kernel) (by decide +kernel)
set_option maxRecDepth 20000 in
theorem gX11_cells_X11_wide : GoodIn wsX11_cells (wsV RX11 46 RX11 yX11_wide wsX11_wide) := goodIn_app (goodIn_of _ (by decide +kernel)) ggX11_cells_X11_wide
theorem dX11_cells_0 : decode cX11_cells 0 = .ok (.bipush 6, 2) := by decide +kernel
theorem dX11_cells_2 : decode cX11_cells 2 = .ok (.aload_n 0, 1) := by decide +kernel
theorem dX11_cells_3 : decode cX11_cells 3 = .ok (.invokevirtual 46, 3) := by decide +kernel
theorem dX11_cells_6 : decode cX11_cells 6 = .ok (.imul, 1) := by decide +kernel
theorem dX11_cells_7 : decode cX11_cells 7 = .ok (.ireturn, 1) := by decide +kernel
set_option maxRecDepth 20000 in
theorem ggX11_isRoomAt_X11_wide : GoodIn wsX11_isRoomAt wsX11_wide := goodIn_r _ [6, 1, 13, 14, 15, 16, 17, 18, 19, 20, 21, 22, 23, 24, 25, 26, 27, 28, 29] (by decide +kernel) (by decide +kernel)
set_option maxRecDepth 20000 in
theorem gX11_isRoomAt_X11_wide : GoodIn wsX11_isRoomAt (wsV RX11 46 RX11 yX11_wide wsX11_wide) := goodIn_app (goodIn_of _ (by decide +kernel)) ggX11_isRoomAt_X11_wide
set_option maxRecDepth 20000 in
theorem ggX11_isRoomAt_X11_shape : GoodIn wsX11_isRoomAt wsX11_shape := goodIn_r _ [9, 10, 11, 5, 12] (by decide +kernel) (by decide +kernel)
set_option maxRecDepth 20000 in
theorem gX11_isRoomAt_X11_shape : GoodIn wsX11_isRoomAt (va_wsS RX11 50 yX11_shape wsX11_shape) := goodIn_app (goodIn_of _ (by decide +kernel)) ggX11_isRoomAt_X11_shape
theorem dX11_isRoomAt_0 : decode cX11_isRoomAt 0 = .ok (.iload_n 1, 1) := by decide +kernel
theorem dX11_isRoomAt_1 : decode cX11_isRoomAt 1 = .ok (.aload_n 0, 1) := by decide +kernel
theorem dX11_isRoomAt_2 : decode cX11_isRoomAt 2 = .ok (.invokevirtual 46, 3) := by decide +kernel
theorem dX11_isRoomAt_5 : decode cX11_isRoomAt 5 = .ok (.idiv, 1) := by decide +kernel
theorem dX11_isRoomAt_6 : decode cX11_isRoomAt 6 = .ok (.istore_n 2, 1) := by decide +kernel
theorem dX11_isRoomAt_7 : decode cX11_isRoomAt 7 = .ok (.iload_n 1, 1) := by decide +kernel
theorem dX11_isRoomAt_8 : decode cX11_isRoomAt 8 = .ok (.aload_n 0, 1) := by decide +kernel
theorem dX11_isRoomAt_9 : decode cX11_isRoomAt 9 = .ok (.invokevirtual 46, 3) := by decide +kernel
theorem dX11_isRoomAt_12 : decode cX11_isRoomAt 12 = .ok (.irem, 1) := by decide +kernel
theorem dX11_isRoomAt_13 : decode cX11_isRoomAt 13 = .ok (.istore_n 3, 1) := by decide +kernel
theorem dX11_isRoomAt_14 : decode cX11_isRoomAt 14 = .ok (.iload_n 2, 1) := by decide +kernel
theorem dX11_isRoomAt_15 : decode cX11_isRoomAt 15 = .ok (.iconst 5, 1) := by decide +kernel
theorem dX11_isRoomAt_16 : decode cX11_isRoomAt 16 = .ok (.if_icmp .ne 5, 3) := by decide +kernel
theorem dX11_isRoomAt_19 : decode cX11_isRoomAt 19 = .ok (.iconst 1, 1) := by decide +kernel
theorem dX11_isRoomAt_20 : decode cX11_isRoomAt 20 = .ok (.ireturn, 1) := by decide +kernel
theorem dX11_isRoomAt_21 : decode cX11_isRoomAt 21 = .ok (.iload_n 3, 1) := by decide +kernel
theorem dX11_isRoomAt_22 : decode cX11_isRoomAt 22 = .ok (.bipush 6, 2) := by decide +kernel
theorem dX11_isRoomAt_24 : decode cX11_isRoomAt 24 = .ok (.irem, 1) := by decide +kernel
theorem dX11_isRoomAt_25 : decode cX11_isRoomAt 25 = .ok (.iconst 5, 1) := by decide +kernel
theorem dX11_isRoomAt_26 : decode cX11_isRoomAt 26 = .ok (.if_icmp .ge 40, 3) := by decide +kernel
theorem dX11_isRoomAt_29 : decode cX11_isRoomAt 29 = .ok (.aload_n 0, 1) := by decide +kernel
theorem dX11_isRoomAt_30 : decode cX11_isRoomAt 30 = .ok (.getfield 7, 3) := by decide +kernel
theorem dX11_isRoomAt_33 : decode cX11_isRoomAt 33 = .ok (.iconst 1, 1) := by decide +kernel
theorem dX11_isRoomAt_34 : decode cX11_isRoomAt 34 = .ok (.iload_n 3, 1) := by decide +kernel
theorem dX11_isRoomAt_35 : decode cX11_isRoomAt 35 = .ok (.bipush 6, 2) := by decide +kernel
theorem dX11_isRoomAt_37 : decode cX11_isRoomAt 37 = .ok (.idiv, 1) := by decide +kernel
theorem dX11_isRoomAt_38 : decode cX11_isRoomAt 38 = .ok (.iadd, 1) := by decide +kernel
theorem dX11_isRoomAt_39 : decode cX11_isRoomAt 39 = .ok (.iaload, 1) := by decide +kernel
theorem dX11_isRoomAt_40 : decode cX11_isRoomAt 40 = .ok (.invokestatic 50, 3) := by decide +kernel
theorem dX11_isRoomAt_43 : decode cX11_isRoomAt 43 = .ok (.iconst 5, 1) := by decide +kernel
theorem dX11_isRoomAt_44 : decode cX11_isRoomAt 44 = .ok (.iconst 4, 1) := by decide +kernel
theorem dX11_isRoomAt_45 : decode cX11_isRoomAt 45 = .ok (.iload_n 2, 1) := by decide +kernel
theorem dX11_isRoomAt_46 : decode cX11_isRoomAt 46 = .ok (.isub, 1) := by decide +kernel
theorem dX11_isRoomAt_47 : decode cX11_isRoomAt 47 = .ok (.imul, 1) := by decide +kernel
theorem dX11_isRoomAt_48 : decode cX11_isRoomAt 48 = .ok (.ishr, 1) := by decide +kernel
theorem dX11_isRoomAt_49 : decode cX11_isRoomAt 49 = .ok (.iconst 4, 1) := by decide +kernel
theorem dX11_isRoomAt_50 : decode cX11_isRoomAt 50 = .ok (.iload_n 3, 1) := by decide +kernel
theorem dX11_isRoomAt_51 : decode cX11_isRoomAt 51 = .ok (.bipush 6, 2) := by decide +kernel
theorem dX11_isRoomAt_53 : decode cX11_isRoomAt 53 = .ok (.irem, 1) := by decide +kernel
theorem dX11_isRoomAt_54 : decode cX11_isRoomAt 54 = .ok (.isub, 1) := by decide +kernel
theorem dX11_isRoomAt_55 : decode cX11_isRoomAt 55 = .ok (.ishr, 1) := by decide +kernel
theorem dX11_isRoomAt_56 : decode cX11_isRoomAt 56 = .ok (.iconst 1, 1) := by decide +kernel
theorem dX11_isRoomAt_57 : decode cX11_isRoomAt 57 = .ok (.iand, 1) := by decide +kernel
theorem dX11_isRoomAt_58 : decode cX11_isRoomAt 58 = .ok (.iconst 1, 1) := by decide +kernel
theorem dX11_isRoomAt_59 : decode cX11_isRoomAt 59 = .ok (.if_icmp .ne 7, 3) := by decide +kernel
theorem dX11_isRoomAt_62 : decode cX11_isRoomAt 62 = .ok (.iconst 1, 1) := by decide +kernel
theorem dX11_isRoomAt_63 : decode cX11_isRoomAt 63 = .ok (.goto 4, 3) := by decide +kernel
theorem dX11_isRoomAt_66 : decode cX11_isRoomAt 66 = .ok (.iconst 0, 1) := by decide +kernel
theorem dX11_isRoomAt_67 : decode cX11_isRoomAt 67 = .ok (.ireturn, 1) := by decide +kernel
set_option maxRecDepth 20000 in
theorem ggX11_hasRoom_X11_cells : GoodIn wsX11_hasRoom wsX11_cells := goodIn_r _ [5, 6, 7, 8, 4, 9, 10, 24, 25, 26, 27, 28, 29, 30, 31, 32, 33, 34, 35, 36, 37, 38, 39, 40] (by decide +kernel) (by decide +kernel)
set_option maxRecDepth 20000 in
theorem gX11_hasRoom_X11_cells : GoodIn wsX11_hasRoom (wsV RX11 54 RX11 yX11_cells wsX11_cells) := goodIn_app (goodIn_of _ (by decide +kernel)) ggX11_hasRoom_X11_cells
set_option maxRecDepth 20000 in
theorem ggX11_hasRoom_X11_in : GoodIn wsX11_hasRoom wsX11_in := goodIn_r _ [13] (by decide +kernel) (by decide +kernel)
set_option maxRecDepth 20000 in
theorem gX11_hasRoom_X11_in : GoodIn wsX11_hasRoom (va_wsS RX11 57 yX11_in wsX11_in) := goodIn_app (goodIn_of _ (by decide +kernel)) ggX11_hasRoom_X11_in
set_option maxRecDepth 20000 in
theorem ggX11_hasRoom_X11_isRoomAt : GoodIn wsX11_hasRoom wsX11_isRoomAt := goodIn_r _ [17, 10, 6, 7, 8, 4, 9, 18, 19, 20, 21, 22, 23, 24, 25, 26, 27, 28, 29, 30, 31, 32, 33, 34, 35, 36, 37, 38, 39, 40] (by decide +kernel) (by decide +kernel)
set_option maxRecDepth 20000 in
theorem gX11_hasRoom_X11_isRoomAt : GoodIn wsX11_hasRoom (wsV RX11 61 RX11 yX11_isRoomAt wsX11_isRoomAt) := goodIn_app (goodIn_of _ (by decide +kernel)) ggX11_hasRoom_X11_isRoomAt
theorem dX11_hasRoom_0 : decode cX11_hasRoom 0 = .ok (.iload_n 1, 1) := by decide +kernel
theorem dX11_hasRoom_1 : decode cX11_hasRoom 1 = .ok (.iconst 0, 1) := by decide +kernel
theorem dX11_hasRoom_2 : decode cX11_hasRoom 2 = .ok (.aload_n 0, 1) := by decide +kernel
theorem dX11_hasRoom_3 : decode cX11_hasRoom 3 = .ok (.invokevirtual 54, 3) := by decide +kernel
theorem dX11_hasRoom_6 : decode cX11_hasRoom 6 = .ok (.iconst 1, 1) := by decide +kernel
theorem dX11_hasRoom_7 : decode cX11_hasRoom 7 = .ok (.isub, 1) := by decide +kernel
theorem dX11_hasRoom_8 : decode cX11_hasRoom 8 = .ok (.invokestatic 57, 3) := by decide +kernel
theorem dX11_hasRoom_11 : decode cX11_hasRoom 11 = .ok (.ifCond .eq 15, 3) := by decide +kernel
theorem dX11_hasRoom_14 : decode cX11_hasRoom 14 = .ok (.aload_n 0, 1) := by decide +kernel
theorem dX11_hasRoom_15 : decode cX11_hasRoom 15 = .ok (.iload_n 1, 1) := by decide +kernel
theorem dX11_hasRoom_16 : decode cX11_hasRoom 16 = .ok (.invokevirtual 61, 3) := by decide +kernel
theorem dX11_hasRoom_19 : decode cX11_hasRoom 19 = .ok (.ifCond .eq 7, 3) := by decide +kernel
theorem dX11_hasRoom_22 : decode cX11_hasRoom 22 = .ok (.iconst 1, 1) := by decide +kernel
theorem dX11_hasRoom_23 : decode cX11_hasRoom 23 = .ok (.goto 4, 3) := by decide +kernel
theorem dX11_hasRoom_26 : decode cX11_hasRoom 26 = .ok (.iconst 0, 1) := by decide +kernel
theorem dX11_hasRoom_27 : decode cX11_hasRoom 27 = .ok (.ireturn, 1) := by decide +kernel
set_option maxRecDepth 20000 in
theorem ggX11_begins_X11_wide : GoodIn wsX11_begins wsX11_wide := goodIn_r _ [6, 1, 17, 18, 19, 20, 21, 22, 23, 24, 25, 26, 27, 28, 29, 30, 31, 32, 33] (by decide +kernel) (by decide +kernel)
set_option maxRecDepth 20000 in
theorem gX11_begins_X11_wide : GoodIn wsX11_begins (wsV RX11 46 RX11 yX11_wide wsX11_wide) := goodIn_app (goodIn_of _ (by decide +kernel)) ggX11_begins_X11_wide
set_option maxRecDepth 20000 in
theorem ggX11_begins_X11_isRoomAt : GoodIn wsX11_begins wsX11_isRoomAt := goodIn_r _ [10, 1, 2, 3, 4, 5, 6, 11, 12, 13, 14, 15, 16, 17, 18, 19, 20, 21, 22, 23, 24, 25, 26, 27, 28, 29, 30, 31, 32, 33] (by decide +kernel) (by decide +kernel)
set_option maxRecDepth 20000 in
theorem gX11_begins_X11_isRoomAt : GoodIn wsX11_begins (wsV RX11 61 RX11 yX11_isRoomAt wsX11_isRoomAt) := goodIn_app (goodIn_of _ (by decide +kernel)) ggX11_begins_X11_isRoomAt
theorem dX11_begins_0 : decode cX11_begins 0 = .ok (.bipush 9, 2) := by decide +kernel
theorem dX11_begins_2 : decode cX11_begins 2 = .ok (.istore_n 1, 1) := by decide +kernel
theorem dX11_begins_3 : decode cX11_begins 3 = .ok (.iload_n 1, 1) := by decide +kernel
theorem dX11_begins_4 : decode cX11_begins 4 = .ok (.sipush 639, 3) := by decide +kernel
theorem dX11_begins_7 : decode cX11_begins 7 = .ok (.if_icmp .ge 16, 3) := by decide +kernel
theorem dX11_begins_10 : decode cX11_begins 10 = .ok (.aload_n 0, 1) := by decide +kernel
theorem dX11_begins_11 : decode cX11_begins 11 = .ok (.getfield 7, 3) := by decide +kernel
theorem dX11_begins_14 : decode cX11_begins 14 = .ok (.iload_n 1, 1) := by decide +kernel
theorem dX11_begins_15 : decode cX11_begins 15 = .ok (.iconst 0, 1) := by decide +kernel
theorem dX11_begins_16 : decode cX11_begins 16 = .ok (.iastore, 1) := by decide +kernel
theorem dX11_begins_17 : decode cX11_begins 17 = .ok (.iinc 1 1, 3) := by decide +kernel
theorem dX11_begins_20 : decode cX11_begins 20 = .ok (.goto (-17), 3) := by decide +kernel
theorem dX11_begins_23 : decode cX11_begins 23 = .ok (.aload_n 0, 1) := by decide +kernel
theorem dX11_begins_24 : decode cX11_begins 24 = .ok (.getfield 7, 3) := by decide +kernel
theorem dX11_begins_27 : decode cX11_begins 27 = .ok (.bipush 7, 2) := by decide +kernel
theorem dX11_begins_29 : decode cX11_begins 29 = .ok (.iconst 5, 1) := by decide +kernel
theorem dX11_begins_30 : decode cX11_begins 30 = .ok (.aload_n 0, 1) := by decide +kernel
theorem dX11_begins_31 : decode cX11_begins 31 = .ok (.invokevirtual 46, 3) := by decide +kernel
theorem dX11_begins_34 : decode cX11_begins 34 = .ok (.imul, 1) := by decide +kernel
theorem dX11_begins_35 : decode cX11_begins 35 = .ok (.iastore, 1) := by decide +kernel
theorem dX11_begins_36 : decode cX11_begins 36 = .ok (.iconst 0, 1) := by decide +kernel
theorem dX11_begins_37 : decode cX11_begins 37 = .ok (.istore_n 1, 1) := by decide +kernel
theorem dX11_begins_38 : decode cX11_begins 38 = .ok (.aload_n 0, 1) := by decide +kernel
theorem dX11_begins_39 : decode cX11_begins 39 = .ok (.iload_n 1, 1) := by decide +kernel
theorem dX11_begins_40 : decode cX11_begins 40 = .ok (.invokevirtual 61, 3) := by decide +kernel
theorem dX11_begins_43 : decode cX11_begins 43 = .ok (.ifCond .ne 9, 3) := by decide +kernel
theorem dX11_begins_46 : decode cX11_begins 46 = .ok (.iinc 1 1, 3) := by decide +kernel
theorem dX11_begins_49 : decode cX11_begins 49 = .ok (.goto (-11), 3) := by decide +kernel
theorem dX11_begins_52 : decode cX11_begins 52 = .ok (.aload_n 0, 1) := by decide +kernel
theorem dX11_begins_53 : decode cX11_begins 53 = .ok (.getfield 7, 3) := by decide +kernel
theorem dX11_begins_56 : decode cX11_begins 56 = .ok (.bipush 8, 2) := by decide +kernel
theorem dX11_begins_58 : decode cX11_begins 58 = .ok (.iload_n 1, 1) := by decide +kernel
theorem dX11_begins_59 : decode cX11_begins 59 = .ok (.iastore, 1) := by decide +kernel
theorem dX11_begins_60 : decode cX11_begins 60 = .ok (.return_, 1) := by decide +kernel
set_option maxRecDepth 20000 in
theorem ggX11_rooms_X11_cells : GoodIn wsX11_rooms wsX11_cells := goodIn_r _ [5, 6, 7, 8, 4, 9, 10, 21, 22, 23, 24, 25, 26, 27, 28, 29, 30, 31, 32, 33, 34, 35, 36, 37] (by decide +kernel) (by decide +kernel)
set_option maxRecDepth 20000 in
theorem gX11_rooms_X11_cells : GoodIn wsX11_rooms (wsV RX11 54 RX11 yX11_cells wsX11_cells) := goodIn_app (goodIn_of _ (by decide +kernel)) ggX11_rooms_X11_cells
set_option maxRecDepth 20000 in
theorem ggX11_rooms_X11_isRoomAt : GoodIn wsX11_rooms wsX11_isRoomAt := goodIn_r _ [14, 10, 6, 7, 8, 4, 9, 15, 16, 17, 18, 19, 20, 21, 22, 23, 24, 25, 26, 27, 28, 29, 30, 31, 32, 33, 34, 35, 36, 37] (by decide +kernel) (by decide +kernel)
set_option maxRecDepth 20000 in
theorem gX11_rooms_X11_isRoomAt : GoodIn wsX11_rooms (wsV RX11 61 RX11 yX11_isRoomAt wsX11_isRoomAt) := goodIn_app (goodIn_of _ (by decide +kernel)) ggX11_rooms_X11_isRoomAt
theorem dX11_rooms_0 : decode cX11_rooms 0 = .ok (.iconst 0, 1) := by decide +kernel
theorem dX11_rooms_1 : decode cX11_rooms 1 = .ok (.istore_n 1, 1) := by decide +kernel
theorem dX11_rooms_2 : decode cX11_rooms 2 = .ok (.iconst 0, 1) := by decide +kernel
theorem dX11_rooms_3 : decode cX11_rooms 3 = .ok (.istore_n 2, 1) := by decide +kernel
theorem dX11_rooms_4 : decode cX11_rooms 4 = .ok (.iload_n 2, 1) := by decide +kernel
theorem dX11_rooms_5 : decode cX11_rooms 5 = .ok (.aload_n 0, 1) := by decide +kernel
theorem dX11_rooms_6 : decode cX11_rooms 6 = .ok (.invokevirtual 54, 3) := by decide +kernel
theorem dX11_rooms_9 : decode cX11_rooms 9 = .ok (.if_icmp .ge 25, 3) := by decide +kernel
theorem dX11_rooms_12 : decode cX11_rooms 12 = .ok (.iload_n 1, 1) := by decide +kernel
theorem dX11_rooms_13 : decode cX11_rooms 13 = .ok (.aload_n 0, 1) := by decide +kernel
theorem dX11_rooms_14 : decode cX11_rooms 14 = .ok (.iload_n 2, 1) := by decide +kernel
theorem dX11_rooms_15 : decode cX11_rooms 15 = .ok (.invokevirtual 61, 3) := by decide +kernel
theorem dX11_rooms_18 : decode cX11_rooms 18 = .ok (.ifCond .eq 7, 3) := by decide +kernel
theorem dX11_rooms_21 : decode cX11_rooms 21 = .ok (.iconst 1, 1) := by decide +kernel
theorem dX11_rooms_22 : decode cX11_rooms 22 = .ok (.goto 4, 3) := by decide +kernel
theorem dX11_rooms_25 : decode cX11_rooms 25 = .ok (.iconst 0, 1) := by decide +kernel
theorem dX11_rooms_26 : decode cX11_rooms 26 = .ok (.iadd, 1) := by decide +kernel
theorem dX11_rooms_27 : decode cX11_rooms 27 = .ok (.istore_n 1, 1) := by decide +kernel
theorem dX11_rooms_28 : decode cX11_rooms 28 = .ok (.iinc 2 1, 3) := by decide +kernel
theorem dX11_rooms_31 : decode cX11_rooms 31 = .ok (.goto (-27), 3) := by decide +kernel
theorem dX11_rooms_34 : decode cX11_rooms 34 = .ok (.iload_n 1, 1) := by decide +kernel
theorem dX11_rooms_35 : decode cX11_rooms 35 = .ok (.ireturn, 1) := by decide +kernel
set_option maxRecDepth 20000 in
theorem ggX11_word_X11_in : GoodIn wsX11_word wsX11_in := goodIn_r _ [7] (by decide +kernel) (by decide +kernel)
set_option maxRecDepth 20000 in
theorem gX11_word_X11_in : GoodIn wsX11_word (va_wsS RX11 57 yX11_in wsX11_in) := goodIn_app (goodIn_of _ (by decide +kernel)) ggX11_word_X11_in
set_option maxRecDepth 20000 in
theorem ggX11_word_X11_shape : GoodIn wsX11_word wsX11_shape := goodIn_r _ [10, 11, 12, 6, 13] (by decide +kernel) (by decide +kernel)
set_option maxRecDepth 20000 in
theorem gX11_word_X11_shape : GoodIn wsX11_word (va_wsS RX11 50 yX11_shape wsX11_shape) := goodIn_app (goodIn_of _ (by decide +kernel)) ggX11_word_X11_shape
set_option maxRecDepth 20000 in
theorem ggX11_word_X11_records : GoodIn wsX11_word wsX11_records := goodIn_r _ [17, 18, 19, 3, 40, 41, 42, 43, 44, 45, 46, 47, 48, 49, 50, 51, 52, 53, 54, 55, 56] (by decide +kernel) (by decide +kernel)
set_option maxRecDepth 20000 in
theorem gX11_word_X11_records : GoodIn wsX11_word (wsV RX11 68 RX11 yX11_records wsX11_records) := goodIn_app (goodIn_of _ (by decide +kernel)) ggX11_word_X11_records
set_option maxRecDepth 20000 in
theorem ggX11_word_X11_begins : GoodIn wsX11_word wsX11_begins := goodIn_r _ [23, 3, 24, 25, 26, 6, 27, 28, 29, 30, 31, 8, 9, 10, 11, 12, 13, 40, 41, 42, 43, 44, 45, 46, 47, 48, 49, 50, 51, 52, 53, 54, 55, 56] (by decide +kernel) (by decide +kernel)
set_option maxRecDepth 20000 in
theorem gX11_word_X11_begins : GoodIn wsX11_word (wsV RX11 35 RX11 yX11_begins wsX11_begins) := goodIn_app (goodIn_of _ (by decide +kernel)) ggX11_word_X11_begins
set_option maxRecDepth 20000 in
theorem ggX11_word_X11_rooms : GoodIn wsX11_word wsX11_rooms := goodIn_r _ [35, 36, 37, 38, 6, 39, 24, 25, 26, 27, 3, 28, 29, 30, 31, 8, 9, 10, 11, 12, 13, 40, 41, 42, 43, 44, 45, 46, 47, 48, 49, 50, 51, 52, 53, 54, 55, 56] (by decide +kernel) (by decide +kernel)
set_option maxRecDepth 20000 in
theorem gX11_word_X11_rooms : GoodIn wsX11_word (wsV RX11 71 RX11 yX11_rooms wsX11_rooms) := goodIn_app (goodIn_of _ (by decide +kernel)) ggX11_word_X11_rooms
theorem dX11_word_0 : decode cX11_word 0 = .ok (.aload_n 0, 1) := by decide +kernel
theorem dX11_word_1 : decode cX11_word 1 = .ok (.getfield 65, 3) := by decide +kernel
theorem dX11_word_4 : decode cX11_word 4 = .ok (.iconst 1, 1) := by decide +kernel
theorem dX11_word_5 : decode cX11_word 5 = .ok (.bipush 6, 2) := by decide +kernel
theorem dX11_word_7 : decode cX11_word 7 = .ok (.invokestatic 57, 3) := by decide +kernel
theorem dX11_word_10 : decode cX11_word 10 = .ok (.istore_n 1, 1) := by decide +kernel
theorem dX11_word_11 : decode cX11_word 11 = .ok (.iconst 0, 1) := by decide +kernel
theorem dX11_word_12 : decode cX11_word 12 = .ok (.istore_n 2, 1) := by decide +kernel
theorem dX11_word_13 : decode cX11_word 13 = .ok (.iload_n 2, 1) := by decide +kernel
theorem dX11_word_14 : decode cX11_word 14 = .ok (.aload_n 0, 1) := by decide +kernel
theorem dX11_word_15 : decode cX11_word 15 = .ok (.getfield 65, 3) := by decide +kernel
theorem dX11_word_18 : decode cX11_word 18 = .ok (.if_icmp .ge 31, 3) := by decide +kernel
theorem dX11_word_21 : decode cX11_word 21 = .ok (.iload_n 1, 1) := by decide +kernel
theorem dX11_word_22 : decode cX11_word 22 = .ok (.ifCond .eq 27, 3) := by decide +kernel
theorem dX11_word_25 : decode cX11_word 25 = .ok (.aload_n 0, 1) := by decide +kernel
theorem dX11_word_26 : decode cX11_word 26 = .ok (.getfield 16, 3) := by decide +kernel
theorem dX11_word_29 : decode cX11_word 29 = .ok (.iload_n 2, 1) := by decide +kernel
theorem dX11_word_30 : decode cX11_word 30 = .ok (.iaload, 1) := by decide +kernel
theorem dX11_word_31 : decode cX11_word 31 = .ok (.invokestatic 50, 3) := by decide +kernel
theorem dX11_word_34 : decode cX11_word 34 = .ok (.ifCond .le 7, 3) := by decide +kernel
theorem dX11_word_37 : decode cX11_word 37 = .ok (.iconst 1, 1) := by decide +kernel
theorem dX11_word_38 : decode cX11_word 38 = .ok (.goto 4, 3) := by decide +kernel
theorem dX11_word_41 : decode cX11_word 41 = .ok (.iconst 0, 1) := by decide +kernel
theorem dX11_word_42 : decode cX11_word 42 = .ok (.istore_n 1, 1) := by decide +kernel
theorem dX11_word_43 : decode cX11_word 43 = .ok (.iinc 2 1, 3) := by decide +kernel
theorem dX11_word_46 : decode cX11_word 46 = .ok (.goto (-33), 3) := by decide +kernel
theorem dX11_word_49 : decode cX11_word 49 = .ok (.iload_n 1, 1) := by decide +kernel
theorem dX11_word_50 : decode cX11_word 50 = .ok (.ifCond .ne 6, 3) := by decide +kernel
theorem dX11_word_53 : decode cX11_word 53 = .ok (.bipush (-2), 2) := by decide +kernel
theorem dX11_word_55 : decode cX11_word 55 = .ok (.ireturn, 1) := by decide +kernel
theorem dX11_word_56 : decode cX11_word 56 = .ok (.aload_n 0, 1) := by decide +kernel
theorem dX11_word_57 : decode cX11_word 57 = .ok (.invokevirtual 68, 3) := by decide +kernel
theorem dX11_word_60 : decode cX11_word 60 = .ok (.aload_n 0, 1) := by decide +kernel
theorem dX11_word_61 : decode cX11_word 61 = .ok (.getfield 7, 3) := by decide +kernel
theorem dX11_word_64 : decode cX11_word 64 = .ok (.iconst 0, 1) := by decide +kernel
theorem dX11_word_65 : decode cX11_word 65 = .ok (.aload_n 0, 1) := by decide +kernel
theorem dX11_word_66 : decode cX11_word 66 = .ok (.getfield 65, 3) := by decide +kernel
theorem dX11_word_69 : decode cX11_word 69 = .ok (.iastore, 1) := by decide +kernel
theorem dX11_word_70 : decode cX11_word 70 = .ok (.iconst 0, 1) := by decide +kernel
theorem dX11_word_71 : decode cX11_word 71 = .ok (.istore_n 2, 1) := by decide +kernel
theorem dX11_word_72 : decode cX11_word 72 = .ok (.iload_n 2, 1) := by decide +kernel
theorem dX11_word_73 : decode cX11_word 73 = .ok (.bipush 6, 2) := by decide +kernel
theorem dX11_word_75 : decode cX11_word 75 = .ok (.if_icmp .ge 35, 3) := by decide +kernel
theorem dX11_word_78 : decode cX11_word 78 = .ok (.aload_n 0, 1) := by decide +kernel
theorem dX11_word_79 : decode cX11_word 79 = .ok (.getfield 7, 3) := by decide +kernel
theorem dX11_word_82 : decode cX11_word 82 = .ok (.iconst 1, 1) := by decide +kernel
theorem dX11_word_83 : decode cX11_word 83 = .ok (.iload_n 2, 1) := by decide +kernel
theorem dX11_word_84 : decode cX11_word 84 = .ok (.iadd, 1) := by decide +kernel
theorem dX11_word_85 : decode cX11_word 85 = .ok (.iload_n 2, 1) := by decide +kernel
theorem dX11_word_86 : decode cX11_word 86 = .ok (.aload_n 0, 1) := by decide +kernel
theorem dX11_word_87 : decode cX11_word 87 = .ok (.getfield 65, 3) := by decide +kernel
theorem dX11_word_90 : decode cX11_word 90 = .ok (.if_icmp .ge 12, 3) := by decide +kernel
theorem dX11_word_93 : decode cX11_word 93 = .ok (.aload_n 0, 1) := by decide +kernel
theorem dX11_word_94 : decode cX11_word 94 = .ok (.getfield 16, 3) := by decide +kernel
theorem dX11_word_97 : decode cX11_word 97 = .ok (.iload_n 2, 1) := by decide +kernel
theorem dX11_word_98 : decode cX11_word 98 = .ok (.iaload, 1) := by decide +kernel
theorem dX11_word_99 : decode cX11_word 99 = .ok (.goto 4, 3) := by decide +kernel
theorem dX11_word_102 : decode cX11_word 102 = .ok (.iconst 0, 1) := by decide +kernel
theorem dX11_word_103 : decode cX11_word 103 = .ok (.iastore, 1) := by decide +kernel
theorem dX11_word_104 : decode cX11_word 104 = .ok (.iinc 2 1, 3) := by decide +kernel
theorem dX11_word_107 : decode cX11_word 107 = .ok (.goto (-35), 3) := by decide +kernel
theorem dX11_word_110 : decode cX11_word 110 = .ok (.aload_n 0, 1) := by decide +kernel
theorem dX11_word_111 : decode cX11_word 111 = .ok (.invokevirtual 35, 3) := by decide +kernel
theorem dX11_word_114 : decode cX11_word 114 = .ok (.aload_n 0, 1) := by decide +kernel
theorem dX11_word_115 : decode cX11_word 115 = .ok (.invokevirtual 71, 3) := by decide +kernel
theorem dX11_word_118 : decode cX11_word 118 = .ok (.ireturn, 1) := by decide +kernel
set_option maxRecDepth 20000 in
theorem ggX11_letterAt_X11_wide : GoodIn wsX11_letterAt wsX11_wide := goodIn_r _ [5, 6, 7, 8, 9, 10, 11, 12, 13, 14, 15, 16, 17, 18, 19, 20, 21, 22, 23] (by decide +kernel) (by decide +kernel)
set_option maxRecDepth 20000 in
theorem gX11_letterAt_X11_wide : GoodIn wsX11_letterAt (wsV RX11 46 RX11 yX11_wide wsX11_wide) := goodIn_app (goodIn_of _ (by decide +kernel)) ggX11_letterAt_X11_wide
theorem dX11_letterAt_0 : decode cX11_letterAt 0 = .ok (.iload_n 1, 1) := by decide +kernel
theorem dX11_letterAt_1 : decode cX11_letterAt 1 = .ok (.aload_n 0, 1) := by decide +kernel
theorem dX11_letterAt_2 : decode cX11_letterAt 2 = .ok (.invokevirtual 46, 3) := by decide +kernel
theorem dX11_letterAt_5 : decode cX11_letterAt 5 = .ok (.idiv, 1) := by decide +kernel
theorem dX11_letterAt_6 : decode cX11_letterAt 6 = .ok (.iconst 5, 1) := by decide +kernel
theorem dX11_letterAt_7 : decode cX11_letterAt 7 = .ok (.if_icmp .ne 7, 3) := by decide +kernel
theorem dX11_letterAt_10 : decode cX11_letterAt 10 = .ok (.iconst (-1), 1) := by decide +kernel
theorem dX11_letterAt_11 : decode cX11_letterAt 11 = .ok (.goto 12, 3) := by decide +kernel
theorem dX11_letterAt_14 : decode cX11_letterAt 14 = .ok (.iload_n 1, 1) := by decide +kernel
theorem dX11_letterAt_15 : decode cX11_letterAt 15 = .ok (.aload_n 0, 1) := by decide +kernel
theorem dX11_letterAt_16 : decode cX11_letterAt 16 = .ok (.invokevirtual 46, 3) := by decide +kernel
theorem dX11_letterAt_19 : decode cX11_letterAt 19 = .ok (.irem, 1) := by decide +kernel
theorem dX11_letterAt_20 : decode cX11_letterAt 20 = .ok (.bipush 6, 2) := by decide +kernel
theorem dX11_letterAt_22 : decode cX11_letterAt 22 = .ok (.idiv, 1) := by decide +kernel
theorem dX11_letterAt_23 : decode cX11_letterAt 23 = .ok (.ireturn, 1) := by decide +kernel
set_option maxRecDepth 20000 in
theorem ggX11_letterOf_X11_hasRoom : GoodIn wsX11_letterOf wsX11_hasRoom := goodIn_r _ [5, 6, 7, 8, 4, 9, 10, 11, 12, 13, 14, 15, 16, 17, 18, 19, 20, 21, 22, 23, 24, 25, 26, 27, 32, 33, 34, 35, 36, 37, 38, 39, 40, 41, 42, 43, 44, 45, 46, 47, 48] (by decide +kernel) (by decide +kernel)
set_option maxRecDepth 20000 in
theorem gX11_letterOf_X11_hasRoom : GoodIn wsX11_letterOf (wsV RX11 74 RX11 yX11_hasRoom wsX11_hasRoom) := goodIn_app (goodIn_of _ (by decide +kernel)) ggX11_letterOf_X11_hasRoom
set_option maxRecDepth 20000 in
theorem ggX11_letterOf_X11_letterAt : GoodIn wsX11_letterOf wsX11_letterAt := goodIn_r _ [31, 10, 11, 12, 4, 13, 14, 32, 33, 34, 35, 36, 37, 38, 39, 40, 41, 42, 43, 44, 45, 46, 47, 48] (by decide +kernel) (by decide +kernel)
set_option maxRecDepth 20000 in
theorem gX11_letterOf_X11_letterAt : GoodIn wsX11_letterOf (wsV RX11 77 RX11 yX11_letterAt wsX11_letterAt) := goodIn_app (goodIn_of _ (by decide +kernel)) ggX11_letterOf_X11_letterAt
theorem dX11_letterOf_0 : decode cX11_letterOf 0 = .ok (.aload_n 0, 1) := by decide +kernel
theorem dX11_letterOf_1 : decode cX11_letterOf 1 = .ok (.iload_n 1, 1) := by decide +kernel
theorem dX11_letterOf_2 : decode cX11_letterOf 2 = .ok (.invokevirtual 74, 3) := by decide +kernel
theorem dX11_letterOf_5 : decode cX11_letterOf 5 = .ok (.ifCond .ne 5, 3) := by decide +kernel
theorem dX11_letterOf_8 : decode cX11_letterOf 8 = .ok (.iconst (-1), 1) := by decide +kernel
theorem dX11_letterOf_9 : decode cX11_letterOf 9 = .ok (.ireturn, 1) := by decide +kernel
theorem dX11_letterOf_10 : decode cX11_letterOf 10 = .ok (.aload_n 0, 1) := by decide +kernel
theorem dX11_letterOf_11 : decode cX11_letterOf 11 = .ok (.iload_n 1, 1) := by decide +kernel
theorem dX11_letterOf_12 : decode cX11_letterOf 12 = .ok (.invokevirtual 77, 3) := by decide +kernel
theorem dX11_letterOf_15 : decode cX11_letterOf 15 = .ok (.istore_n 2, 1) := by decide +kernel
theorem dX11_letterOf_16 : decode cX11_letterOf 16 = .ok (.iload_n 2, 1) := by decide +kernel
theorem dX11_letterOf_17 : decode cX11_letterOf 17 = .ok (.ifCond .ge 8, 3) := by decide +kernel
theorem dX11_letterOf_20 : decode cX11_letterOf 20 = .ok (.bipush (-4), 2) := by decide +kernel
theorem dX11_letterOf_22 : decode cX11_letterOf 22 = .ok (.goto 4, 3) := by decide +kernel
theorem dX11_letterOf_25 : decode cX11_letterOf 25 = .ok (.iload_n 2, 1) := by decide +kernel
theorem dX11_letterOf_26 : decode cX11_letterOf 26 = .ok (.ireturn, 1) := by decide +kernel
set_option maxRecDepth 20000 in
theorem ggX11_beside_X11_wide : GoodIn wsX11_beside wsX11_wide := goodIn_r _ [5, 6, 28, 29, 30, 31, 32, 33, 34, 35, 36, 37, 38, 39, 40, 41, 42, 43, 44] (by decide +kernel) (by decide +kernel)
set_option maxRecDepth 20000 in
theorem gX11_beside_X11_wide : GoodIn wsX11_beside (wsV RX11 46 RX11 yX11_wide wsX11_wide) := goodIn_app (goodIn_of _ (by decide +kernel)) ggX11_beside_X11_wide
set_option maxRecDepth 20000 in
theorem ggX11_beside_X11_hasRoom : GoodIn wsX11_beside wsX11_hasRoom := goodIn_r _ [10, 11, 12, 13, 4, 14, 1, 2, 3, 5, 6, 15, 16, 17, 18, 19, 20, 21, 22, 23, 24, 25, 26, 27, 28, 29, 30, 31, 32, 33, 34, 35, 36, 37, 38, 39, 40, 41, 42, 43, 44] (by decide +kernel) (by decide +kernel)
set_option maxRecDepth 20000 in
theorem gX11_beside_X11_hasRoom : GoodIn wsX11_beside (wsV RX11 74 RX11 yX11_hasRoom wsX11_hasRoom) := goodIn_app (goodIn_of _ (by decide +kernel)) ggX11_beside_X11_hasRoom
theorem dX11_beside_0 : decode cX11_beside 0 = .ok (.iload_n 1, 1) := by decide +kernel
theorem dX11_beside_1 : decode cX11_beside 1 = .ok (.aload_n 0, 1) := by decide +kernel
theorem dX11_beside_2 : decode cX11_beside 2 = .ok (.invokevirtual 46, 3) := by decide +kernel
theorem dX11_beside_5 : decode cX11_beside 5 = .ok (.irem, 1) := by decide +kernel
theorem dX11_beside_6 : decode cX11_beside 6 = .ok (.istore_n 3, 1) := by decide +kernel
theorem dX11_beside_7 : decode cX11_beside 7 = .ok (.iload_n 2, 1) := by decide +kernel
theorem dX11_beside_8 : decode cX11_beside 8 = .ok (.ifCond .ne 12, 3) := by decide +kernel
theorem dX11_beside_11 : decode cX11_beside 11 = .ok (.iload_n 1, 1) := by decide +kernel
theorem dX11_beside_12 : decode cX11_beside 12 = .ok (.aload_n 0, 1) := by decide +kernel
theorem dX11_beside_13 : decode cX11_beside 13 = .ok (.invokevirtual 46, 3) := by decide +kernel
theorem dX11_beside_16 : decode cX11_beside 16 = .ok (.isub, 1) := by decide +kernel
theorem dX11_beside_17 : decode cX11_beside 17 = .ok (.goto 31, 3) := by decide +kernel
theorem dX11_beside_20 : decode cX11_beside 20 = .ok (.iload_n 2, 1) := by decide +kernel
theorem dX11_beside_21 : decode cX11_beside 21 = .ok (.iconst 1, 1) := by decide +kernel
theorem dX11_beside_22 : decode cX11_beside 22 = .ok (.if_icmp .ne 9, 3) := by decide +kernel
theorem dX11_beside_25 : decode cX11_beside 25 = .ok (.iload_n 1, 1) := by decide +kernel
theorem dX11_beside_26 : decode cX11_beside 26 = .ok (.iconst 1, 1) := by decide +kernel
theorem dX11_beside_27 : decode cX11_beside 27 = .ok (.iadd, 1) := by decide +kernel
theorem dX11_beside_28 : decode cX11_beside 28 = .ok (.goto 20, 3) := by decide +kernel
theorem dX11_beside_31 : decode cX11_beside 31 = .ok (.iload_n 2, 1) := by decide +kernel
theorem dX11_beside_32 : decode cX11_beside 32 = .ok (.iconst 2, 1) := by decide +kernel
theorem dX11_beside_33 : decode cX11_beside 33 = .ok (.if_icmp .ne 12, 3) := by decide +kernel
theorem dX11_beside_36 : decode cX11_beside 36 = .ok (.iload_n 1, 1) := by decide +kernel
theorem dX11_beside_37 : decode cX11_beside 37 = .ok (.aload_n 0, 1) := by decide +kernel
theorem dX11_beside_38 : decode cX11_beside 38 = .ok (.invokevirtual 46, 3) := by decide +kernel
theorem dX11_beside_41 : decode cX11_beside 41 = .ok (.iadd, 1) := by decide +kernel
theorem dX11_beside_42 : decode cX11_beside 42 = .ok (.goto 6, 3) := by decide +kernel
theorem dX11_beside_45 : decode cX11_beside 45 = .ok (.iload_n 1, 1) := by decide +kernel
theorem dX11_beside_46 : decode cX11_beside 46 = .ok (.iconst 1, 1) := by decide +kernel
theorem dX11_beside_47 : decode cX11_beside 47 = .ok (.isub, 1) := by decide +kernel
theorem dX11_beside_48 : decode cX11_beside 48 = .ok (.istore 4, 2) := by decide +kernel
theorem dX11_beside_50 : decode cX11_beside 50 = .ok (.iload_n 2, 1) := by decide +kernel
theorem dX11_beside_51 : decode cX11_beside 51 = .ok (.iconst 1, 1) := by decide +kernel
theorem dX11_beside_52 : decode cX11_beside 52 = .ok (.if_icmp .ne 13, 3) := by decide +kernel
theorem dX11_beside_55 : decode cX11_beside 55 = .ok (.iload_n 3, 1) := by decide +kernel
theorem dX11_beside_56 : decode cX11_beside 56 = .ok (.aload_n 0, 1) := by decide +kernel
theorem dX11_beside_57 : decode cX11_beside 57 = .ok (.invokevirtual 46, 3) := by decide +kernel
theorem dX11_beside_60 : decode cX11_beside 60 = .ok (.iconst 1, 1) := by decide +kernel
theorem dX11_beside_61 : decode cX11_beside 61 = .ok (.isub, 1) := by decide +kernel
theorem dX11_beside_62 : decode cX11_beside 62 = .ok (.if_icmp .eq 12, 3) := by decide +kernel
theorem dX11_beside_65 : decode cX11_beside 65 = .ok (.iload_n 2, 1) := by decide +kernel
theorem dX11_beside_66 : decode cX11_beside 66 = .ok (.iconst 3, 1) := by decide +kernel
theorem dX11_beside_67 : decode cX11_beside 67 = .ok (.if_icmp .ne 11, 3) := by decide +kernel
theorem dX11_beside_70 : decode cX11_beside 70 = .ok (.iload_n 3, 1) := by decide +kernel
theorem dX11_beside_71 : decode cX11_beside 71 = .ok (.ifCond .ne 7, 3) := by decide +kernel
theorem dX11_beside_74 : decode cX11_beside 74 = .ok (.iconst 1, 1) := by decide +kernel
theorem dX11_beside_75 : decode cX11_beside 75 = .ok (.goto 4, 3) := by decide +kernel
theorem dX11_beside_78 : decode cX11_beside 78 = .ok (.iconst 0, 1) := by decide +kernel
theorem dX11_beside_79 : decode cX11_beside 79 = .ok (.istore 5, 2) := by decide +kernel
theorem dX11_beside_81 : decode cX11_beside 81 = .ok (.iload 5, 2) := by decide +kernel
theorem dX11_beside_83 : decode cX11_beside 83 = .ok (.ifCond .ne 12, 3) := by decide +kernel
theorem dX11_beside_86 : decode cX11_beside 86 = .ok (.aload_n 0, 1) := by decide +kernel
theorem dX11_beside_87 : decode cX11_beside 87 = .ok (.iload 4, 2) := by decide +kernel
theorem dX11_beside_89 : decode cX11_beside 89 = .ok (.invokevirtual 74, 3) := by decide +kernel
theorem dX11_beside_92 : decode cX11_beside 92 = .ok (.ifCond .ne 7, 3) := by decide +kernel
theorem dX11_beside_95 : decode cX11_beside 95 = .ok (.iconst (-1), 1) := by decide +kernel
theorem dX11_beside_96 : decode cX11_beside 96 = .ok (.goto 5, 3) := by decide +kernel
theorem dX11_beside_99 : decode cX11_beside 99 = .ok (.iload 4, 2) := by decide +kernel
theorem dX11_beside_101 : decode cX11_beside 101 = .ok (.ireturn, 1) := by decide +kernel
set_option maxRecDepth 20000 in
theorem ggX11_doorAt_X11_wide : GoodIn wsX11_doorAt wsX11_wide := goodIn_r _ [5, 6, 7, 8, 9, 10, 11, 12, 13, 14, 15, 16, 17, 18, 19, 20, 21, 22, 23] (by decide +kernel) (by decide +kernel)
set_option maxRecDepth 20000 in
theorem gX11_doorAt_X11_wide : GoodIn wsX11_doorAt (wsV RX11 46 RX11 yX11_wide wsX11_wide) := goodIn_app (goodIn_of _ (by decide +kernel)) ggX11_doorAt_X11_wide
theorem dX11_doorAt_0 : decode cX11_doorAt 0 = .ok (.iload_n 2, 1) := by decide +kernel
theorem dX11_doorAt_1 : decode cX11_doorAt 1 = .ok (.ifCond .ne 16, 3) := by decide +kernel
theorem dX11_doorAt_4 : decode cX11_doorAt 4 = .ok (.sipush 219, 3) := by decide +kernel
theorem dX11_doorAt_7 : decode cX11_doorAt 7 = .ok (.iload_n 1, 1) := by decide +kernel
theorem dX11_doorAt_8 : decode cX11_doorAt 8 = .ok (.iadd, 1) := by decide +kernel
theorem dX11_doorAt_9 : decode cX11_doorAt 9 = .ok (.aload_n 0, 1) := by decide +kernel
theorem dX11_doorAt_10 : decode cX11_doorAt 10 = .ok (.invokevirtual 46, 3) := by decide +kernel
theorem dX11_doorAt_13 : decode cX11_doorAt 13 = .ok (.isub, 1) := by decide +kernel
theorem dX11_doorAt_14 : decode cX11_doorAt 14 = .ok (.goto 34, 3) := by decide +kernel
theorem dX11_doorAt_17 : decode cX11_doorAt 17 = .ok (.iload_n 2, 1) := by decide +kernel
theorem dX11_doorAt_18 : decode cX11_doorAt 18 = .ok (.iconst 1, 1) := by decide +kernel
theorem dX11_doorAt_19 : decode cX11_doorAt 19 = .ok (.if_icmp .ne 10, 3) := by decide +kernel
theorem dX11_doorAt_22 : decode cX11_doorAt 22 = .ok (.bipush 9, 2) := by decide +kernel
theorem dX11_doorAt_24 : decode cX11_doorAt 24 = .ok (.iload_n 1, 1) := by decide +kernel
theorem dX11_doorAt_25 : decode cX11_doorAt 25 = .ok (.iadd, 1) := by decide +kernel
theorem dX11_doorAt_26 : decode cX11_doorAt 26 = .ok (.goto 22, 3) := by decide +kernel
theorem dX11_doorAt_29 : decode cX11_doorAt 29 = .ok (.iload_n 2, 1) := by decide +kernel
theorem dX11_doorAt_30 : decode cX11_doorAt 30 = .ok (.iconst 2, 1) := by decide +kernel
theorem dX11_doorAt_31 : decode cX11_doorAt 31 = .ok (.if_icmp .ne 11, 3) := by decide +kernel
theorem dX11_doorAt_34 : decode cX11_doorAt 34 = .ok (.sipush 219, 3) := by decide +kernel
theorem dX11_doorAt_37 : decode cX11_doorAt 37 = .ok (.iload_n 1, 1) := by decide +kernel
theorem dX11_doorAt_38 : decode cX11_doorAt 38 = .ok (.iadd, 1) := by decide +kernel
theorem dX11_doorAt_39 : decode cX11_doorAt 39 = .ok (.goto 9, 3) := by decide +kernel
theorem dX11_doorAt_42 : decode cX11_doorAt 42 = .ok (.bipush 9, 2) := by decide +kernel
theorem dX11_doorAt_44 : decode cX11_doorAt 44 = .ok (.iload_n 1, 1) := by decide +kernel
theorem dX11_doorAt_45 : decode cX11_doorAt 45 = .ok (.iadd, 1) := by decide +kernel
theorem dX11_doorAt_46 : decode cX11_doorAt 46 = .ok (.iconst 1, 1) := by decide +kernel
theorem dX11_doorAt_47 : decode cX11_doorAt 47 = .ok (.isub, 1) := by decide +kernel
theorem dX11_doorAt_48 : decode cX11_doorAt 48 = .ok (.ireturn, 1) := by decide +kernel
set_option maxRecDepth 20000 in
theorem ggX11_isOpen_X11_beside : GoodIn wsX11_isOpen wsX11_beside := goodIn_r _ [6, 7, 8, 9, 5, 10, 1, 11, 12, 13, 14, 15, 16, 17, 18, 19, 20, 21, 22, 23, 24, 25, 26, 27, 28, 29, 30, 31, 36, 37, 38, 39, 40, 41, 42, 43, 44, 45, 46, 47, 48, 49, 50, 51, 52] (by decide +kernel) (by decide +kernel)
set_option maxRecDepth 20000 in
theorem gX11_isOpen_X11_beside : GoodIn wsX11_isOpen (wsV RX11 80 RX11 yX11_beside wsX11_beside) := goodIn_app (goodIn_of _ (by decide +kernel)) ggX11_isOpen_X11_beside
set_option maxRecDepth 20000 in
theorem ggX11_isOpen_X11_doorAt : GoodIn wsX11_isOpen wsX11_doorAt := goodIn_r _ [35, 7, 8, 9, 5, 10, 1, 36, 37, 38, 39, 40, 41, 42, 43, 44, 45, 46, 47, 48, 49, 50, 51, 52] (by decide +kernel) (by decide +kernel)
set_option maxRecDepth 20000 in
theorem gX11_isOpen_X11_doorAt : GoodIn wsX11_isOpen (wsV RX11 84 RX11 yX11_doorAt wsX11_doorAt) := goodIn_app (goodIn_of _ (by decide +kernel)) ggX11_isOpen_X11_doorAt
theorem dX11_isOpen_0 : decode cX11_isOpen 0 = .ok (.aload_n 0, 1) := by decide +kernel
theorem dX11_isOpen_1 : decode cX11_isOpen 1 = .ok (.iload_n 1, 1) := by decide +kernel
theorem dX11_isOpen_2 : decode cX11_isOpen 2 = .ok (.iload_n 2, 1) := by decide +kernel
theorem dX11_isOpen_3 : decode cX11_isOpen 3 = .ok (.invokevirtual 80, 3) := by decide +kernel
theorem dX11_isOpen_6 : decode cX11_isOpen 6 = .ok (.ifCond .lt 22, 3) := by decide +kernel
theorem dX11_isOpen_9 : decode cX11_isOpen 9 = .ok (.aload_n 0, 1) := by decide +kernel
theorem dX11_isOpen_10 : decode cX11_isOpen 10 = .ok (.getfield 7, 3) := by decide +kernel
theorem dX11_isOpen_13 : decode cX11_isOpen 13 = .ok (.aload_n 0, 1) := by decide +kernel
theorem dX11_isOpen_14 : decode cX11_isOpen 14 = .ok (.iload_n 1, 1) := by decide +kernel
theorem dX11_isOpen_15 : decode cX11_isOpen 15 = .ok (.iload_n 2, 1) := by decide +kernel
theorem dX11_isOpen_16 : decode cX11_isOpen 16 = .ok (.invokevirtual 84, 3) := by decide +kernel
theorem dX11_isOpen_19 : decode cX11_isOpen 19 = .ok (.iaload, 1) := by decide +kernel
theorem dX11_isOpen_20 : decode cX11_isOpen 20 = .ok (.iconst 1, 1) := by decide +kernel
theorem dX11_isOpen_21 : decode cX11_isOpen 21 = .ok (.if_icmp .ne 7, 3) := by decide +kernel
theorem dX11_isOpen_24 : decode cX11_isOpen 24 = .ok (.iconst 1, 1) := by decide +kernel
theorem dX11_isOpen_25 : decode cX11_isOpen 25 = .ok (.goto 4, 3) := by decide +kernel
theorem dX11_isOpen_28 : decode cX11_isOpen 28 = .ok (.iconst 0, 1) := by decide +kernel
theorem dX11_isOpen_29 : decode cX11_isOpen 29 = .ok (.ireturn, 1) := by decide +kernel
set_option maxRecDepth 20000 in
theorem ggX11_openOnes_X11_isOpen : GoodIn wsX11_openOnes wsX11_isOpen := goodIn_r _ [5, 6, 7, 8, 9, 4, 10, 11, 12, 13, 14, 15, 16, 17, 18, 19, 20, 21, 22, 23, 24, 25, 26, 27, 28, 29, 30, 31, 32, 33, 34, 35, 36, 37, 38, 39, 40, 41, 42, 43, 44, 45, 46, 47, 48, 49, 50, 51, 52, 53, 54, 55, 56] (by decide +kernel) (by decide +kernel)
set_option maxRecDepth 20000 in
theorem gX11_openOnes_X11_isOpen : GoodIn wsX11_openOnes (wsV RX11 87 RX11 yX11_isOpen wsX11_isOpen) := goodIn_app (goodIn_of _ (by decide +kernel)) ggX11_openOnes_X11_isOpen
theorem dX11_openOnes_0 : decode cX11_openOnes 0 = .ok (.iconst 0, 1) := by decide +kernel
theorem dX11_openOnes_1 : decode cX11_openOnes 1 = .ok (.istore_n 2, 1) := by decide +kernel
theorem dX11_openOnes_2 : decode cX11_openOnes 2 = .ok (.iconst 0, 1) := by decide +kernel
theorem dX11_openOnes_3 : decode cX11_openOnes 3 = .ok (.istore_n 3, 1) := by decide +kernel
theorem dX11_openOnes_4 : decode cX11_openOnes 4 = .ok (.iload_n 3, 1) := by decide +kernel
theorem dX11_openOnes_5 : decode cX11_openOnes 5 = .ok (.iconst 4, 1) := by decide +kernel
theorem dX11_openOnes_6 : decode cX11_openOnes 6 = .ok (.if_icmp .ge 26, 3) := by decide +kernel
theorem dX11_openOnes_9 : decode cX11_openOnes 9 = .ok (.iload_n 2, 1) := by decide +kernel
theorem dX11_openOnes_10 : decode cX11_openOnes 10 = .ok (.aload_n 0, 1) := by decide +kernel
theorem dX11_openOnes_11 : decode cX11_openOnes 11 = .ok (.iload_n 1, 1) := by decide +kernel
theorem dX11_openOnes_12 : decode cX11_openOnes 12 = .ok (.iload_n 3, 1) := by decide +kernel
theorem dX11_openOnes_13 : decode cX11_openOnes 13 = .ok (.invokevirtual 87, 3) := by decide +kernel
theorem dX11_openOnes_16 : decode cX11_openOnes 16 = .ok (.ifCond .eq 7, 3) := by decide +kernel
theorem dX11_openOnes_19 : decode cX11_openOnes 19 = .ok (.iconst 1, 1) := by decide +kernel
theorem dX11_openOnes_20 : decode cX11_openOnes 20 = .ok (.goto 4, 3) := by decide +kernel
theorem dX11_openOnes_23 : decode cX11_openOnes 23 = .ok (.iconst 0, 1) := by decide +kernel
theorem dX11_openOnes_24 : decode cX11_openOnes 24 = .ok (.iadd, 1) := by decide +kernel
theorem dX11_openOnes_25 : decode cX11_openOnes 25 = .ok (.istore_n 2, 1) := by decide +kernel
theorem dX11_openOnes_26 : decode cX11_openOnes 26 = .ok (.iinc 3 1, 3) := by decide +kernel
theorem dX11_openOnes_29 : decode cX11_openOnes 29 = .ok (.goto (-25), 3) := by decide +kernel
theorem dX11_openOnes_32 : decode cX11_openOnes 32 = .ok (.iload_n 2, 1) := by decide +kernel
theorem dX11_openOnes_33 : decode cX11_openOnes 33 = .ok (.ireturn, 1) := by decide +kernel
set_option maxRecDepth 20000 in
theorem ggX11_countsDoors_X11_cells : GoodIn wsX11_countsDoors wsX11_cells := goodIn_r _ [7, 8, 9, 10, 6, 11, 12, 34, 35, 36, 37, 38, 39, 40, 41, 42, 43, 44, 45, 46, 47, 48, 49, 50] (by decide +kernel) (by decide +kernel)
set_option maxRecDepth 20000 in
theorem gX11_countsDoors_X11_cells : GoodIn wsX11_countsDoors (wsV RX11 54 RX11 yX11_cells wsX11_cells) := goodIn_app (goodIn_of _ (by decide +kernel)) ggX11_countsDoors_X11_cells
set_option maxRecDepth 20000 in
theorem ggX11_countsDoors_X11_isRoomAt : GoodIn wsX11_countsDoors wsX11_isRoomAt := goodIn_r _ [16, 12, 8, 9, 10, 6, 11, 17, 18, 19, 20, 21, 22, 34, 35, 36, 37, 38, 39, 40, 41, 42, 43, 44, 45, 46, 47, 48, 49, 50] (by decide +kernel) (by decide +kernel)
set_option maxRecDepth 20000 in
theorem gX11_countsDoors_X11_isRoomAt : GoodIn wsX11_countsDoors (wsV RX11 61 RX11 yX11_isRoomAt wsX11_isRoomAt) := goodIn_app (goodIn_of _ (by decide +kernel)) ggX11_countsDoors_X11_isRoomAt
set_option maxRecDepth 20000 in
theorem ggX11_countsDoors_X11_beside : GoodIn wsX11_countsDoors wsX11_beside := goodIn_r _ [26, 8, 9, 10, 6, 11, 12, 27, 28, 29, 30, 3, 4, 5, 7, 31, 32, 33, 13, 14, 15, 16, 17, 18, 19, 20, 21, 22, 34, 35, 36, 37, 38, 39, 40, 41, 42, 43, 44, 45, 46, 47, 48, 49, 50] (by decide +kernel) (by decide +kernel)
set_option maxRecDepth 20000 in
theorem gX11_countsDoors_X11_beside : GoodIn wsX11_countsDoors (wsV RX11 80 RX11 yX11_beside wsX11_beside) := goodIn_app (goodIn_of _ (by decide +kernel)) ggX11_countsDoors_X11_beside
theorem dX11_countsDoors_0 : decode cX11_countsDoors 0 = .ok (.aload_n 0, 1) := by decide +kernel
theorem dX11_countsDoors_1 : decode cX11_countsDoors 1 = .ok (.iconst 0, 1) := by decide +kernel
theorem dX11_countsDoors_2 : decode cX11_countsDoors 2 = .ok (.putfield 91, 3) := by decide +kernel
theorem dX11_countsDoors_5 : decode cX11_countsDoors 5 = .ok (.iconst 0, 1) := by decide +kernel
theorem dX11_countsDoors_6 : decode cX11_countsDoors 6 = .ok (.istore_n 1, 1) := by decide +kernel
theorem dX11_countsDoors_7 : decode cX11_countsDoors 7 = .ok (.iload_n 1, 1) := by decide +kernel
theorem dX11_countsDoors_8 : decode cX11_countsDoors 8 = .ok (.aload_n 0, 1) := by decide +kernel
theorem dX11_countsDoors_9 : decode cX11_countsDoors 9 = .ok (.invokevirtual 54, 3) := by decide +kernel
theorem dX11_countsDoors_12 : decode cX11_countsDoors 12 = .ok (.if_icmp .ge 65, 3) := by decide +kernel
theorem dX11_countsDoors_15 : decode cX11_countsDoors 15 = .ok (.aload_n 0, 1) := by decide +kernel
theorem dX11_countsDoors_16 : decode cX11_countsDoors 16 = .ok (.iload_n 1, 1) := by decide +kernel
theorem dX11_countsDoors_17 : decode cX11_countsDoors 17 = .ok (.invokevirtual 61, 3) := by decide +kernel
theorem dX11_countsDoors_20 : decode cX11_countsDoors 20 = .ok (.ifCond .eq 51, 3) := by decide +kernel
theorem dX11_countsDoors_23 : decode cX11_countsDoors 23 = .ok (.iconst 1, 1) := by decide +kernel
theorem dX11_countsDoors_24 : decode cX11_countsDoors 24 = .ok (.istore_n 2, 1) := by decide +kernel
theorem dX11_countsDoors_25 : decode cX11_countsDoors 25 = .ok (.iload_n 2, 1) := by decide +kernel
theorem dX11_countsDoors_26 : decode cX11_countsDoors 26 = .ok (.iconst 3, 1) := by decide +kernel
theorem dX11_countsDoors_27 : decode cX11_countsDoors 27 = .ok (.if_icmp .ge 44, 3) := by decide +kernel
theorem dX11_countsDoors_30 : decode cX11_countsDoors 30 = .ok (.aload_n 0, 1) := by decide +kernel
theorem dX11_countsDoors_31 : decode cX11_countsDoors 31 = .ok (.iload_n 1, 1) := by decide +kernel
theorem dX11_countsDoors_32 : decode cX11_countsDoors 32 = .ok (.iload_n 2, 1) := by decide +kernel
theorem dX11_countsDoors_33 : decode cX11_countsDoors 33 = .ok (.invokevirtual 80, 3) := by decide +kernel
theorem dX11_countsDoors_36 : decode cX11_countsDoors 36 = .ok (.ifCond .lt 29, 3) := by decide +kernel
theorem dX11_countsDoors_39 : decode cX11_countsDoors 39 = .ok (.aload_n 0, 1) := by decide +kernel
theorem dX11_countsDoors_40 : decode cX11_countsDoors 40 = .ok (.getfield 19, 3) := by decide +kernel
theorem dX11_countsDoors_43 : decode cX11_countsDoors 43 = .ok (.aload_n 0, 1) := by decide +kernel
theorem dX11_countsDoors_44 : decode cX11_countsDoors 44 = .ok (.getfield 91, 3) := by decide +kernel
theorem dX11_countsDoors_47 : decode cX11_countsDoors 47 = .ok (.iconst 2, 1) := by decide +kernel
theorem dX11_countsDoors_48 : decode cX11_countsDoors 48 = .ok (.iload_n 1, 1) := by decide +kernel
theorem dX11_countsDoors_49 : decode cX11_countsDoors 49 = .ok (.imul, 1) := by decide +kernel
theorem dX11_countsDoors_50 : decode cX11_countsDoors 50 = .ok (.iload_n 2, 1) := by decide +kernel
theorem dX11_countsDoors_51 : decode cX11_countsDoors 51 = .ok (.iadd, 1) := by decide +kernel
theorem dX11_countsDoors_52 : decode cX11_countsDoors 52 = .ok (.iconst 1, 1) := by decide +kernel
theorem dX11_countsDoors_53 : decode cX11_countsDoors 53 = .ok (.isub, 1) := by decide +kernel
theorem dX11_countsDoors_54 : decode cX11_countsDoors 54 = .ok (.iastore, 1) := by decide +kernel
theorem dX11_countsDoors_55 : decode cX11_countsDoors 55 = .ok (.aload_n 0, 1) := by decide +kernel
theorem dX11_countsDoors_56 : decode cX11_countsDoors 56 = .ok (.dup, 1) := by decide +kernel
theorem dX11_countsDoors_57 : decode cX11_countsDoors 57 = .ok (.getfield 91, 3) := by decide +kernel
theorem dX11_countsDoors_60 : decode cX11_countsDoors 60 = .ok (.iconst 1, 1) := by decide +kernel
theorem dX11_countsDoors_61 : decode cX11_countsDoors 61 = .ok (.iadd, 1) := by decide +kernel
theorem dX11_countsDoors_62 : decode cX11_countsDoors 62 = .ok (.putfield 91, 3) := by decide +kernel
theorem dX11_countsDoors_65 : decode cX11_countsDoors 65 = .ok (.iinc 2 1, 3) := by decide +kernel
theorem dX11_countsDoors_68 : decode cX11_countsDoors 68 = .ok (.goto (-43), 3) := by decide +kernel
theorem dX11_countsDoors_71 : decode cX11_countsDoors 71 = .ok (.iinc 1 1, 3) := by decide +kernel
theorem dX11_countsDoors_74 : decode cX11_countsDoors 74 = .ok (.goto (-67), 3) := by decide +kernel
theorem dX11_countsDoors_77 : decode cX11_countsDoors 77 = .ok (.return_, 1) := by decide +kernel
set_option maxRecDepth 20000 in
theorem ggX11_letterValue_X11_cells : GoodIn wsX11_letterValue wsX11_cells := goodIn_r _ [5, 6, 7, 8, 4, 9, 10, 44, 45, 46, 47, 48, 49, 50, 51, 52, 53, 54, 55, 56, 57, 58, 59, 60] (by decide +kernel) (by decide +kernel)
set_option maxRecDepth 20000 in
theorem gX11_letterValue_X11_cells : GoodIn wsX11_letterValue (wsV RX11 54 RX11 yX11_cells wsX11_cells) := goodIn_app (goodIn_of _ (by decide +kernel)) ggX11_letterValue_X11_cells
set_option maxRecDepth 20000 in
theorem ggX11_letterValue_X11_isRoomAt : GoodIn wsX11_letterValue wsX11_isRoomAt := goodIn_r _ [14, 10, 6, 7, 8, 4, 9, 15, 16, 17, 18, 19, 20, 44, 45, 46, 47, 48, 49, 50, 51, 52, 53, 54, 55, 56, 57, 58, 59, 60] (by decide +kernel) (by decide +kernel)
set_option maxRecDepth 20000 in
theorem gX11_letterValue_X11_isRoomAt : GoodIn wsX11_letterValue (wsV RX11 61 RX11 yX11_isRoomAt wsX11_isRoomAt) := goodIn_app (goodIn_of _ (by decide +kernel)) ggX11_letterValue_X11_isRoomAt
set_option maxRecDepth 20000 in
theorem ggX11_letterValue_X11_letterAt : GoodIn wsX11_letterValue wsX11_letterAt := goodIn_r _ [24, 6, 7, 8, 4, 9, 10, 44, 45, 46, 47, 48, 49, 50, 51, 52, 53, 54, 55, 56, 57, 58, 59, 60] (by decide +kernel) (by decide +kernel)
set_option maxRecDepth 20000 in
theorem gX11_letterValue_X11_letterAt : GoodIn wsX11_letterValue (wsV RX11 77 RX11 yX11_letterAt wsX11_letterAt) := goodIn_app (goodIn_of _ (by decide +kernel)) ggX11_letterValue_X11_letterAt
set_option maxRecDepth 20000 in
theorem ggX11_letterValue_X11_beside : GoodIn wsX11_letterValue wsX11_beside := goodIn_r _ [28, 6, 7, 8, 4, 9, 10, 29, 30, 31, 32, 1, 2, 3, 5, 33, 34, 35, 11, 12, 13, 14, 15, 16, 17, 18, 19, 20, 44, 45, 46, 47, 48, 49, 50, 51, 52, 53, 54, 55, 56, 57, 58, 59, 60] (by decide +kernel) (by decide +kernel)
set_option maxRecDepth 20000 in
theorem gX11_letterValue_X11_beside : GoodIn wsX11_letterValue (wsV RX11 80 RX11 yX11_beside wsX11_beside) := goodIn_app (goodIn_of _ (by decide +kernel)) ggX11_letterValue_X11_beside
set_option maxRecDepth 20000 in
theorem ggX11_letterValue_X11_isOpen : GoodIn wsX11_letterValue wsX11_isOpen := goodIn_r _ [39, 10, 25, 26, 27, 4, 28, 6, 7, 8, 9, 29, 30, 31, 32, 1, 2, 3, 5, 33, 34, 35, 11, 12, 13, 14, 15, 16, 17, 18, 19, 20, 40, 41, 42, 43, 44, 45, 46, 47, 48, 49, 50, 51, 52, 53, 54, 55, 56, 57, 58, 59, 60] (by decide +kernel) (by decide +kernel)
set_option maxRecDepth 20000 in
theorem gX11_letterValue_X11_isOpen : GoodIn wsX11_letterValue (wsV RX11 87 RX11 yX11_isOpen wsX11_isOpen) := goodIn_app (goodIn_of _ (by decide +kernel)) ggX11_letterValue_X11_isOpen
theorem dX11_letterValue_0 : decode cX11_letterValue 0 = .ok (.iconst 0, 1) := by decide +kernel
theorem dX11_letterValue_1 : decode cX11_letterValue 1 = .ok (.istore_n 3, 1) := by decide +kernel
theorem dX11_letterValue_2 : decode cX11_letterValue 2 = .ok (.iconst 0, 1) := by decide +kernel
theorem dX11_letterValue_3 : decode cX11_letterValue 3 = .ok (.istore 4, 2) := by decide +kernel
theorem dX11_letterValue_5 : decode cX11_letterValue 5 = .ok (.iload 4, 2) := by decide +kernel
theorem dX11_letterValue_7 : decode cX11_letterValue 7 = .ok (.aload_n 0, 1) := by decide +kernel
theorem dX11_letterValue_8 : decode cX11_letterValue 8 = .ok (.invokevirtual 54, 3) := by decide +kernel
theorem dX11_letterValue_11 : decode cX11_letterValue 11 = .ok (.if_icmp .ge 167, 3) := by decide +kernel
theorem dX11_letterValue_14 : decode cX11_letterValue 14 = .ok (.aload_n 0, 1) := by decide +kernel
theorem dX11_letterValue_15 : decode cX11_letterValue 15 = .ok (.iload 4, 2) := by decide +kernel
theorem dX11_letterValue_17 : decode cX11_letterValue 17 = .ok (.invokevirtual 61, 3) := by decide +kernel
theorem dX11_letterValue_20 : decode cX11_letterValue 20 = .ok (.ifCond .eq 17, 3) := by decide +kernel
theorem dX11_letterValue_23 : decode cX11_letterValue 23 = .ok (.aload_n 0, 1) := by decide +kernel
theorem dX11_letterValue_24 : decode cX11_letterValue 24 = .ok (.iload 4, 2) := by decide +kernel
theorem dX11_letterValue_26 : decode cX11_letterValue 26 = .ok (.invokevirtual 77, 3) := by decide +kernel
theorem dX11_letterValue_29 : decode cX11_letterValue 29 = .ok (.iload_n 1, 1) := by decide +kernel
theorem dX11_letterValue_30 : decode cX11_letterValue 30 = .ok (.if_icmp .ne 7, 3) := by decide +kernel
theorem dX11_letterValue_33 : decode cX11_letterValue 33 = .ok (.iconst 1, 1) := by decide +kernel
theorem dX11_letterValue_34 : decode cX11_letterValue 34 = .ok (.goto 4, 3) := by decide +kernel
theorem dX11_letterValue_37 : decode cX11_letterValue 37 = .ok (.iconst 0, 1) := by decide +kernel
theorem dX11_letterValue_38 : decode cX11_letterValue 38 = .ok (.istore 5, 2) := by decide +kernel
theorem dX11_letterValue_40 : decode cX11_letterValue 40 = .ok (.iload_n 3, 1) := by decide +kernel
theorem dX11_letterValue_41 : decode cX11_letterValue 41 = .ok (.iload 5, 2) := by decide +kernel
theorem dX11_letterValue_43 : decode cX11_letterValue 43 = .ok (.ifCond .eq 12, 3) := by decide +kernel
theorem dX11_letterValue_46 : decode cX11_letterValue 46 = .ok (.iload_n 2, 1) := by decide +kernel
theorem dX11_letterValue_47 : decode cX11_letterValue 47 = .ok (.iconst 1, 1) := by decide +kernel
theorem dX11_letterValue_48 : decode cX11_letterValue 48 = .ok (.if_icmp .ne 7, 3) := by decide +kernel
theorem dX11_letterValue_51 : decode cX11_letterValue 51 = .ok (.iconst 1, 1) := by decide +kernel
theorem dX11_letterValue_52 : decode cX11_letterValue 52 = .ok (.goto 4, 3) := by decide +kernel
theorem dX11_letterValue_55 : decode cX11_letterValue 55 = .ok (.iconst 0, 1) := by decide +kernel
theorem dX11_letterValue_56 : decode cX11_letterValue 56 = .ok (.iadd, 1) := by decide +kernel
theorem dX11_letterValue_57 : decode cX11_letterValue 57 = .ok (.istore_n 3, 1) := by decide +kernel
theorem dX11_letterValue_58 : decode cX11_letterValue 58 = .ok (.iconst 1, 1) := by decide +kernel
theorem dX11_letterValue_59 : decode cX11_letterValue 59 = .ok (.istore 6, 2) := by decide +kernel
theorem dX11_letterValue_61 : decode cX11_letterValue 61 = .ok (.iload 6, 2) := by decide +kernel
theorem dX11_letterValue_63 : decode cX11_letterValue 63 = .ok (.iconst 3, 1) := by decide +kernel
theorem dX11_letterValue_64 : decode cX11_letterValue 64 = .ok (.if_icmp .ge 108, 3) := by decide +kernel
theorem dX11_letterValue_67 : decode cX11_letterValue 67 = .ok (.iload 5, 2) := by decide +kernel
theorem dX11_letterValue_69 : decode cX11_letterValue 69 = .ok (.ifCond .eq 103, 3) := by decide +kernel
theorem dX11_letterValue_72 : decode cX11_letterValue 72 = .ok (.iload_n 2, 1) := by decide +kernel
theorem dX11_letterValue_73 : decode cX11_letterValue 73 = .ok (.iconst 1, 1) := by decide +kernel
theorem dX11_letterValue_74 : decode cX11_letterValue 74 = .ok (.if_icmp .le 98, 3) := by decide +kernel
theorem dX11_letterValue_77 : decode cX11_letterValue 77 = .ok (.aload_n 0, 1) := by decide +kernel
theorem dX11_letterValue_78 : decode cX11_letterValue 78 = .ok (.iload 4, 2) := by decide +kernel
theorem dX11_letterValue_80 : decode cX11_letterValue 80 = .ok (.iload 6, 2) := by decide +kernel
theorem dX11_letterValue_82 : decode cX11_letterValue 82 = .ok (.invokevirtual 80, 3) := by decide +kernel
theorem dX11_letterValue_85 : decode cX11_letterValue 85 = .ok (.istore 7, 2) := by decide +kernel
theorem dX11_letterValue_87 : decode cX11_letterValue 87 = .ok (.iload 7, 2) := by decide +kernel
theorem dX11_letterValue_89 : decode cX11_letterValue 89 = .ok (.ifCond .ge 8, 3) := by decide +kernel
theorem dX11_letterValue_92 : decode cX11_letterValue 92 = .ok (.bipush (-2), 2) := by decide +kernel
theorem dX11_letterValue_94 : decode cX11_letterValue 94 = .ok (.goto 9, 3) := by decide +kernel
theorem dX11_letterValue_97 : decode cX11_letterValue 97 = .ok (.aload_n 0, 1) := by decide +kernel
theorem dX11_letterValue_98 : decode cX11_letterValue 98 = .ok (.iload 7, 2) := by decide +kernel
theorem dX11_letterValue_100 : decode cX11_letterValue 100 = .ok (.invokevirtual 77, 3) := by decide +kernel
theorem dX11_letterValue_103 : decode cX11_letterValue 103 = .ok (.istore 8, 2) := by decide +kernel
theorem dX11_letterValue_105 : decode cX11_letterValue 105 = .ok (.iload_n 2, 1) := by decide +kernel
theorem dX11_letterValue_106 : decode cX11_letterValue 106 = .ok (.iconst 4, 1) := by decide +kernel
theorem dX11_letterValue_107 : decode cX11_letterValue 107 = .ok (.if_icmp .ne 17, 3) := by decide +kernel
theorem dX11_letterValue_110 : decode cX11_letterValue 110 = .ok (.iload 8, 2) := by decide +kernel
theorem dX11_letterValue_112 : decode cX11_letterValue 112 = .ok (.iconst (-1), 1) := by decide +kernel
theorem dX11_letterValue_113 : decode cX11_letterValue 113 = .ok (.if_icmp .ne 7, 3) := by decide +kernel
theorem dX11_letterValue_116 : decode cX11_letterValue 116 = .ok (.iconst 1, 1) := by decide +kernel
theorem dX11_letterValue_117 : decode cX11_letterValue 117 = .ok (.goto 18, 3) := by decide +kernel
theorem dX11_letterValue_120 : decode cX11_letterValue 120 = .ok (.iconst 0, 1) := by decide +kernel
theorem dX11_letterValue_121 : decode cX11_letterValue 121 = .ok (.goto 14, 3) := by decide +kernel
theorem dX11_letterValue_124 : decode cX11_letterValue 124 = .ok (.iload 8, 2) := by decide +kernel
theorem dX11_letterValue_126 : decode cX11_letterValue 126 = .ok (.iload_n 1, 1) := by decide +kernel
theorem dX11_letterValue_127 : decode cX11_letterValue 127 = .ok (.if_icmp .ne 7, 3) := by decide +kernel
theorem dX11_letterValue_130 : decode cX11_letterValue 130 = .ok (.iconst 1, 1) := by decide +kernel
theorem dX11_letterValue_131 : decode cX11_letterValue 131 = .ok (.goto 4, 3) := by decide +kernel
theorem dX11_letterValue_134 : decode cX11_letterValue 134 = .ok (.iconst 0, 1) := by decide +kernel
theorem dX11_letterValue_135 : decode cX11_letterValue 135 = .ok (.istore 9, 2) := by decide +kernel
theorem dX11_letterValue_137 : decode cX11_letterValue 137 = .ok (.iload_n 3, 1) := by decide +kernel
theorem dX11_letterValue_138 : decode cX11_letterValue 138 = .ok (.iload 9, 2) := by decide +kernel
theorem dX11_letterValue_140 : decode cX11_letterValue 140 = .ok (.ifCond .eq 23, 3) := by decide +kernel
theorem dX11_letterValue_143 : decode cX11_letterValue 143 = .ok (.iload_n 2, 1) := by decide +kernel
theorem dX11_letterValue_144 : decode cX11_letterValue 144 = .ok (.iconst 2, 1) := by decide +kernel
theorem dX11_letterValue_145 : decode cX11_letterValue 145 = .ok (.if_icmp .eq 14, 3) := by decide +kernel
theorem dX11_letterValue_148 : decode cX11_letterValue 148 = .ok (.aload_n 0, 1) := by decide +kernel
theorem dX11_letterValue_149 : decode cX11_letterValue 149 = .ok (.iload 4, 2) := by decide +kernel
theorem dX11_letterValue_151 : decode cX11_letterValue 151 = .ok (.iload 6, 2) := by decide +kernel
theorem dX11_letterValue_153 : decode cX11_letterValue 153 = .ok (.invokevirtual 87, 3) := by decide +kernel
theorem dX11_letterValue_156 : decode cX11_letterValue 156 = .ok (.ifCond .eq 7, 3) := by decide +kernel
theorem dX11_letterValue_159 : decode cX11_letterValue 159 = .ok (.iconst 1, 1) := by decide +kernel
theorem dX11_letterValue_160 : decode cX11_letterValue 160 = .ok (.goto 4, 3) := by decide +kernel
theorem dX11_letterValue_163 : decode cX11_letterValue 163 = .ok (.iconst 0, 1) := by decide +kernel
theorem dX11_letterValue_164 : decode cX11_letterValue 164 = .ok (.iadd, 1) := by decide +kernel
theorem dX11_letterValue_165 : decode cX11_letterValue 165 = .ok (.istore_n 3, 1) := by decide +kernel
theorem dX11_letterValue_166 : decode cX11_letterValue 166 = .ok (.iinc 6 1, 3) := by decide +kernel
theorem dX11_letterValue_169 : decode cX11_letterValue 169 = .ok (.goto (-108), 3) := by decide +kernel
theorem dX11_letterValue_172 : decode cX11_letterValue 172 = .ok (.iinc 4 1, 3) := by decide +kernel
theorem dX11_letterValue_175 : decode cX11_letterValue 175 = .ok (.goto (-170), 3) := by decide +kernel
theorem dX11_letterValue_178 : decode cX11_letterValue 178 = .ok (.iload_n 3, 1) := by decide +kernel
theorem dX11_letterValue_179 : decode cX11_letterValue 179 = .ok (.ireturn, 1) := by decide +kernel
set_option maxRecDepth 20000 in
theorem ggX11_letter_X11_in : GoodIn wsX11_letter wsX11_in := goodIn_r _ [5] (by decide +kernel) (by decide +kernel)
set_option maxRecDepth 20000 in
theorem gX11_letter_X11_in : GoodIn wsX11_letter (va_wsS RX11 57 yX11_in wsX11_in) := goodIn_app (goodIn_of _ (by decide +kernel)) ggX11_letter_X11_in
set_option maxRecDepth 20000 in
theorem ggX11_letter_X11_letterValue : GoodIn wsX11_letter wsX11_letterValue := goodIn_r _ [9, 10, 11, 12, 4, 13, 14, 15, 16, 17, 1, 18, 19, 20, 21, 22, 23, 24, 25, 26, 27, 28, 29, 30, 31, 32, 33, 34, 35, 36, 37, 38, 39, 2, 3, 5, 40, 41, 42, 43, 44, 45, 46, 47, 48, 49, 50, 51, 52, 53, 54, 55, 56, 57, 58, 59, 60, 61, 62, 63, 64] (by decide +kernel) (by decide +kernel)
set_option maxRecDepth 20000 in
theorem gX11_letter_X11_letterValue : GoodIn wsX11_letter (wsV RX11 94 RX11 yX11_letterValue wsX11_letterValue) := goodIn_app (goodIn_of _ (by decide +kernel)) ggX11_letter_X11_letterValue
theorem dX11_letter_0 : decode cX11_letter 0 = .ok (.iload_n 1, 1) := by decide +kernel
theorem dX11_letter_1 : decode cX11_letter 1 = .ok (.ifCond .lt 12, 3) := by decide +kernel
theorem dX11_letter_4 : decode cX11_letter 4 = .ok (.iload_n 2, 1) := by decide +kernel
theorem dX11_letter_5 : decode cX11_letter 5 = .ok (.iconst 0, 1) := by decide +kernel
theorem dX11_letter_6 : decode cX11_letter 6 = .ok (.iconst 4, 1) := by decide +kernel
theorem dX11_letter_7 : decode cX11_letter 7 = .ok (.invokestatic 57, 3) := by decide +kernel
theorem dX11_letter_10 : decode cX11_letter 10 = .ok (.ifCond .ne 5, 3) := by decide +kernel
theorem dX11_letter_13 : decode cX11_letter 13 = .ok (.iconst (-1), 1) := by decide +kernel
theorem dX11_letter_14 : decode cX11_letter 14 = .ok (.ireturn, 1) := by decide +kernel
theorem dX11_letter_15 : decode cX11_letter 15 = .ok (.iload_n 1, 1) := by decide +kernel
theorem dX11_letter_16 : decode cX11_letter 16 = .ok (.aload_n 0, 1) := by decide +kernel
theorem dX11_letter_17 : decode cX11_letter 17 = .ok (.getfield 7, 3) := by decide +kernel
theorem dX11_letter_20 : decode cX11_letter 20 = .ok (.iconst 0, 1) := by decide +kernel
theorem dX11_letter_21 : decode cX11_letter 21 = .ok (.iaload, 1) := by decide +kernel
theorem dX11_letter_22 : decode cX11_letter 22 = .ok (.if_icmp .lt 8, 3) := by decide +kernel
theorem dX11_letter_25 : decode cX11_letter 25 = .ok (.bipush (-4), 2) := by decide +kernel
theorem dX11_letter_27 : decode cX11_letter 27 = .ok (.goto 24, 3) := by decide +kernel
theorem dX11_letter_30 : decode cX11_letter 30 = .ok (.iload_n 2, 1) := by decide +kernel
theorem dX11_letter_31 : decode cX11_letter 31 = .ok (.ifCond .ne 14, 3) := by decide +kernel
theorem dX11_letter_34 : decode cX11_letter 34 = .ok (.aload_n 0, 1) := by decide +kernel
theorem dX11_letter_35 : decode cX11_letter 35 = .ok (.getfield 7, 3) := by decide +kernel
theorem dX11_letter_38 : decode cX11_letter 38 = .ok (.iconst 1, 1) := by decide +kernel
theorem dX11_letter_39 : decode cX11_letter 39 = .ok (.iload_n 1, 1) := by decide +kernel
theorem dX11_letter_40 : decode cX11_letter 40 = .ok (.iadd, 1) := by decide +kernel
theorem dX11_letter_41 : decode cX11_letter 41 = .ok (.iaload, 1) := by decide +kernel
theorem dX11_letter_42 : decode cX11_letter 42 = .ok (.goto 9, 3) := by decide +kernel
theorem dX11_letter_45 : decode cX11_letter 45 = .ok (.aload_n 0, 1) := by decide +kernel
theorem dX11_letter_46 : decode cX11_letter 46 = .ok (.iload_n 1, 1) := by decide +kernel
theorem dX11_letter_47 : decode cX11_letter 47 = .ok (.iload_n 2, 1) := by decide +kernel
theorem dX11_letter_48 : decode cX11_letter 48 = .ok (.invokevirtual 94, 3) := by decide +kernel
theorem dX11_letter_51 : decode cX11_letter 51 = .ok (.ireturn, 1) := by decide +kernel
set_option maxRecDepth 20000 in
theorem ggX11_isRoom_X11_cells : GoodIn wsX11_isRoom wsX11_cells := goodIn_r _ [5, 6, 7, 8, 4, 9, 10, 24, 25, 26, 27, 28, 29, 30, 31, 32, 33, 34, 35, 36, 37, 38, 39, 40] (by decide +kernel) (by decide +kernel)
set_option maxRecDepth 20000 in
theorem gX11_isRoom_X11_cells : GoodIn wsX11_isRoom (wsV RX11 54 RX11 yX11_cells wsX11_cells) := goodIn_app (goodIn_of _ (by decide +kernel)) ggX11_isRoom_X11_cells
set_option maxRecDepth 20000 in
theorem ggX11_isRoom_X11_in : GoodIn wsX11_isRoom wsX11_in := goodIn_r _ [13] (by decide +kernel) (by decide +kernel)
set_option maxRecDepth 20000 in
theorem gX11_isRoom_X11_in : GoodIn wsX11_isRoom (va_wsS RX11 57 yX11_in wsX11_in) := goodIn_app (goodIn_of _ (by decide +kernel)) ggX11_isRoom_X11_in
set_option maxRecDepth 20000 in
theorem ggX11_isRoom_X11_isRoomAt : GoodIn wsX11_isRoom wsX11_isRoomAt := goodIn_r _ [17, 10, 6, 7, 8, 4, 9, 18, 19, 20, 21, 22, 23, 24, 25, 26, 27, 28, 29, 30, 31, 32, 33, 34, 35, 36, 37, 38, 39, 40] (by decide +kernel) (by decide +kernel)
set_option maxRecDepth 20000 in
theorem gX11_isRoom_X11_isRoomAt : GoodIn wsX11_isRoom (wsV RX11 61 RX11 yX11_isRoomAt wsX11_isRoomAt) := goodIn_app (goodIn_of _ (by decide +kernel)) ggX11_isRoom_X11_isRoomAt
theorem dX11_isRoom_0 : decode cX11_isRoom 0 = .ok (.iload_n 1, 1) := by decide +kernel
theorem dX11_isRoom_1 : decode cX11_isRoom 1 = .ok (.iconst 0, 1) := by decide +kernel
theorem dX11_isRoom_2 : decode cX11_isRoom 2 = .ok (.aload_n 0, 1) := by decide +kernel
theorem dX11_isRoom_3 : decode cX11_isRoom 3 = .ok (.invokevirtual 54, 3) := by decide +kernel
theorem dX11_isRoom_6 : decode cX11_isRoom 6 = .ok (.iconst 1, 1) := by decide +kernel
theorem dX11_isRoom_7 : decode cX11_isRoom 7 = .ok (.isub, 1) := by decide +kernel
theorem dX11_isRoom_8 : decode cX11_isRoom 8 = .ok (.invokestatic 57, 3) := by decide +kernel
theorem dX11_isRoom_11 : decode cX11_isRoom 11 = .ok (.ifCond .ne 7, 3) := by decide +kernel
theorem dX11_isRoom_14 : decode cX11_isRoom 14 = .ok (.iconst (-1), 1) := by decide +kernel
theorem dX11_isRoom_15 : decode cX11_isRoom 15 = .ok (.goto 16, 3) := by decide +kernel
theorem dX11_isRoom_18 : decode cX11_isRoom 18 = .ok (.aload_n 0, 1) := by decide +kernel
theorem dX11_isRoom_19 : decode cX11_isRoom 19 = .ok (.iload_n 1, 1) := by decide +kernel
theorem dX11_isRoom_20 : decode cX11_isRoom 20 = .ok (.invokevirtual 61, 3) := by decide +kernel
theorem dX11_isRoom_23 : decode cX11_isRoom 23 = .ok (.ifCond .eq 7, 3) := by decide +kernel
theorem dX11_isRoom_26 : decode cX11_isRoom 26 = .ok (.iconst 1, 1) := by decide +kernel
theorem dX11_isRoom_27 : decode cX11_isRoom 27 = .ok (.goto 4, 3) := by decide +kernel
theorem dX11_isRoom_30 : decode cX11_isRoom 30 = .ok (.iconst 0, 1) := by decide +kernel
theorem dX11_isRoom_31 : decode cX11_isRoom 31 = .ok (.ireturn, 1) := by decide +kernel
set_option maxRecDepth 20000 in
theorem ggX11_joins_X11_cells : GoodIn wsX11_joins wsX11_cells := goodIn_r _ [6, 7, 8, 9, 5, 10, 11, 12, 13, 14, 15, 16, 17, 18, 19, 20, 21, 22, 23, 24, 25, 26, 27, 28] (by decide +kernel) (by decide +kernel)
set_option maxRecDepth 20000 in
theorem gX11_joins_X11_cells : GoodIn wsX11_joins (wsV RX11 54 RX11 yX11_cells wsX11_cells) := goodIn_app (goodIn_of _ (by decide +kernel)) ggX11_joins_X11_cells
theorem dX11_joins_0 : decode cX11_joins 0 = .ok (.iconst 0, 1) := by decide +kernel
theorem dX11_joins_1 : decode cX11_joins 1 = .ok (.istore_n 3, 1) := by decide +kernel
theorem dX11_joins_2 : decode cX11_joins 2 = .ok (.iload_n 3, 1) := by decide +kernel
theorem dX11_joins_3 : decode cX11_joins 3 = .ok (.aload_n 0, 1) := by decide +kernel
theorem dX11_joins_4 : decode cX11_joins 4 = .ok (.invokevirtual 54, 3) := by decide +kernel
theorem dX11_joins_7 : decode cX11_joins 7 = .ok (.if_icmp .ge 35, 3) := by decide +kernel
theorem dX11_joins_10 : decode cX11_joins 10 = .ok (.aload_n 0, 1) := by decide +kernel
theorem dX11_joins_11 : decode cX11_joins 11 = .ok (.getfield 22, 3) := by decide +kernel
theorem dX11_joins_14 : decode cX11_joins 14 = .ok (.iload_n 3, 1) := by decide +kernel
theorem dX11_joins_15 : decode cX11_joins 15 = .ok (.aload_n 0, 1) := by decide +kernel
theorem dX11_joins_16 : decode cX11_joins 16 = .ok (.getfield 22, 3) := by decide +kernel
theorem dX11_joins_19 : decode cX11_joins 19 = .ok (.iload_n 3, 1) := by decide +kernel
theorem dX11_joins_20 : decode cX11_joins 20 = .ok (.iaload, 1) := by decide +kernel
theorem dX11_joins_21 : decode cX11_joins 21 = .ok (.iload_n 1, 1) := by decide +kernel
theorem dX11_joins_22 : decode cX11_joins 22 = .ok (.if_icmp .ne 7, 3) := by decide +kernel
theorem dX11_joins_25 : decode cX11_joins 25 = .ok (.iload_n 2, 1) := by decide +kernel
theorem dX11_joins_26 : decode cX11_joins 26 = .ok (.goto 9, 3) := by decide +kernel
theorem dX11_joins_29 : decode cX11_joins 29 = .ok (.aload_n 0, 1) := by decide +kernel
theorem dX11_joins_30 : decode cX11_joins 30 = .ok (.getfield 22, 3) := by decide +kernel
theorem dX11_joins_33 : decode cX11_joins 33 = .ok (.iload_n 3, 1) := by decide +kernel
theorem dX11_joins_34 : decode cX11_joins 34 = .ok (.iaload, 1) := by decide +kernel
theorem dX11_joins_35 : decode cX11_joins 35 = .ok (.iastore, 1) := by decide +kernel
theorem dX11_joins_36 : decode cX11_joins 36 = .ok (.iinc 3 1, 3) := by decide +kernel
theorem dX11_joins_39 : decode cX11_joins 39 = .ok (.goto (-37), 3) := by decide +kernel
theorem dX11_joins_42 : decode cX11_joins 42 = .ok (.return_, 1) := by decide +kernel
set_option maxRecDepth 20000 in
theorem ggX11_labels_X11_cells : GoodIn wsX11_labels wsX11_cells := goodIn_r _ [6, 7, 8, 9, 5, 10, 11, 49, 50, 51, 52, 53, 54, 55, 56, 57, 58, 59, 60, 61, 62, 63, 64, 65] (by decide +kernel) (by decide +kernel)
set_option maxRecDepth 20000 in
theorem gX11_labels_X11_cells : GoodIn wsX11_labels (wsV RX11 54 RX11 yX11_cells wsX11_cells) := goodIn_app (goodIn_of _ (by decide +kernel)) ggX11_labels_X11_cells
set_option maxRecDepth 20000 in
theorem ggX11_labels_X11_isRoomAt : GoodIn wsX11_labels wsX11_isRoomAt := goodIn_r _ [15, 11, 7, 8, 9, 5, 10, 16, 17, 18, 19, 20, 21, 49, 50, 51, 52, 53, 54, 55, 56, 57, 58, 59, 60, 61, 62, 63, 64, 65] (by decide +kernel) (by decide +kernel)
set_option maxRecDepth 20000 in
theorem gX11_labels_X11_isRoomAt : GoodIn wsX11_labels (wsV RX11 61 RX11 yX11_isRoomAt wsX11_isRoomAt) := goodIn_app (goodIn_of _ (by decide +kernel)) ggX11_labels_X11_isRoomAt
set_option maxRecDepth 20000 in
theorem ggX11_labels_X11_isOpen : GoodIn wsX11_labels wsX11_isOpen := goodIn_r _ [25, 11, 26, 27, 28, 5, 29, 7, 8, 9, 10, 30, 31, 32, 33, 2, 3, 4, 6, 34, 35, 36, 12, 13, 14, 15, 16, 17, 18, 19, 20, 21, 37, 38, 39, 40, 49, 50, 51, 52, 53, 54, 55, 56, 57, 58, 59, 60, 61, 62, 63, 64, 65] (by decide +kernel) (by decide +kernel)
set_option maxRecDepth 20000 in
theorem gX11_labels_X11_isOpen : GoodIn wsX11_labels (wsV RX11 87 RX11 yX11_isOpen wsX11_isOpen) := goodIn_app (goodIn_of _ (by decide +kernel)) ggX11_labels_X11_isOpen
set_option maxRecDepth 20000 in
theorem ggX11_labels_X11_beside : GoodIn wsX11_labels wsX11_beside := goodIn_r _ [29, 7, 8, 9, 5, 10, 11, 30, 31, 32, 33, 2, 3, 4, 6, 34, 35, 36, 12, 13, 14, 15, 16, 17, 18, 19, 20, 21, 49, 50, 51, 52, 53, 54, 55, 56, 57, 58, 59, 60, 61, 62, 63, 64, 65] (by decide +kernel) (by decide +kernel)
set_option maxRecDepth 20000 in
theorem gX11_labels_X11_beside : GoodIn wsX11_labels (wsV RX11 80 RX11 yX11_beside wsX11_beside) := goodIn_app (goodIn_of _ (by decide +kernel)) ggX11_labels_X11_beside
set_option maxRecDepth 20000 in
theorem ggX11_labels_X11_joinsTwo : GoodIn wsX11_labels wsX11_joinsTwo := goodIn_r _ [44, 45, 46, 47, 5, 48, 1, 2, 3, 4, 6, 7, 8, 9, 10, 11, 49, 50, 51, 52, 53, 54, 55, 56, 57, 58, 59, 60, 61, 62, 63, 64, 65] (by decide +kernel) (by decide +kernel)
set_option maxRecDepth 20000 in
theorem gX11_labels_X11_joinsTwo : GoodIn wsX11_labels (wsV RX11 97 RX11 yX11_joinsTwo wsX11_joinsTwo) := goodIn_app (goodIn_of _ (by decide +kernel)) ggX11_labels_X11_joinsTwo
theorem dX11_labels_0 : decode cX11_labels 0 = .ok (.iconst 0, 1) := by decide +kernel
theorem dX11_labels_1 : decode cX11_labels 1 = .ok (.istore_n 1, 1) := by decide +kernel
theorem dX11_labels_2 : decode cX11_labels 2 = .ok (.iload_n 1, 1) := by decide +kernel
theorem dX11_labels_3 : decode cX11_labels 3 = .ok (.aload_n 0, 1) := by decide +kernel
theorem dX11_labels_4 : decode cX11_labels 4 = .ok (.invokevirtual 54, 3) := by decide +kernel
theorem dX11_labels_7 : decode cX11_labels 7 = .ok (.if_icmp .ge 16, 3) := by decide +kernel
theorem dX11_labels_10 : decode cX11_labels 10 = .ok (.aload_n 0, 1) := by decide +kernel
theorem dX11_labels_11 : decode cX11_labels 11 = .ok (.getfield 22, 3) := by decide +kernel
theorem dX11_labels_14 : decode cX11_labels 14 = .ok (.iload_n 1, 1) := by decide +kernel
theorem dX11_labels_15 : decode cX11_labels 15 = .ok (.iload_n 1, 1) := by decide +kernel
theorem dX11_labels_16 : decode cX11_labels 16 = .ok (.iastore, 1) := by decide +kernel
theorem dX11_labels_17 : decode cX11_labels 17 = .ok (.iinc 1 1, 3) := by decide +kernel
theorem dX11_labels_20 : decode cX11_labels 20 = .ok (.goto (-18), 3) := by decide +kernel
theorem dX11_labels_23 : decode cX11_labels 23 = .ok (.iconst 0, 1) := by decide +kernel
theorem dX11_labels_24 : decode cX11_labels 24 = .ok (.istore_n 1, 1) := by decide +kernel
theorem dX11_labels_25 : decode cX11_labels 25 = .ok (.iload_n 1, 1) := by decide +kernel
theorem dX11_labels_26 : decode cX11_labels 26 = .ok (.aload_n 0, 1) := by decide +kernel
theorem dX11_labels_27 : decode cX11_labels 27 = .ok (.invokevirtual 54, 3) := by decide +kernel
theorem dX11_labels_30 : decode cX11_labels 30 = .ok (.if_icmp .ge 60, 3) := by decide +kernel
theorem dX11_labels_33 : decode cX11_labels 33 = .ok (.iconst 1, 1) := by decide +kernel
theorem dX11_labels_34 : decode cX11_labels 34 = .ok (.istore_n 2, 1) := by decide +kernel
theorem dX11_labels_35 : decode cX11_labels 35 = .ok (.iload_n 2, 1) := by decide +kernel
theorem dX11_labels_36 : decode cX11_labels 36 = .ok (.iconst 3, 1) := by decide +kernel
theorem dX11_labels_37 : decode cX11_labels 37 = .ok (.if_icmp .ge 47, 3) := by decide +kernel
theorem dX11_labels_40 : decode cX11_labels 40 = .ok (.aload_n 0, 1) := by decide +kernel
theorem dX11_labels_41 : decode cX11_labels 41 = .ok (.iload_n 1, 1) := by decide +kernel
theorem dX11_labels_42 : decode cX11_labels 42 = .ok (.invokevirtual 61, 3) := by decide +kernel
theorem dX11_labels_45 : decode cX11_labels 45 = .ok (.ifCond .eq 33, 3) := by decide +kernel
theorem dX11_labels_48 : decode cX11_labels 48 = .ok (.aload_n 0, 1) := by decide +kernel
theorem dX11_labels_49 : decode cX11_labels 49 = .ok (.iload_n 1, 1) := by decide +kernel
theorem dX11_labels_50 : decode cX11_labels 50 = .ok (.iload_n 2, 1) := by decide +kernel
theorem dX11_labels_51 : decode cX11_labels 51 = .ok (.invokevirtual 87, 3) := by decide +kernel
theorem dX11_labels_54 : decode cX11_labels 54 = .ok (.ifCond .eq 24, 3) := by decide +kernel
theorem dX11_labels_57 : decode cX11_labels 57 = .ok (.aload_n 0, 1) := by decide +kernel
theorem dX11_labels_58 : decode cX11_labels 58 = .ok (.aload_n 0, 1) := by decide +kernel
theorem dX11_labels_59 : decode cX11_labels 59 = .ok (.getfield 22, 3) := by decide +kernel
theorem dX11_labels_62 : decode cX11_labels 62 = .ok (.iload_n 1, 1) := by decide +kernel
theorem dX11_labels_63 : decode cX11_labels 63 = .ok (.iaload, 1) := by decide +kernel
theorem dX11_labels_64 : decode cX11_labels 64 = .ok (.aload_n 0, 1) := by decide +kernel
theorem dX11_labels_65 : decode cX11_labels 65 = .ok (.getfield 22, 3) := by decide +kernel
theorem dX11_labels_68 : decode cX11_labels 68 = .ok (.aload_n 0, 1) := by decide +kernel
theorem dX11_labels_69 : decode cX11_labels 69 = .ok (.iload_n 1, 1) := by decide +kernel
theorem dX11_labels_70 : decode cX11_labels 70 = .ok (.iload_n 2, 1) := by decide +kernel
theorem dX11_labels_71 : decode cX11_labels 71 = .ok (.invokevirtual 80, 3) := by decide +kernel
theorem dX11_labels_74 : decode cX11_labels 74 = .ok (.iaload, 1) := by decide +kernel
theorem dX11_labels_75 : decode cX11_labels 75 = .ok (.invokevirtual 97, 3) := by decide +kernel
theorem dX11_labels_78 : decode cX11_labels 78 = .ok (.iinc 2 1, 3) := by decide +kernel
theorem dX11_labels_81 : decode cX11_labels 81 = .ok (.goto (-46), 3) := by decide +kernel
theorem dX11_labels_84 : decode cX11_labels 84 = .ok (.iinc 1 1, 3) := by decide +kernel
theorem dX11_labels_87 : decode cX11_labels 87 = .ok (.goto (-62), 3) := by decide +kernel
theorem dX11_labels_90 : decode cX11_labels 90 = .ok (.return_, 1) := by decide +kernel
set_option maxRecDepth 20000 in
theorem ggX11_joinsTwo_X11_joins : GoodIn wsX11_joinsTwo wsX11_joins := goodIn_r _ [5, 6, 7, 8, 9, 4, 10, 11, 12, 13, 14, 15, 16, 17, 18, 19, 20, 21, 22, 23, 24, 25, 26, 27, 28, 29, 30, 31, 32] (by decide +kernel) (by decide +kernel)
set_option maxRecDepth 20000 in
theorem gX11_joinsTwo_X11_joins : GoodIn wsX11_joinsTwo (wsV RX11 101 RX11 yX11_joins wsX11_joins) := goodIn_app (goodIn_of _ (by decide +kernel)) ggX11_joinsTwo_X11_joins
theorem dX11_joinsTwo_0 : decode cX11_joinsTwo 0 = .ok (.iload_n 1, 1) := by decide +kernel
theorem dX11_joinsTwo_1 : decode cX11_joinsTwo 1 = .ok (.iload_n 2, 1) := by decide +kernel
theorem dX11_joinsTwo_2 : decode cX11_joinsTwo 2 = .ok (.if_icmp .ge 12, 3) := by decide +kernel
theorem dX11_joinsTwo_5 : decode cX11_joinsTwo 5 = .ok (.aload_n 0, 1) := by decide +kernel
theorem dX11_joinsTwo_6 : decode cX11_joinsTwo 6 = .ok (.iload_n 2, 1) := by decide +kernel
theorem dX11_joinsTwo_7 : decode cX11_joinsTwo 7 = .ok (.iload_n 1, 1) := by decide +kernel
theorem dX11_joinsTwo_8 : decode cX11_joinsTwo 8 = .ok (.invokevirtual 101, 3) := by decide +kernel
theorem dX11_joinsTwo_11 : decode cX11_joinsTwo 11 = .ok (.goto 14, 3) := by decide +kernel
theorem dX11_joinsTwo_14 : decode cX11_joinsTwo 14 = .ok (.iload_n 2, 1) := by decide +kernel
theorem dX11_joinsTwo_15 : decode cX11_joinsTwo 15 = .ok (.iload_n 1, 1) := by decide +kernel
theorem dX11_joinsTwo_16 : decode cX11_joinsTwo 16 = .ok (.if_icmp .ge 9, 3) := by decide +kernel
theorem dX11_joinsTwo_19 : decode cX11_joinsTwo 19 = .ok (.aload_n 0, 1) := by decide +kernel
theorem dX11_joinsTwo_20 : decode cX11_joinsTwo 20 = .ok (.iload_n 1, 1) := by decide +kernel
theorem dX11_joinsTwo_21 : decode cX11_joinsTwo 21 = .ok (.iload_n 2, 1) := by decide +kernel
theorem dX11_joinsTwo_22 : decode cX11_joinsTwo 22 = .ok (.invokevirtual 101, 3) := by decide +kernel
theorem dX11_joinsTwo_25 : decode cX11_joinsTwo 25 = .ok (.return_, 1) := by decide +kernel
theorem dX11_draw_0 : decode cX11_draw 0 = .ok (.aload_n 0, 1) := by decide +kernel
theorem dX11_draw_1 : decode cX11_draw 1 = .ok (.bipush 75, 2) := by decide +kernel
theorem dX11_draw_3 : decode cX11_draw 3 = .ok (.aload_n 0, 1) := by decide +kernel
theorem dX11_draw_4 : decode cX11_draw 4 = .ok (.getfield 104, 3) := by decide +kernel
theorem dX11_draw_7 : decode cX11_draw 7 = .ok (.imul, 1) := by decide +kernel
theorem dX11_draw_8 : decode cX11_draw 8 = .ok (.bipush 74, 2) := by decide +kernel
theorem dX11_draw_10 : decode cX11_draw 10 = .ok (.iadd, 1) := by decide +kernel
theorem dX11_draw_11 : decode cX11_draw 11 = .ok (.ldc 107, 2) := by decide +kernel
theorem dX11_draw_13 : decode cX11_draw 13 = .ok (.irem, 1) := by decide +kernel
theorem dX11_draw_14 : decode cX11_draw 14 = .ok (.putfield 104, 3) := by decide +kernel
theorem dX11_draw_17 : decode cX11_draw 17 = .ok (.aload_n 0, 1) := by decide +kernel
theorem dX11_draw_18 : decode cX11_draw 18 = .ok (.getfield 104, 3) := by decide +kernel
theorem dX11_draw_21 : decode cX11_draw 21 = .ok (.iload_n 1, 1) := by decide +kernel
theorem dX11_draw_22 : decode cX11_draw 22 = .ok (.irem, 1) := by decide +kernel
theorem dX11_draw_23 : decode cX11_draw 23 = .ok (.ireturn, 1) := by decide +kernel
theorem dX11_openDoors_0 : decode cX11_openDoors 0 = .ok (.iconst 0, 1) := by decide +kernel
theorem dX11_openDoors_1 : decode cX11_openDoors 1 = .ok (.istore_n 1, 1) := by decide +kernel
theorem dX11_openDoors_2 : decode cX11_openDoors 2 = .ok (.bipush 9, 2) := by decide +kernel
theorem dX11_openDoors_4 : decode cX11_openDoors 4 = .ok (.istore_n 2, 1) := by decide +kernel
theorem dX11_openDoors_5 : decode cX11_openDoors 5 = .ok (.iload_n 2, 1) := by decide +kernel
theorem dX11_openDoors_6 : decode cX11_openDoors 6 = .ok (.sipush 429, 3) := by decide +kernel
theorem dX11_openDoors_9 : decode cX11_openDoors 9 = .ok (.if_icmp .ge 18, 3) := by decide +kernel
theorem dX11_openDoors_12 : decode cX11_openDoors 12 = .ok (.iload_n 1, 1) := by decide +kernel
theorem dX11_openDoors_13 : decode cX11_openDoors 13 = .ok (.aload_n 0, 1) := by decide +kernel
theorem dX11_openDoors_14 : decode cX11_openDoors 14 = .ok (.getfield 7, 3) := by decide +kernel
theorem dX11_openDoors_17 : decode cX11_openDoors 17 = .ok (.iload_n 2, 1) := by decide +kernel
theorem dX11_openDoors_18 : decode cX11_openDoors 18 = .ok (.iaload, 1) := by decide +kernel
theorem dX11_openDoors_19 : decode cX11_openDoors 19 = .ok (.iadd, 1) := by decide +kernel
theorem dX11_openDoors_20 : decode cX11_openDoors 20 = .ok (.istore_n 1, 1) := by decide +kernel
theorem dX11_openDoors_21 : decode cX11_openDoors 21 = .ok (.iinc 2 1, 3) := by decide +kernel
theorem dX11_openDoors_24 : decode cX11_openDoors 24 = .ok (.goto (-19), 3) := by decide +kernel
theorem dX11_openDoors_27 : decode cX11_openDoors 27 = .ok (.iload_n 1, 1) := by decide +kernel
theorem dX11_openDoors_28 : decode cX11_openDoors 28 = .ok (.ireturn, 1) := by decide +kernel
set_option maxRecDepth 20000 in
theorem ggX11_make_X11_in : GoodIn wsX11_make wsX11_in := goodIn_r _ [10] (by decide +kernel) (by decide +kernel)
set_option maxRecDepth 20000 in
theorem gX11_make_X11_in : GoodIn wsX11_make (va_wsS RX11 57 yX11_in wsX11_in) := goodIn_app (goodIn_of _ (by decide +kernel)) ggX11_make_X11_in
set_option maxRecDepth 20000 in
theorem ggX11_make_X11_records : GoodIn wsX11_make wsX11_records := goodIn_r _ [14, 15, 16, 2, 76, 77, 78, 79, 80, 81, 82, 83, 84, 85, 86, 87, 88, 89, 90, 91, 92] (by decide +kernel) (by decide +kernel)
set_option maxRecDepth 20000 in
theorem gX11_make_X11_records : GoodIn wsX11_make (wsV RX11 68 RX11 yX11_records wsX11_records) := goodIn_app (goodIn_of _ (by decide +kernel)) ggX11_make_X11_records
set_option maxRecDepth 20000 in
theorem ggX11_make_X11_countsDoors : GoodIn wsX11_make wsX11_countsDoors := goodIn_r _ [20, 4, 5, 21, 22, 23, 9, 24, 25, 26, 27, 28, 2, 29, 30, 31, 32, 33, 34, 35, 36, 37, 38, 39, 40, 41, 42, 43, 44, 45, 46, 7, 8, 10, 76, 77, 78, 79, 80, 81, 82, 83, 84, 85, 86, 87, 88, 89, 90, 91, 92] (by decide +kernel) (by decide +kernel)
set_option maxRecDepth 20000 in
theorem gX11_make_X11_countsDoors : GoodIn wsX11_make (wsV RX11 109 RX11 yX11_countsDoors wsX11_countsDoors) := goodIn_app (goodIn_of _ (by decide +kernel)) ggX11_make_X11_countsDoors
set_option maxRecDepth 20000 in
theorem ggX11_make_X11_draw : GoodIn wsX11_make wsX11_draw := goodIn_r _ [50, 3, 51, 76, 77, 78, 79, 80, 81, 82, 83, 84, 85, 86, 87, 88, 89, 90, 91, 92] (by decide +kernel) (by decide +kernel)
set_option maxRecDepth 20000 in
theorem gX11_make_X11_draw : GoodIn wsX11_make (wsV RX11 112 RX11 yX11_draw wsX11_draw) := goodIn_app (goodIn_of _ (by decide +kernel)) ggX11_make_X11_draw
set_option maxRecDepth 20000 in
theorem ggX11_make_X11_labels : GoodIn wsX11_make wsX11_labels := goodIn_r _ [55, 6, 21, 22, 23, 9, 24, 25, 26, 27, 28, 2, 29, 30, 31, 32, 33, 34, 35, 36, 37, 38, 56, 57, 58, 59, 39, 40, 41, 42, 43, 44, 45, 46, 7, 8, 10, 60, 61, 62, 63, 64, 65, 66, 67, 68, 69, 70, 71, 76, 77, 78, 79, 80, 81, 82, 83, 84, 85, 86, 87, 88, 89, 90, 91, 92] (by decide +kernel) (by decide +kernel)
set_option maxRecDepth 20000 in
theorem gX11_make_X11_labels : GoodIn wsX11_make (wsV RX11 115 RX11 yX11_labels wsX11_labels) := goodIn_app (goodIn_of _ (by decide +kernel)) ggX11_make_X11_labels
set_option maxRecDepth 20000 in
theorem ggX11_make_X11_beside : GoodIn wsX11_make wsX11_beside := goodIn_r _ [42, 25, 26, 27, 9, 28, 2, 43, 44, 45, 46, 21, 22, 23, 24, 7, 8, 10, 29, 30, 31, 32, 33, 34, 35, 36, 37, 38, 76, 77, 78, 79, 80, 81, 82, 83, 84, 85, 86, 87, 88, 89, 90, 91, 92] (by decide +kernel) (by decide +kernel)
set_option maxRecDepth 20000 in
theorem gX11_make_X11_beside : GoodIn wsX11_make (wsV RX11 80 RX11 yX11_beside wsX11_beside) := goodIn_app (goodIn_of _ (by decide +kernel)) ggX11_make_X11_beside
set_option maxRecDepth 20000 in
theorem ggX11_make_X11_doorAt : GoodIn wsX11_make wsX11_doorAt := goodIn_r _ [63, 25, 26, 27, 9, 28, 2, 76, 77, 78, 79, 80, 81, 82, 83, 84, 85, 86, 87, 88, 89, 90, 91, 92] (by decide +kernel) (by decide +kernel)
set_option maxRecDepth 20000 in
theorem gX11_make_X11_doorAt : GoodIn wsX11_make (wsV RX11 84 RX11 yX11_doorAt wsX11_doorAt) := goodIn_app (goodIn_of _ (by decide +kernel)) ggX11_make_X11_doorAt
set_option maxRecDepth 20000 in
theorem ggX11_make_X11_joinsTwo : GoodIn wsX11_make wsX11_joinsTwo := goodIn_r _ [67, 68, 69, 70, 9, 71, 6, 21, 22, 23, 24, 25, 26, 27, 28, 2, 76, 77, 78, 79, 80, 81, 82, 83, 84, 85, 86, 87, 88, 89, 90, 91, 92] (by decide +kernel) (by decide +kernel)
set_option maxRecDepth 20000 in
theorem gX11_make_X11_joinsTwo : GoodIn wsX11_make (wsV RX11 97 RX11 yX11_joinsTwo wsX11_joinsTwo) := goodIn_app (goodIn_of _ (by decide +kernel)) ggX11_make_X11_joinsTwo
set_option maxRecDepth 20000 in
theorem ggX11_make_X11_openDoors : GoodIn wsX11_make wsX11_openDoors := goodIn_r _ [75, 2, 76, 77, 78, 79, 80, 81, 82, 83, 84, 85, 86, 87, 88, 89, 90, 91, 92] (by decide +kernel) (by decide +kernel)
set_option maxRecDepth 20000 in
theorem gX11_make_X11_openDoors : GoodIn wsX11_make (wsV RX11 118 RX11 yX11_openDoors wsX11_openDoors) := goodIn_app (goodIn_of _ (by decide +kernel)) ggX11_make_X11_openDoors
theorem dX11_make_0 : decode cX11_make 0 = .ok (.iload_n 1, 1) := by decide +kernel
theorem dX11_make_1 : decode cX11_make 1 = .ok (.iconst 0, 1) := by decide +kernel
theorem dX11_make_2 : decode cX11_make 2 = .ok (.ldc 108, 2) := by decide +kernel
theorem dX11_make_4 : decode cX11_make 4 = .ok (.invokestatic 57, 3) := by decide +kernel
theorem dX11_make_7 : decode cX11_make 7 = .ok (.ifCond .ne 5, 3) := by decide +kernel
theorem dX11_make_10 : decode cX11_make 10 = .ok (.iconst (-1), 1) := by decide +kernel
theorem dX11_make_11 : decode cX11_make 11 = .ok (.ireturn, 1) := by decide +kernel
theorem dX11_make_12 : decode cX11_make 12 = .ok (.aload_n 0, 1) := by decide +kernel
theorem dX11_make_13 : decode cX11_make 13 = .ok (.invokevirtual 68, 3) := by decide +kernel
theorem dX11_make_16 : decode cX11_make 16 = .ok (.bipush 9, 2) := by decide +kernel
theorem dX11_make_18 : decode cX11_make 18 = .ok (.istore_n 2, 1) := by decide +kernel
theorem dX11_make_19 : decode cX11_make 19 = .ok (.iload_n 2, 1) := by decide +kernel
theorem dX11_make_20 : decode cX11_make 20 = .ok (.sipush 429, 3) := by decide +kernel
theorem dX11_make_23 : decode cX11_make 23 = .ok (.if_icmp .ge 16, 3) := by decide +kernel
theorem dX11_make_26 : decode cX11_make 26 = .ok (.aload_n 0, 1) := by decide +kernel
theorem dX11_make_27 : decode cX11_make 27 = .ok (.getfield 7, 3) := by decide +kernel
theorem dX11_make_30 : decode cX11_make 30 = .ok (.iload_n 2, 1) := by decide +kernel
theorem dX11_make_31 : decode cX11_make 31 = .ok (.iconst 0, 1) := by decide +kernel
theorem dX11_make_32 : decode cX11_make 32 = .ok (.iastore, 1) := by decide +kernel
theorem dX11_make_33 : decode cX11_make 33 = .ok (.iinc 2 1, 3) := by decide +kernel
theorem dX11_make_36 : decode cX11_make 36 = .ok (.goto (-17), 3) := by decide +kernel
theorem dX11_make_39 : decode cX11_make 39 = .ok (.aload_n 0, 1) := by decide +kernel
theorem dX11_make_40 : decode cX11_make 40 = .ok (.iload_n 1, 1) := by decide +kernel
theorem dX11_make_41 : decode cX11_make 41 = .ok (.putfield 104, 3) := by decide +kernel
theorem dX11_make_44 : decode cX11_make 44 = .ok (.aload_n 0, 1) := by decide +kernel
theorem dX11_make_45 : decode cX11_make 45 = .ok (.invokevirtual 109, 3) := by decide +kernel
theorem dX11_make_48 : decode cX11_make 48 = .ok (.aload_n 0, 1) := by decide +kernel
theorem dX11_make_49 : decode cX11_make 49 = .ok (.getfield 91, 3) := by decide +kernel
theorem dX11_make_52 : decode cX11_make 52 = .ok (.iconst 1, 1) := by decide +kernel
theorem dX11_make_53 : decode cX11_make 53 = .ok (.isub, 1) := by decide +kernel
theorem dX11_make_54 : decode cX11_make 54 = .ok (.istore_n 2, 1) := by decide +kernel
theorem dX11_make_55 : decode cX11_make 55 = .ok (.iload_n 2, 1) := by decide +kernel
theorem dX11_make_56 : decode cX11_make 56 = .ok (.ifCond .le 45, 3) := by decide +kernel
theorem dX11_make_59 : decode cX11_make 59 = .ok (.aload_n 0, 1) := by decide +kernel
theorem dX11_make_60 : decode cX11_make 60 = .ok (.iload_n 2, 1) := by decide +kernel
theorem dX11_make_61 : decode cX11_make 61 = .ok (.iconst 1, 1) := by decide +kernel
theorem dX11_make_62 : decode cX11_make 62 = .ok (.iadd, 1) := by decide +kernel
theorem dX11_make_63 : decode cX11_make 63 = .ok (.invokevirtual 112, 3) := by decide +kernel
theorem dX11_make_66 : decode cX11_make 66 = .ok (.istore_n 3, 1) := by decide +kernel
theorem dX11_make_67 : decode cX11_make 67 = .ok (.aload_n 0, 1) := by decide +kernel
theorem dX11_make_68 : decode cX11_make 68 = .ok (.getfield 19, 3) := by decide +kernel
theorem dX11_make_71 : decode cX11_make 71 = .ok (.iload_n 2, 1) := by decide +kernel
theorem dX11_make_72 : decode cX11_make 72 = .ok (.iaload, 1) := by decide +kernel
theorem dX11_make_73 : decode cX11_make 73 = .ok (.istore 4, 2) := by decide +kernel
theorem dX11_make_75 : decode cX11_make 75 = .ok (.aload_n 0, 1) := by decide +kernel
theorem dX11_make_76 : decode cX11_make 76 = .ok (.getfield 19, 3) := by decide +kernel
theorem dX11_make_79 : decode cX11_make 79 = .ok (.iload_n 2, 1) := by decide +kernel
theorem dX11_make_80 : decode cX11_make 80 = .ok (.aload_n 0, 1) := by decide +kernel
theorem dX11_make_81 : decode cX11_make 81 = .ok (.getfield 19, 3) := by decide +kernel
theorem dX11_make_84 : decode cX11_make 84 = .ok (.iload_n 3, 1) := by decide +kernel
theorem dX11_make_85 : decode cX11_make 85 = .ok (.iaload, 1) := by decide +kernel
theorem dX11_make_86 : decode cX11_make 86 = .ok (.iastore, 1) := by decide +kernel
theorem dX11_make_87 : decode cX11_make 87 = .ok (.aload_n 0, 1) := by decide +kernel
theorem dX11_make_88 : decode cX11_make 88 = .ok (.getfield 19, 3) := by decide +kernel
theorem dX11_make_91 : decode cX11_make 91 = .ok (.iload_n 3, 1) := by decide +kernel
theorem dX11_make_92 : decode cX11_make 92 = .ok (.iload 4, 2) := by decide +kernel
theorem dX11_make_94 : decode cX11_make 94 = .ok (.iastore, 1) := by decide +kernel
theorem dX11_make_95 : decode cX11_make 95 = .ok (.iinc 2 (-1), 3) := by decide +kernel
theorem dX11_make_98 : decode cX11_make 98 = .ok (.goto (-43), 3) := by decide +kernel
theorem dX11_make_101 : decode cX11_make 101 = .ok (.aload_n 0, 1) := by decide +kernel
theorem dX11_make_102 : decode cX11_make 102 = .ok (.invokevirtual 115, 3) := by decide +kernel
theorem dX11_make_105 : decode cX11_make 105 = .ok (.iconst 0, 1) := by decide +kernel
theorem dX11_make_106 : decode cX11_make 106 = .ok (.istore_n 2, 1) := by decide +kernel
theorem dX11_make_107 : decode cX11_make 107 = .ok (.iload_n 2, 1) := by decide +kernel
theorem dX11_make_108 : decode cX11_make 108 = .ok (.aload_n 0, 1) := by decide +kernel
theorem dX11_make_109 : decode cX11_make 109 = .ok (.getfield 91, 3) := by decide +kernel
theorem dX11_make_112 : decode cX11_make 112 = .ok (.if_icmp .ge 85, 3) := by decide +kernel
theorem dX11_make_115 : decode cX11_make 115 = .ok (.aload_n 0, 1) := by decide +kernel
theorem dX11_make_116 : decode cX11_make 116 = .ok (.getfield 19, 3) := by decide +kernel
theorem dX11_make_119 : decode cX11_make 119 = .ok (.iload_n 2, 1) := by decide +kernel
theorem dX11_make_120 : decode cX11_make 120 = .ok (.iaload, 1) := by decide +kernel
theorem dX11_make_121 : decode cX11_make 121 = .ok (.iconst 2, 1) := by decide +kernel
theorem dX11_make_122 : decode cX11_make 122 = .ok (.idiv, 1) := by decide +kernel
theorem dX11_make_123 : decode cX11_make 123 = .ok (.istore_n 3, 1) := by decide +kernel
theorem dX11_make_124 : decode cX11_make 124 = .ok (.iconst 1, 1) := by decide +kernel
theorem dX11_make_125 : decode cX11_make 125 = .ok (.aload_n 0, 1) := by decide +kernel
theorem dX11_make_126 : decode cX11_make 126 = .ok (.getfield 19, 3) := by decide +kernel
theorem dX11_make_129 : decode cX11_make 129 = .ok (.iload_n 2, 1) := by decide +kernel
theorem dX11_make_130 : decode cX11_make 130 = .ok (.iaload, 1) := by decide +kernel
theorem dX11_make_131 : decode cX11_make 131 = .ok (.iconst 2, 1) := by decide +kernel
theorem dX11_make_132 : decode cX11_make 132 = .ok (.irem, 1) := by decide +kernel
theorem dX11_make_133 : decode cX11_make 133 = .ok (.iadd, 1) := by decide +kernel
theorem dX11_make_134 : decode cX11_make 134 = .ok (.istore 4, 2) := by decide +kernel
theorem dX11_make_136 : decode cX11_make 136 = .ok (.aload_n 0, 1) := by decide +kernel
theorem dX11_make_137 : decode cX11_make 137 = .ok (.iload_n 3, 1) := by decide +kernel
theorem dX11_make_138 : decode cX11_make 138 = .ok (.iload 4, 2) := by decide +kernel
theorem dX11_make_140 : decode cX11_make 140 = .ok (.invokevirtual 80, 3) := by decide +kernel
theorem dX11_make_143 : decode cX11_make 143 = .ok (.istore 5, 2) := by decide +kernel
theorem dX11_make_145 : decode cX11_make 145 = .ok (.aload_n 0, 1) := by decide +kernel
theorem dX11_make_146 : decode cX11_make 146 = .ok (.getfield 22, 3) := by decide +kernel
theorem dX11_make_149 : decode cX11_make 149 = .ok (.iload_n 3, 1) := by decide +kernel
theorem dX11_make_150 : decode cX11_make 150 = .ok (.iaload, 1) := by decide +kernel
theorem dX11_make_151 : decode cX11_make 151 = .ok (.aload_n 0, 1) := by decide +kernel
theorem dX11_make_152 : decode cX11_make 152 = .ok (.getfield 22, 3) := by decide +kernel
theorem dX11_make_155 : decode cX11_make 155 = .ok (.iload 5, 2) := by decide +kernel
theorem dX11_make_157 : decode cX11_make 157 = .ok (.iaload, 1) := by decide +kernel
theorem dX11_make_158 : decode cX11_make 158 = .ok (.if_icmp .eq 33, 3) := by decide +kernel
theorem dX11_make_161 : decode cX11_make 161 = .ok (.aload_n 0, 1) := by decide +kernel
theorem dX11_make_162 : decode cX11_make 162 = .ok (.getfield 7, 3) := by decide +kernel
theorem dX11_make_165 : decode cX11_make 165 = .ok (.aload_n 0, 1) := by decide +kernel
theorem dX11_make_166 : decode cX11_make 166 = .ok (.iload_n 3, 1) := by decide +kernel
theorem dX11_make_167 : decode cX11_make 167 = .ok (.iload 4, 2) := by decide +kernel
theorem dX11_make_169 : decode cX11_make 169 = .ok (.invokevirtual 84, 3) := by decide +kernel
theorem dX11_make_172 : decode cX11_make 172 = .ok (.iconst 1, 1) := by decide +kernel
theorem dX11_make_173 : decode cX11_make 173 = .ok (.iastore, 1) := by decide +kernel
theorem dX11_make_174 : decode cX11_make 174 = .ok (.aload_n 0, 1) := by decide +kernel
theorem dX11_make_175 : decode cX11_make 175 = .ok (.aload_n 0, 1) := by decide +kernel
theorem dX11_make_176 : decode cX11_make 176 = .ok (.getfield 22, 3) := by decide +kernel
theorem dX11_make_179 : decode cX11_make 179 = .ok (.iload_n 3, 1) := by decide +kernel
theorem dX11_make_180 : decode cX11_make 180 = .ok (.iaload, 1) := by decide +kernel
theorem dX11_make_181 : decode cX11_make 181 = .ok (.aload_n 0, 1) := by decide +kernel
theorem dX11_make_182 : decode cX11_make 182 = .ok (.getfield 22, 3) := by decide +kernel
theorem dX11_make_185 : decode cX11_make 185 = .ok (.iload 5, 2) := by decide +kernel
theorem dX11_make_187 : decode cX11_make 187 = .ok (.iaload, 1) := by decide +kernel
theorem dX11_make_188 : decode cX11_make 188 = .ok (.invokevirtual 97, 3) := by decide +kernel
theorem dX11_make_191 : decode cX11_make 191 = .ok (.iinc 2 1, 3) := by decide +kernel
theorem dX11_make_194 : decode cX11_make 194 = .ok (.goto (-87), 3) := by decide +kernel
theorem dX11_make_197 : decode cX11_make 197 = .ok (.aload_n 0, 1) := by decide +kernel
theorem dX11_make_198 : decode cX11_make 198 = .ok (.invokevirtual 118, 3) := by decide +kernel
theorem dX11_make_201 : decode cX11_make 201 = .ok (.ireturn, 1) := by decide +kernel
set_option maxRecDepth 20000 in
theorem ggX11_door_X11_hasRoom : GoodIn wsX11_door wsX11_hasRoom := goodIn_r _ [6, 7, 8, 9, 5, 10, 11, 12, 13, 14, 1, 15, 16, 17, 18, 19, 20, 21, 22, 23, 24, 25, 26, 27, 42, 43, 44, 45, 46, 47, 48, 49, 50, 51, 52, 53, 54, 55, 56, 57, 58] (by decide +kernel) (by decide +kernel)
set_option maxRecDepth 20000 in
theorem gX11_door_X11_hasRoom : GoodIn wsX11_door (wsV RX11 74 RX11 yX11_hasRoom wsX11_hasRoom) := goodIn_app (goodIn_of _ (by decide +kernel)) ggX11_door_X11_hasRoom
set_option maxRecDepth 20000 in
theorem ggX11_door_X11_in : GoodIn wsX11_door wsX11_in := goodIn_r _ [17] (by decide +kernel) (by decide +kernel)
set_option maxRecDepth 20000 in
theorem gX11_door_X11_in : GoodIn wsX11_door (va_wsS RX11 57 yX11_in wsX11_in) := goodIn_app (goodIn_of _ (by decide +kernel)) ggX11_door_X11_in
set_option maxRecDepth 20000 in
theorem ggX11_door_X11_beside : GoodIn wsX11_door wsX11_beside := goodIn_r _ [31, 11, 12, 13, 5, 14, 1, 2, 3, 4, 6, 7, 8, 9, 10, 15, 16, 17, 18, 19, 20, 21, 22, 23, 24, 25, 26, 27, 42, 43, 44, 45, 46, 47, 48, 49, 50, 51, 52, 53, 54, 55, 56, 57, 58] (by decide +kernel) (by decide +kernel)
set_option maxRecDepth 20000 in
theorem gX11_door_X11_beside : GoodIn wsX11_door (wsV RX11 80 RX11 yX11_beside wsX11_beside) := goodIn_app (goodIn_of _ (by decide +kernel)) ggX11_door_X11_beside
set_option maxRecDepth 20000 in
theorem ggX11_door_X11_records : GoodIn wsX11_door wsX11_records := goodIn_r _ [35, 36, 37, 1, 42, 43, 44, 45, 46, 47, 48, 49, 50, 51, 52, 53, 54, 55, 56, 57, 58] (by decide +kernel) (by decide +kernel)
set_option maxRecDepth 20000 in
theorem gX11_door_X11_records : GoodIn wsX11_door (wsV RX11 68 RX11 yX11_records wsX11_records) := goodIn_app (goodIn_of _ (by decide +kernel)) ggX11_door_X11_records
set_option maxRecDepth 20000 in
theorem ggX11_door_X11_doorAt : GoodIn wsX11_door wsX11_doorAt := goodIn_r _ [41, 11, 12, 13, 5, 14, 1, 42, 43, 44, 45, 46, 47, 48, 49, 50, 51, 52, 53, 54, 55, 56, 57, 58] (by decide +kernel) (by decide +kernel)
set_option maxRecDepth 20000 in
theorem gX11_door_X11_doorAt : GoodIn wsX11_door (wsV RX11 84 RX11 yX11_doorAt wsX11_doorAt) := goodIn_app (goodIn_of _ (by decide +kernel)) ggX11_door_X11_doorAt
theorem dX11_door_0 : decode cX11_door 0 = .ok (.aload_n 0, 1) := by decide +kernel
theorem dX11_door_1 : decode cX11_door 1 = .ok (.iload_n 1, 1) := by decide +kernel
theorem dX11_door_2 : decode cX11_door 2 = .ok (.invokevirtual 74, 3) := by decide +kernel
theorem dX11_door_5 : decode cX11_door 5 = .ok (.ifCond .eq 21, 3) := by decide +kernel
theorem dX11_door_8 : decode cX11_door 8 = .ok (.iload_n 2, 1) := by decide +kernel
theorem dX11_door_9 : decode cX11_door 9 = .ok (.iconst 0, 1) := by decide +kernel
theorem dX11_door_10 : decode cX11_door 10 = .ok (.iconst 3, 1) := by decide +kernel
theorem dX11_door_11 : decode cX11_door 11 = .ok (.invokestatic 57, 3) := by decide +kernel
theorem dX11_door_14 : decode cX11_door 14 = .ok (.ifCond .eq 12, 3) := by decide +kernel
theorem dX11_door_17 : decode cX11_door 17 = .ok (.iload_n 3, 1) := by decide +kernel
theorem dX11_door_18 : decode cX11_door 18 = .ok (.iconst 0, 1) := by decide +kernel
theorem dX11_door_19 : decode cX11_door 19 = .ok (.iconst 1, 1) := by decide +kernel
theorem dX11_door_20 : decode cX11_door 20 = .ok (.invokestatic 57, 3) := by decide +kernel
theorem dX11_door_23 : decode cX11_door 23 = .ok (.ifCond .ne 5, 3) := by decide +kernel
theorem dX11_door_26 : decode cX11_door 26 = .ok (.iconst (-1), 1) := by decide +kernel
theorem dX11_door_27 : decode cX11_door 27 = .ok (.ireturn, 1) := by decide +kernel
theorem dX11_door_28 : decode cX11_door 28 = .ok (.aload_n 0, 1) := by decide +kernel
theorem dX11_door_29 : decode cX11_door 29 = .ok (.iload_n 1, 1) := by decide +kernel
theorem dX11_door_30 : decode cX11_door 30 = .ok (.iload_n 2, 1) := by decide +kernel
theorem dX11_door_31 : decode cX11_door 31 = .ok (.invokevirtual 80, 3) := by decide +kernel
theorem dX11_door_34 : decode cX11_door 34 = .ok (.ifCond .ge 6, 3) := by decide +kernel
theorem dX11_door_37 : decode cX11_door 37 = .ok (.bipush (-4), 2) := by decide +kernel
theorem dX11_door_39 : decode cX11_door 39 = .ok (.ireturn, 1) := by decide +kernel
theorem dX11_door_40 : decode cX11_door 40 = .ok (.aload_n 0, 1) := by decide +kernel
theorem dX11_door_41 : decode cX11_door 41 = .ok (.invokevirtual 68, 3) := by decide +kernel
theorem dX11_door_44 : decode cX11_door 44 = .ok (.aload_n 0, 1) := by decide +kernel
theorem dX11_door_45 : decode cX11_door 45 = .ok (.iload_n 1, 1) := by decide +kernel
theorem dX11_door_46 : decode cX11_door 46 = .ok (.iload_n 2, 1) := by decide +kernel
theorem dX11_door_47 : decode cX11_door 47 = .ok (.invokevirtual 84, 3) := by decide +kernel
theorem dX11_door_50 : decode cX11_door 50 = .ok (.istore 4, 2) := by decide +kernel
theorem dX11_door_52 : decode cX11_door 52 = .ok (.aload_n 0, 1) := by decide +kernel
theorem dX11_door_53 : decode cX11_door 53 = .ok (.getfield 7, 3) := by decide +kernel
theorem dX11_door_56 : decode cX11_door 56 = .ok (.iload 4, 2) := by decide +kernel
theorem dX11_door_58 : decode cX11_door 58 = .ok (.iaload, 1) := by decide +kernel
theorem dX11_door_59 : decode cX11_door 59 = .ok (.istore 5, 2) := by decide +kernel
theorem dX11_door_61 : decode cX11_door 61 = .ok (.aload_n 0, 1) := by decide +kernel
theorem dX11_door_62 : decode cX11_door 62 = .ok (.getfield 7, 3) := by decide +kernel
theorem dX11_door_65 : decode cX11_door 65 = .ok (.iload 4, 2) := by decide +kernel
theorem dX11_door_67 : decode cX11_door 67 = .ok (.iload_n 3, 1) := by decide +kernel
theorem dX11_door_68 : decode cX11_door 68 = .ok (.iastore, 1) := by decide +kernel
theorem dX11_door_69 : decode cX11_door 69 = .ok (.iload 5, 2) := by decide +kernel
theorem dX11_door_71 : decode cX11_door 71 = .ok (.ireturn, 1) := by decide +kernel
set_option maxRecDepth 20000 in
theorem ggX11_doors_X11_hasRoom : GoodIn wsX11_doors wsX11_hasRoom := goodIn_r _ [5, 6, 7, 8, 4, 9, 10, 11, 12, 13, 14, 15, 16, 17, 18, 19, 20, 21, 22, 23, 24, 25, 26, 27, 40, 41, 42, 43, 44, 45, 46, 47, 48, 49, 50, 51, 52, 53, 54, 55, 56] (by decide +kernel) (by decide +kernel)
set_option maxRecDepth 20000 in
theorem gX11_doors_X11_hasRoom : GoodIn wsX11_doors (wsV RX11 74 RX11 yX11_hasRoom wsX11_hasRoom) := goodIn_app (goodIn_of _ (by decide +kernel)) ggX11_doors_X11_hasRoom
set_option maxRecDepth 20000 in
theorem ggX11_doors_X11_isOpen : GoodIn wsX11_doors wsX11_isOpen := goodIn_r _ [31, 14, 32, 33, 34, 4, 35, 10, 11, 12, 13, 1, 2, 3, 5, 6, 7, 8, 9, 15, 16, 17, 18, 19, 20, 21, 22, 23, 24, 25, 26, 27, 36, 37, 38, 39, 40, 41, 42, 43, 44, 45, 46, 47, 48, 49, 50, 51, 52, 53, 54, 55, 56] (by decide +kernel) (by decide +kernel)
set_option maxRecDepth 20000 in
theorem gX11_doors_X11_isOpen : GoodIn wsX11_doors (wsV RX11 87 RX11 yX11_isOpen wsX11_isOpen) := goodIn_app (goodIn_of _ (by decide +kernel)) ggX11_doors_X11_isOpen
theorem dX11_doors_0 : decode cX11_doors 0 = .ok (.aload_n 0, 1) := by decide +kernel
theorem dX11_doors_1 : decode cX11_doors 1 = .ok (.iload_n 1, 1) := by decide +kernel
theorem dX11_doors_2 : decode cX11_doors 2 = .ok (.invokevirtual 74, 3) := by decide +kernel
theorem dX11_doors_5 : decode cX11_doors 5 = .ok (.ifCond .ne 5, 3) := by decide +kernel
theorem dX11_doors_8 : decode cX11_doors 8 = .ok (.iconst (-1), 1) := by decide +kernel
theorem dX11_doors_9 : decode cX11_doors 9 = .ok (.ireturn, 1) := by decide +kernel
theorem dX11_doors_10 : decode cX11_doors 10 = .ok (.iconst 0, 1) := by decide +kernel
theorem dX11_doors_11 : decode cX11_doors 11 = .ok (.istore_n 2, 1) := by decide +kernel
theorem dX11_doors_12 : decode cX11_doors 12 = .ok (.iconst 0, 1) := by decide +kernel
theorem dX11_doors_13 : decode cX11_doors 13 = .ok (.istore_n 3, 1) := by decide +kernel
theorem dX11_doors_14 : decode cX11_doors 14 = .ok (.iload_n 3, 1) := by decide +kernel
theorem dX11_doors_15 : decode cX11_doors 15 = .ok (.iconst 4, 1) := by decide +kernel
theorem dX11_doors_16 : decode cX11_doors 16 = .ok (.if_icmp .ge 28, 3) := by decide +kernel
theorem dX11_doors_19 : decode cX11_doors 19 = .ok (.iload_n 2, 1) := by decide +kernel
theorem dX11_doors_20 : decode cX11_doors 20 = .ok (.aload_n 0, 1) := by decide +kernel
theorem dX11_doors_21 : decode cX11_doors 21 = .ok (.iload_n 1, 1) := by decide +kernel
theorem dX11_doors_22 : decode cX11_doors 22 = .ok (.iload_n 3, 1) := by decide +kernel
theorem dX11_doors_23 : decode cX11_doors 23 = .ok (.invokevirtual 87, 3) := by decide +kernel
theorem dX11_doors_26 : decode cX11_doors 26 = .ok (.ifCond .eq 9, 3) := by decide +kernel
theorem dX11_doors_29 : decode cX11_doors 29 = .ok (.iconst 1, 1) := by decide +kernel
theorem dX11_doors_30 : decode cX11_doors 30 = .ok (.iload_n 3, 1) := by decide +kernel
theorem dX11_doors_31 : decode cX11_doors 31 = .ok (.ishl, 1) := by decide +kernel
theorem dX11_doors_32 : decode cX11_doors 32 = .ok (.goto 4, 3) := by decide +kernel
theorem dX11_doors_35 : decode cX11_doors 35 = .ok (.iconst 0, 1) := by decide +kernel
theorem dX11_doors_36 : decode cX11_doors 36 = .ok (.ior, 1) := by decide +kernel
theorem dX11_doors_37 : decode cX11_doors 37 = .ok (.istore_n 2, 1) := by decide +kernel
theorem dX11_doors_38 : decode cX11_doors 38 = .ok (.iinc 3 1, 3) := by decide +kernel
theorem dX11_doors_41 : decode cX11_doors 41 = .ok (.goto (-27), 3) := by decide +kernel
theorem dX11_doors_44 : decode cX11_doors 44 = .ok (.iload_n 2, 1) := by decide +kernel
theorem dX11_doors_45 : decode cX11_doors 45 = .ok (.ireturn, 1) := by decide +kernel
set_option maxRecDepth 20000 in
theorem ggX11_parts_X11_labels : GoodIn wsX11_parts wsX11_labels := goodIn_r _ [6, 1, 7, 8, 9, 5, 10, 11, 12, 13, 14, 15, 16, 17, 18, 19, 20, 21, 22, 23, 24, 25, 26, 27, 28, 29, 30, 31, 32, 33, 34, 35, 36, 37, 38, 39, 40, 41, 42, 43, 44, 45, 46, 47, 48, 49, 50, 51, 52, 53, 54, 55, 56, 57, 58, 59, 60, 61, 62, 63, 64, 65, 66, 67, 68, 69] (by decide +kernel) (by decide +kernel)
set_option maxRecDepth 20000 in
theorem gX11_parts_X11_labels : GoodIn wsX11_parts (wsV RX11 115 RX11 yX11_labels wsX11_labels) := goodIn_app (goodIn_of _ (by decide +kernel)) ggX11_parts_X11_labels
set_option maxRecDepth 20000 in
theorem ggX11_parts_X11_cells : GoodIn wsX11_parts wsX11_cells := goodIn_r _ [10, 11, 12, 13, 5, 14, 15, 53, 54, 55, 56, 57, 58, 59, 60, 61, 62, 63, 64, 65, 66, 67, 68, 69] (by decide +kernel) (by decide +kernel)
set_option maxRecDepth 20000 in
theorem gX11_parts_X11_cells : GoodIn wsX11_parts (wsV RX11 54 RX11 yX11_cells wsX11_cells) := goodIn_app (goodIn_of _ (by decide +kernel)) ggX11_parts_X11_cells
set_option maxRecDepth 20000 in
theorem ggX11_parts_X11_isRoomAt : GoodIn wsX11_parts wsX11_isRoomAt := goodIn_r _ [19, 15, 11, 12, 13, 5, 14, 20, 21, 22, 23, 24, 25, 53, 54, 55, 56, 57, 58, 59, 60, 61, 62, 63, 64, 65, 66, 67, 68, 69] (by decide +kernel) (by decide +kernel)
set_option maxRecDepth 20000 in
theorem gX11_parts_X11_isRoomAt : GoodIn wsX11_parts (wsV RX11 61 RX11 yX11_isRoomAt wsX11_isRoomAt) := goodIn_app (goodIn_of _ (by decide +kernel)) ggX11_parts_X11_isRoomAt
theorem dX11_parts_0 : decode cX11_parts 0 = .ok (.aload_n 0, 1) := by decide +kernel
theorem dX11_parts_1 : decode cX11_parts 1 = .ok (.invokevirtual 115, 3) := by decide +kernel
theorem dX11_parts_4 : decode cX11_parts 4 = .ok (.iconst 0, 1) := by decide +kernel
theorem dX11_parts_5 : decode cX11_parts 5 = .ok (.istore_n 1, 1) := by decide +kernel
theorem dX11_parts_6 : decode cX11_parts 6 = .ok (.iconst 0, 1) := by decide +kernel
theorem dX11_parts_7 : decode cX11_parts 7 = .ok (.istore_n 2, 1) := by decide +kernel
theorem dX11_parts_8 : decode cX11_parts 8 = .ok (.iload_n 2, 1) := by decide +kernel
theorem dX11_parts_9 : decode cX11_parts 9 = .ok (.aload_n 0, 1) := by decide +kernel
theorem dX11_parts_10 : decode cX11_parts 10 = .ok (.invokevirtual 54, 3) := by decide +kernel
theorem dX11_parts_13 : decode cX11_parts 13 = .ok (.if_icmp .ge 35, 3) := by decide +kernel
theorem dX11_parts_16 : decode cX11_parts 16 = .ok (.iload_n 1, 1) := by decide +kernel
theorem dX11_parts_17 : decode cX11_parts 17 = .ok (.aload_n 0, 1) := by decide +kernel
theorem dX11_parts_18 : decode cX11_parts 18 = .ok (.iload_n 2, 1) := by decide +kernel
theorem dX11_parts_19 : decode cX11_parts 19 = .ok (.invokevirtual 61, 3) := by decide +kernel
theorem dX11_parts_22 : decode cX11_parts 22 = .ok (.ifCond .eq 17, 3) := by decide +kernel
theorem dX11_parts_25 : decode cX11_parts 25 = .ok (.aload_n 0, 1) := by decide +kernel
theorem dX11_parts_26 : decode cX11_parts 26 = .ok (.getfield 22, 3) := by decide +kernel
theorem dX11_parts_29 : decode cX11_parts 29 = .ok (.iload_n 2, 1) := by decide +kernel
theorem dX11_parts_30 : decode cX11_parts 30 = .ok (.iaload, 1) := by decide +kernel
theorem dX11_parts_31 : decode cX11_parts 31 = .ok (.iload_n 2, 1) := by decide +kernel
theorem dX11_parts_32 : decode cX11_parts 32 = .ok (.if_icmp .ne 7, 3) := by decide +kernel
theorem dX11_parts_35 : decode cX11_parts 35 = .ok (.iconst 1, 1) := by decide +kernel
theorem dX11_parts_36 : decode cX11_parts 36 = .ok (.goto 4, 3) := by decide +kernel
theorem dX11_parts_39 : decode cX11_parts 39 = .ok (.iconst 0, 1) := by decide +kernel
theorem dX11_parts_40 : decode cX11_parts 40 = .ok (.iadd, 1) := by decide +kernel
theorem dX11_parts_41 : decode cX11_parts 41 = .ok (.istore_n 1, 1) := by decide +kernel
theorem dX11_parts_42 : decode cX11_parts 42 = .ok (.iinc 2 1, 3) := by decide +kernel
theorem dX11_parts_45 : decode cX11_parts 45 = .ok (.goto (-37), 3) := by decide +kernel
theorem dX11_parts_48 : decode cX11_parts 48 = .ok (.iload_n 1, 1) := by decide +kernel
theorem dX11_parts_49 : decode cX11_parts 49 = .ok (.ireturn, 1) := by decide +kernel
set_option maxRecDepth 20000 in
theorem ggX11_loops_X11_openDoors : GoodIn wsX11_loops wsX11_openDoors := goodIn_r _ [5, 6, 65, 66, 67, 68, 69, 70, 71, 72, 73, 74, 75, 76, 77, 78, 79, 80, 81] (by decide +kernel) (by decide +kernel)
set_option maxRecDepth 20000 in
theorem gX11_loops_X11_openDoors : GoodIn wsX11_loops (wsV RX11 118 RX11 yX11_openDoors wsX11_openDoors) := goodIn_app (goodIn_of _ (by decide +kernel)) ggX11_loops_X11_openDoors
set_option maxRecDepth 20000 in
theorem ggX11_loops_X11_rooms : GoodIn wsX11_loops wsX11_rooms := goodIn_r _ [10, 11, 12, 13, 4, 14, 15, 16, 17, 18, 6, 19, 20, 21, 22, 23, 24, 25, 26, 27, 28, 65, 66, 67, 68, 69, 70, 71, 72, 73, 74, 75, 76, 77, 78, 79, 80, 81] (by decide +kernel) (by decide +kernel)
set_option maxRecDepth 20000 in
theorem gX11_loops_X11_rooms : GoodIn wsX11_loops (wsV RX11 71 RX11 yX11_rooms wsX11_rooms) := goodIn_app (goodIn_of _ (by decide +kernel)) ggX11_loops_X11_rooms
set_option maxRecDepth 20000 in
theorem ggX11_loops_X11_parts : GoodIn wsX11_loops wsX11_parts := goodIn_r _ [32, 33, 34, 35, 36, 4, 37, 11, 12, 13, 14, 15, 16, 17, 18, 6, 19, 20, 21, 22, 23, 24, 25, 26, 27, 28, 38, 39, 40, 41, 42, 43, 44, 45, 46, 47, 48, 49, 50, 51, 52, 53, 54, 55, 56, 57, 58, 59, 60, 61, 62, 63, 64, 65, 66, 67, 68, 69, 70, 71, 72, 73, 74, 75, 76, 77, 78, 79, 80, 81] (by decide +kernel) (by decide +kernel)
set_option maxRecDepth 20000 in
theorem gX11_loops_X11_parts : GoodIn wsX11_loops (wsV RX11 121 RX11 yX11_parts wsX11_parts) := goodIn_app (goodIn_of _ (by decide +kernel)) ggX11_loops_X11_parts
theorem dX11_loops_0 : decode cX11_loops 0 = .ok (.aload_n 0, 1) := by decide +kernel
theorem dX11_loops_1 : decode cX11_loops 1 = .ok (.invokevirtual 118, 3) := by decide +kernel
theorem dX11_loops_4 : decode cX11_loops 4 = .ok (.aload_n 0, 1) := by decide +kernel
theorem dX11_loops_5 : decode cX11_loops 5 = .ok (.invokevirtual 71, 3) := by decide +kernel
theorem dX11_loops_8 : decode cX11_loops 8 = .ok (.isub, 1) := by decide +kernel
theorem dX11_loops_9 : decode cX11_loops 9 = .ok (.aload_n 0, 1) := by decide +kernel
theorem dX11_loops_10 : decode cX11_loops 10 = .ok (.invokevirtual 121, 3) := by decide +kernel
theorem dX11_loops_13 : decode cX11_loops 13 = .ok (.iadd, 1) := by decide +kernel
theorem dX11_loops_14 : decode cX11_loops 14 = .ok (.ireturn, 1) := by decide +kernel
set_option maxRecDepth 20000 in
theorem ggX11_isSingle_X11_parts : GoodIn wsX11_isSingle wsX11_parts := goodIn_r _ [5, 6, 7, 8, 9, 4, 10, 11, 12, 13, 14, 15, 16, 17, 18, 19, 20, 21, 22, 23, 24, 25, 26, 27, 28, 29, 30, 31, 32, 33, 34, 35, 36, 37, 38, 39, 40, 41, 42, 43, 44, 45, 46, 47, 48, 49, 50, 51, 52, 53, 54, 55, 56, 69, 70, 71, 72, 73, 74, 75, 76, 77, 78, 79, 80, 81, 82, 83, 84, 85] (by decide +kernel) (by decide +kernel)
set_option maxRecDepth 20000 in
theorem gX11_isSingle_X11_parts : GoodIn wsX11_isSingle (wsV RX11 121 RX11 yX11_parts wsX11_parts) := goodIn_app (goodIn_of _ (by decide +kernel)) ggX11_isSingle_X11_parts
set_option maxRecDepth 20000 in
theorem ggX11_isSingle_X11_loops : GoodIn wsX11_isSingle wsX11_loops := goodIn_r _ [60, 61, 62, 63, 4, 64, 19, 65, 66, 67, 68, 11, 12, 13, 14, 15, 16, 17, 18, 20, 21, 22, 23, 24, 25, 26, 27, 28, 29, 1, 2, 3, 5, 6, 7, 8, 9, 10, 30, 31, 32, 33, 34, 35, 36, 37, 38, 39, 40, 41, 42, 43, 44, 45, 46, 47, 48, 49, 50, 51, 52, 53, 54, 55, 56, 69, 70, 71, 72, 73, 74, 75, 76, 77, 78, 79, 80, 81, 82, 83, 84, 85] (by decide +kernel) (by decide +kernel)
set_option maxRecDepth 20000 in
theorem gX11_isSingle_X11_loops : GoodIn wsX11_isSingle (wsV RX11 124 RX11 yX11_loops wsX11_loops) := goodIn_app (goodIn_of _ (by decide +kernel)) ggX11_isSingle_X11_loops
theorem dX11_isSingle_0 : decode cX11_isSingle 0 = .ok (.aload_n 0, 1) := by decide +kernel
theorem dX11_isSingle_1 : decode cX11_isSingle 1 = .ok (.invokevirtual 121, 3) := by decide +kernel
theorem dX11_isSingle_4 : decode cX11_isSingle 4 = .ok (.iconst 1, 1) := by decide +kernel
theorem dX11_isSingle_5 : decode cX11_isSingle 5 = .ok (.if_icmp .ne 14, 3) := by decide +kernel
theorem dX11_isSingle_8 : decode cX11_isSingle 8 = .ok (.aload_n 0, 1) := by decide +kernel
theorem dX11_isSingle_9 : decode cX11_isSingle 9 = .ok (.invokevirtual 124, 3) := by decide +kernel
theorem dX11_isSingle_12 : decode cX11_isSingle 12 = .ok (.ifCond .ne 7, 3) := by decide +kernel
theorem dX11_isSingle_15 : decode cX11_isSingle 15 = .ok (.iconst 1, 1) := by decide +kernel
theorem dX11_isSingle_16 : decode cX11_isSingle 16 = .ok (.goto 4, 3) := by decide +kernel
theorem dX11_isSingle_19 : decode cX11_isSingle 19 = .ok (.iconst 0, 1) := by decide +kernel
theorem dX11_isSingle_20 : decode cX11_isSingle 20 = .ok (.ireturn, 1) := by decide +kernel
set_option maxRecDepth 20000 in
theorem ggX11_isFork_X11_isRoomAt : GoodIn wsX11_isFork wsX11_isRoomAt := goodIn_r _ [5, 6, 7, 8, 9, 4, 10, 11, 12, 13, 14, 15, 16, 44, 45, 46, 47, 48, 49, 50, 51, 52, 53, 54, 55, 56, 57, 58, 59, 60] (by decide +kernel) (by decide +kernel)
set_option maxRecDepth 20000 in
theorem gX11_isFork_X11_isRoomAt : GoodIn wsX11_isFork (wsV RX11 61 RX11 yX11_isRoomAt wsX11_isRoomAt) := goodIn_app (goodIn_of _ (by decide +kernel)) ggX11_isFork_X11_isRoomAt
set_option maxRecDepth 20000 in
theorem ggX11_isFork_X11_openOnes : GoodIn wsX11_isFork wsX11_openOnes := goodIn_r _ [20, 21, 22, 23, 4, 24, 6, 25, 26, 27, 28, 7, 8, 9, 10, 29, 30, 31, 32, 33, 34, 35, 36, 37, 38, 39, 1, 2, 3, 5, 11, 12, 13, 14, 15, 16, 40, 41, 42, 43, 44, 45, 46, 47, 48, 49, 50, 51, 52, 53, 54, 55, 56, 57, 58, 59, 60] (by decide +kernel) (by decide +kernel)
set_option maxRecDepth 20000 in
theorem gX11_isFork_X11_openOnes : GoodIn wsX11_isFork (wsV RX11 127 RX11 yX11_openOnes wsX11_openOnes) := goodIn_app (goodIn_of _ (by decide +kernel)) ggX11_isFork_X11_openOnes
theorem dX11_isFork_0 : decode cX11_isFork 0 = .ok (.aload_n 0, 1) := by decide +kernel
theorem dX11_isFork_1 : decode cX11_isFork 1 = .ok (.iload_n 1, 1) := by decide +kernel
theorem dX11_isFork_2 : decode cX11_isFork 2 = .ok (.invokevirtual 61, 3) := by decide +kernel
theorem dX11_isFork_5 : decode cX11_isFork 5 = .ok (.ifCond .eq 16, 3) := by decide +kernel
theorem dX11_isFork_8 : decode cX11_isFork 8 = .ok (.aload_n 0, 1) := by decide +kernel
theorem dX11_isFork_9 : decode cX11_isFork 9 = .ok (.iload_n 1, 1) := by decide +kernel
theorem dX11_isFork_10 : decode cX11_isFork 10 = .ok (.invokevirtual 127, 3) := by decide +kernel
theorem dX11_isFork_13 : decode cX11_isFork 13 = .ok (.iconst 2, 1) := by decide +kernel
theorem dX11_isFork_14 : decode cX11_isFork 14 = .ok (.if_icmp .le 7, 3) := by decide +kernel
theorem dX11_isFork_17 : decode cX11_isFork 17 = .ok (.iconst 1, 1) := by decide +kernel
theorem dX11_isFork_18 : decode cX11_isFork 18 = .ok (.goto 4, 3) := by decide +kernel
theorem dX11_isFork_21 : decode cX11_isFork 21 = .ok (.iconst 0, 1) := by decide +kernel
theorem dX11_isFork_22 : decode cX11_isFork 22 = .ok (.ireturn, 1) := by decide +kernel
set_option maxRecDepth 20000 in
theorem ggX11_roomsWith_X11_cells : GoodIn wsX11_roomsWith wsX11_cells := goodIn_r _ [5, 6, 7, 8, 4, 9, 10, 44, 45, 46, 47, 48, 49, 50, 51, 52, 53, 54, 55, 56, 57, 58, 59, 60] (by decide +kernel) (by decide +kernel)
set_option maxRecDepth 20000 in
theorem gX11_roomsWith_X11_cells : GoodIn wsX11_roomsWith (wsV RX11 54 RX11 yX11_cells wsX11_cells) := goodIn_app (goodIn_of _ (by decide +kernel)) ggX11_roomsWith_X11_cells
set_option maxRecDepth 20000 in
theorem ggX11_roomsWith_X11_isRoomAt : GoodIn wsX11_roomsWith wsX11_isRoomAt := goodIn_r _ [14, 10, 6, 7, 8, 4, 9, 15, 16, 17, 18, 19, 20, 44, 45, 46, 47, 48, 49, 50, 51, 52, 53, 54, 55, 56, 57, 58, 59, 60] (by decide +kernel) (by decide +kernel)
set_option maxRecDepth 20000 in
theorem gX11_roomsWith_X11_isRoomAt : GoodIn wsX11_roomsWith (wsV RX11 61 RX11 yX11_isRoomAt wsX11_isRoomAt) := goodIn_app (goodIn_of _ (by decide +kernel)) ggX11_roomsWith_X11_isRoomAt
set_option maxRecDepth 20000 in
theorem ggX11_roomsWith_X11_openOnes : GoodIn wsX11_roomsWith wsX11_openOnes := goodIn_r _ [24, 25, 26, 27, 4, 28, 10, 29, 30, 31, 32, 6, 7, 8, 9, 33, 34, 35, 36, 1, 2, 3, 5, 37, 38, 39, 11, 12, 13, 14, 15, 16, 17, 18, 19, 20, 40, 41, 42, 43, 44, 45, 46, 47, 48, 49, 50, 51, 52, 53, 54, 55, 56, 57, 58, 59, 60] (by decide +kernel) (by decide +kernel)
set_option maxRecDepth 20000 in
theorem gX11_roomsWith_X11_openOnes : GoodIn wsX11_roomsWith (wsV RX11 127 RX11 yX11_openOnes wsX11_openOnes) := goodIn_app (goodIn_of _ (by decide +kernel)) ggX11_roomsWith_X11_openOnes
set_option maxRecDepth 20000 in
theorem ggX11_roomsWith_X11_in : GoodIn wsX11_roomsWith wsX11_in := goodIn_r _ [39] (by decide +kernel) (by decide +kernel)
set_option maxRecDepth 20000 in
theorem gX11_roomsWith_X11_in : GoodIn wsX11_roomsWith (va_wsS RX11 57 yX11_in wsX11_in) := goodIn_app (goodIn_of _ (by decide +kernel)) ggX11_roomsWith_X11_in
theorem dX11_roomsWith_0 : decode cX11_roomsWith 0 = .ok (.iconst 0, 1) := by decide +kernel
theorem dX11_roomsWith_1 : decode cX11_roomsWith 1 = .ok (.istore_n 3, 1) := by decide +kernel
theorem dX11_roomsWith_2 : decode cX11_roomsWith 2 = .ok (.iconst 0, 1) := by decide +kernel
theorem dX11_roomsWith_3 : decode cX11_roomsWith 3 = .ok (.istore 4, 2) := by decide +kernel
theorem dX11_roomsWith_5 : decode cX11_roomsWith 5 = .ok (.iload 4, 2) := by decide +kernel
theorem dX11_roomsWith_7 : decode cX11_roomsWith 7 = .ok (.aload_n 0, 1) := by decide +kernel
theorem dX11_roomsWith_8 : decode cX11_roomsWith 8 = .ok (.invokevirtual 54, 3) := by decide +kernel
theorem dX11_roomsWith_11 : decode cX11_roomsWith 11 = .ok (.if_icmp .ge 40, 3) := by decide +kernel
theorem dX11_roomsWith_14 : decode cX11_roomsWith 14 = .ok (.iload_n 3, 1) := by decide +kernel
theorem dX11_roomsWith_15 : decode cX11_roomsWith 15 = .ok (.aload_n 0, 1) := by decide +kernel
theorem dX11_roomsWith_16 : decode cX11_roomsWith 16 = .ok (.iload 4, 2) := by decide +kernel
theorem dX11_roomsWith_18 : decode cX11_roomsWith 18 = .ok (.invokevirtual 61, 3) := by decide +kernel
theorem dX11_roomsWith_21 : decode cX11_roomsWith 21 = .ok (.ifCond .eq 21, 3) := by decide +kernel
theorem dX11_roomsWith_24 : decode cX11_roomsWith 24 = .ok (.aload_n 0, 1) := by decide +kernel
theorem dX11_roomsWith_25 : decode cX11_roomsWith 25 = .ok (.iload 4, 2) := by decide +kernel
theorem dX11_roomsWith_27 : decode cX11_roomsWith 27 = .ok (.invokevirtual 127, 3) := by decide +kernel
theorem dX11_roomsWith_30 : decode cX11_roomsWith 30 = .ok (.iload_n 1, 1) := by decide +kernel
theorem dX11_roomsWith_31 : decode cX11_roomsWith 31 = .ok (.iload_n 2, 1) := by decide +kernel
theorem dX11_roomsWith_32 : decode cX11_roomsWith 32 = .ok (.invokestatic 57, 3) := by decide +kernel
theorem dX11_roomsWith_35 : decode cX11_roomsWith 35 = .ok (.ifCond .eq 7, 3) := by decide +kernel
theorem dX11_roomsWith_38 : decode cX11_roomsWith 38 = .ok (.iconst 1, 1) := by decide +kernel
theorem dX11_roomsWith_39 : decode cX11_roomsWith 39 = .ok (.goto 4, 3) := by decide +kernel
theorem dX11_roomsWith_42 : decode cX11_roomsWith 42 = .ok (.iconst 0, 1) := by decide +kernel
theorem dX11_roomsWith_43 : decode cX11_roomsWith 43 = .ok (.iadd, 1) := by decide +kernel
theorem dX11_roomsWith_44 : decode cX11_roomsWith 44 = .ok (.istore_n 3, 1) := by decide +kernel
theorem dX11_roomsWith_45 : decode cX11_roomsWith 45 = .ok (.iinc 4 1, 3) := by decide +kernel
theorem dX11_roomsWith_48 : decode cX11_roomsWith 48 = .ok (.goto (-43), 3) := by decide +kernel
theorem dX11_roomsWith_51 : decode cX11_roomsWith 51 = .ok (.iload_n 3, 1) := by decide +kernel
theorem dX11_roomsWith_52 : decode cX11_roomsWith 52 = .ok (.ireturn, 1) := by decide +kernel
set_option maxRecDepth 20000 in
theorem ggX11_signs_X11_cells : GoodIn wsX11_signs wsX11_cells := goodIn_r _ [6, 7, 8, 9, 5, 10, 1, 48, 49, 50, 51, 52, 53, 54, 55, 56, 57, 58, 59, 60, 61, 62, 63, 64] (by decide +kernel) (by decide +kernel)
set_option maxRecDepth 20000 in
theorem gX11_signs_X11_cells : GoodIn wsX11_signs (wsV RX11 54 RX11 yX11_cells wsX11_cells) := goodIn_app (goodIn_of _ (by decide +kernel)) ggX11_signs_X11_cells
set_option maxRecDepth 20000 in
theorem ggX11_signs_X11_isFork : GoodIn wsX11_signs wsX11_isFork := goodIn_r _ [14, 15, 16, 17, 5, 18, 1, 7, 8, 9, 10, 19, 20, 21, 22, 23, 24, 25, 26, 27, 28, 29, 30, 31, 32, 33, 34, 35, 36, 37, 38, 39, 40, 2, 3, 4, 6, 41, 42, 43, 44, 45, 46, 47, 48, 49, 50, 51, 52, 53, 54, 55, 56, 57, 58, 59, 60, 61, 62, 63, 64] (by decide +kernel) (by decide +kernel)
set_option maxRecDepth 20000 in
theorem gX11_signs_X11_isFork : GoodIn wsX11_signs (wsV RX11 130 RX11 yX11_isFork wsX11_isFork) := goodIn_app (goodIn_of _ (by decide +kernel)) ggX11_signs_X11_isFork
theorem dX11_signs_0 : decode cX11_signs 0 = .ok (.iconst 0, 1) := by decide +kernel
theorem dX11_signs_1 : decode cX11_signs 1 = .ok (.istore_n 2, 1) := by decide +kernel
theorem dX11_signs_2 : decode cX11_signs 2 = .ok (.iconst 0, 1) := by decide +kernel
theorem dX11_signs_3 : decode cX11_signs 3 = .ok (.istore_n 3, 1) := by decide +kernel
theorem dX11_signs_4 : decode cX11_signs 4 = .ok (.iload_n 3, 1) := by decide +kernel
theorem dX11_signs_5 : decode cX11_signs 5 = .ok (.aload_n 0, 1) := by decide +kernel
theorem dX11_signs_6 : decode cX11_signs 6 = .ok (.invokevirtual 54, 3) := by decide +kernel
theorem dX11_signs_9 : decode cX11_signs 9 = .ok (.if_icmp .ge 42, 3) := by decide +kernel
theorem dX11_signs_12 : decode cX11_signs 12 = .ok (.iload_n 2, 1) := by decide +kernel
theorem dX11_signs_13 : decode cX11_signs 13 = .ok (.aload_n 0, 1) := by decide +kernel
theorem dX11_signs_14 : decode cX11_signs 14 = .ok (.getfield 7, 3) := by decide +kernel
theorem dX11_signs_17 : decode cX11_signs 17 = .ok (.sipush 429, 3) := by decide +kernel
theorem dX11_signs_20 : decode cX11_signs 20 = .ok (.iload_n 3, 1) := by decide +kernel
theorem dX11_signs_21 : decode cX11_signs 21 = .ok (.iadd, 1) := by decide +kernel
theorem dX11_signs_22 : decode cX11_signs 22 = .ok (.iaload, 1) := by decide +kernel
theorem dX11_signs_23 : decode cX11_signs 23 = .ok (.ifCond .le 19, 3) := by decide +kernel
theorem dX11_signs_26 : decode cX11_signs 26 = .ok (.iload_n 1, 1) := by decide +kernel
theorem dX11_signs_27 : decode cX11_signs 27 = .ok (.ifCond .eq 11, 3) := by decide +kernel
theorem dX11_signs_30 : decode cX11_signs 30 = .ok (.aload_n 0, 1) := by decide +kernel
theorem dX11_signs_31 : decode cX11_signs 31 = .ok (.iload_n 3, 1) := by decide +kernel
theorem dX11_signs_32 : decode cX11_signs 32 = .ok (.invokevirtual 130, 3) := by decide +kernel
theorem dX11_signs_35 : decode cX11_signs 35 = .ok (.ifCond .eq 7, 3) := by decide +kernel
theorem dX11_signs_38 : decode cX11_signs 38 = .ok (.iconst 1, 1) := by decide +kernel
theorem dX11_signs_39 : decode cX11_signs 39 = .ok (.goto 4, 3) := by decide +kernel
theorem dX11_signs_42 : decode cX11_signs 42 = .ok (.iconst 0, 1) := by decide +kernel
theorem dX11_signs_43 : decode cX11_signs 43 = .ok (.iadd, 1) := by decide +kernel
theorem dX11_signs_44 : decode cX11_signs 44 = .ok (.istore_n 2, 1) := by decide +kernel
theorem dX11_signs_45 : decode cX11_signs 45 = .ok (.iinc 3 1, 3) := by decide +kernel
theorem dX11_signs_48 : decode cX11_signs 48 = .ok (.goto (-44), 3) := by decide +kernel
theorem dX11_signs_51 : decode cX11_signs 51 = .ok (.iload_n 2, 1) := by decide +kernel
theorem dX11_signs_52 : decode cX11_signs 52 = .ok (.ireturn, 1) := by decide +kernel
set_option maxRecDepth 20000 in
theorem ggX11_count_X11_wide : GoodIn wsX11_count wsX11_wide := goodIn_r _ [9, 1, 97, 98, 99, 100, 101, 102, 103, 104, 105, 106, 107, 108, 109, 110, 111, 112, 113] (by decide +kernel) (by decide +kernel)
set_option maxRecDepth 20000 in
theorem gX11_count_X11_wide : GoodIn wsX11_count (wsV RX11 46 RX11 yX11_wide wsX11_wide) := goodIn_app (goodIn_of _ (by decide +kernel)) ggX11_count_X11_wide
set_option maxRecDepth 20000 in
theorem ggX11_count_X11_rooms : GoodIn wsX11_count wsX11_rooms := goodIn_r _ [13, 14, 15, 16, 8, 17, 5, 6, 7, 9, 1, 18, 19, 20, 21, 22, 23, 24, 25, 26, 27, 97, 98, 99, 100, 101, 102, 103, 104, 105, 106, 107, 108, 109, 110, 111, 112, 113] (by decide +kernel) (by decide +kernel)
set_option maxRecDepth 20000 in
theorem gX11_count_X11_rooms : GoodIn wsX11_count (wsV RX11 71 RX11 yX11_rooms wsX11_rooms) := goodIn_app (goodIn_of _ (by decide +kernel)) ggX11_count_X11_rooms
set_option maxRecDepth 20000 in
theorem ggX11_count_X11_countsDoors : GoodIn wsX11_count wsX11_countsDoors := goodIn_r _ [31, 2, 32, 14, 15, 16, 8, 17, 5, 6, 7, 9, 1, 18, 19, 20, 21, 22, 23, 24, 25, 26, 27, 33, 34, 35, 36, 37, 38, 39, 40, 41, 42, 43, 97, 98, 99, 100, 101, 102, 103, 104, 105, 106, 107, 108, 109, 110, 111, 112, 113] (by decide +kernel) (by decide +kernel)
set_option maxRecDepth 20000 in
theorem gX11_count_X11_countsDoors : GoodIn wsX11_count (wsV RX11 109 RX11 yX11_countsDoors wsX11_countsDoors) := goodIn_app (goodIn_of _ (by decide +kernel)) ggX11_count_X11_countsDoors
set_option maxRecDepth 20000 in
theorem ggX11_count_X11_openDoors : GoodIn wsX11_count wsX11_openDoors := goodIn_r _ [47, 1, 97, 98, 99, 100, 101, 102, 103, 104, 105, 106, 107, 108, 109, 110, 111, 112, 113] (by decide +kernel) (by decide +kernel)
set_option maxRecDepth 20000 in
theorem gX11_count_X11_openDoors : GoodIn wsX11_count (wsV RX11 118 RX11 yX11_openDoors wsX11_openDoors) := goodIn_app (goodIn_of _ (by decide +kernel)) ggX11_count_X11_openDoors
set_option maxRecDepth 20000 in
theorem ggX11_count_X11_parts : GoodIn wsX11_count wsX11_parts := goodIn_r _ [51, 52, 53, 54, 55, 8, 56, 14, 15, 16, 17, 5, 6, 7, 9, 1, 18, 19, 20, 21, 22, 23, 24, 25, 26, 27, 57, 58, 59, 60, 33, 34, 35, 36, 37, 38, 39, 40, 41, 42, 43, 61, 62, 63, 64, 65, 66, 67, 68, 69, 70, 71, 72, 97, 98, 99, 100, 101, 102, 103, 104, 105, 106, 107, 108, 109, 110, 111, 112, 113] (by decide +kernel) (by decide +kernel)
set_option maxRecDepth 20000 in
theorem gX11_count_X11_parts : GoodIn wsX11_count (wsV RX11 121 RX11 yX11_parts wsX11_parts) := goodIn_app (goodIn_of _ (by decide +kernel)) ggX11_count_X11_parts
set_option maxRecDepth 20000 in
theorem ggX11_count_X11_loops : GoodIn wsX11_count wsX11_loops := goodIn_r _ [76, 44, 45, 46, 8, 47, 1, 10, 11, 12, 13, 14, 15, 16, 17, 5, 6, 7, 9, 18, 19, 20, 21, 22, 23, 24, 25, 26, 27, 48, 49, 50, 51, 52, 53, 54, 55, 56, 57, 58, 59, 60, 33, 34, 35, 36, 37, 38, 39, 40, 41, 42, 43, 61, 62, 63, 64, 65, 66, 67, 68, 69, 70, 71, 72, 97, 98, 99, 100, 101, 102, 103, 104, 105, 106, 107, 108, 109, 110, 111, 112, 113] (by decide +kernel) (by decide +kernel)
set_option maxRecDepth 20000 in
theorem gX11_count_X11_loops : GoodIn wsX11_count (wsV RX11 124 RX11 yX11_loops wsX11_loops) := goodIn_app (goodIn_of _ (by decide +kernel)) ggX11_count_X11_loops
set_option maxRecDepth 20000 in
theorem ggX11_count_X11_isSingle : GoodIn wsX11_count wsX11_isSingle := goodIn_r _ [80, 48, 49, 50, 8, 51, 52, 53, 54, 55, 56, 14, 15, 16, 17, 5, 6, 7, 9, 1, 18, 19, 20, 21, 22, 23, 24, 25, 26, 27, 57, 58, 59, 60, 33, 34, 35, 36, 37, 38, 39, 40, 41, 42, 43, 61, 62, 63, 64, 65, 66, 67, 68, 69, 70, 71, 72, 73, 74, 75, 76, 44, 45, 46, 47, 10, 11, 12, 13, 97, 98, 99, 100, 101, 102, 103, 104, 105, 106, 107, 108, 109, 110, 111, 112, 113] (by decide +kernel) (by decide +kernel)
set_option maxRecDepth 20000 in
theorem gX11_count_X11_isSingle : GoodIn wsX11_count (wsV RX11 133 RX11 yX11_isSingle wsX11_isSingle) := goodIn_app (goodIn_of _ (by decide +kernel)) ggX11_count_X11_isSingle
set_option maxRecDepth 20000 in
theorem ggX11_count_X11_roomsWith : GoodIn wsX11_count wsX11_roomsWith := goodIn_r _ [84, 14, 15, 16, 8, 17, 5, 6, 7, 9, 1, 18, 19, 20, 21, 22, 23, 24, 25, 26, 27, 85, 86, 87, 88, 57, 58, 59, 60, 33, 34, 35, 36, 37, 38, 39, 40, 41, 42, 43, 61, 62, 63, 64, 97, 98, 99, 100, 101, 102, 103, 104, 105, 106, 107, 108, 109, 110, 111, 112, 113] (by decide +kernel) (by decide +kernel)
set_option maxRecDepth 20000 in
theorem gX11_count_X11_roomsWith : GoodIn wsX11_count (wsV RX11 137 RX11 yX11_roomsWith wsX11_roomsWith) := goodIn_app (goodIn_of _ (by decide +kernel)) ggX11_count_X11_roomsWith
set_option maxRecDepth 20000 in
theorem ggX11_count_X11_signs : GoodIn wsX11_count wsX11_signs := goodIn_r _ [92, 1, 14, 15, 16, 8, 17, 5, 6, 7, 9, 93, 94, 95, 96, 18, 19, 20, 21, 22, 23, 24, 25, 26, 27, 85, 86, 87, 88, 57, 58, 59, 60, 33, 34, 35, 36, 37, 38, 39, 40, 41, 42, 43, 61, 62, 63, 64, 97, 98, 99, 100, 101, 102, 103, 104, 105, 106, 107, 108, 109, 110, 111, 112, 113] (by decide +kernel) (by decide +kernel)
set_option maxRecDepth 20000 in
theorem gX11_count_X11_signs : GoodIn wsX11_count (wsV RX11 140 RX11 yX11_signs wsX11_signs) := goodIn_app (goodIn_of _ (by decide +kernel)) ggX11_count_X11_signs
theorem dX11_count_0 : decode cX11_count 0 = .ok (.iload_n 1, 1) := by decide +kernel
theorem dX11_count_1 : decode cX11_count 1 = .ok (.tableswitch 182 0 15 #[79, 86, 91, 96, 105, 110, 115, 120, 133, 140, 147, 147, 160, 166, 172, 177], 79) := by decide +kernel
theorem dX11_count_80 : decode cX11_count 80 = .ok (.aload_n 0, 1) := by decide +kernel
theorem dX11_count_81 : decode cX11_count 81 = .ok (.getfield 7, 3) := by decide +kernel
theorem dX11_count_84 : decode cX11_count 84 = .ok (.iconst 0, 1) := by decide +kernel
theorem dX11_count_85 : decode cX11_count 85 = .ok (.iaload, 1) := by decide +kernel
theorem dX11_count_86 : decode cX11_count 86 = .ok (.ireturn, 1) := by decide +kernel
theorem dX11_count_87 : decode cX11_count 87 = .ok (.aload_n 0, 1) := by decide +kernel
theorem dX11_count_88 : decode cX11_count 88 = .ok (.invokevirtual 46, 3) := by decide +kernel
theorem dX11_count_91 : decode cX11_count 91 = .ok (.ireturn, 1) := by decide +kernel
theorem dX11_count_92 : decode cX11_count 92 = .ok (.aload_n 0, 1) := by decide +kernel
theorem dX11_count_93 : decode cX11_count 93 = .ok (.invokevirtual 71, 3) := by decide +kernel
theorem dX11_count_96 : decode cX11_count 96 = .ok (.ireturn, 1) := by decide +kernel
theorem dX11_count_97 : decode cX11_count 97 = .ok (.aload_n 0, 1) := by decide +kernel
theorem dX11_count_98 : decode cX11_count 98 = .ok (.invokevirtual 109, 3) := by decide +kernel
theorem dX11_count_101 : decode cX11_count 101 = .ok (.aload_n 0, 1) := by decide +kernel
theorem dX11_count_102 : decode cX11_count 102 = .ok (.getfield 91, 3) := by decide +kernel
theorem dX11_count_105 : decode cX11_count 105 = .ok (.ireturn, 1) := by decide +kernel
theorem dX11_count_106 : decode cX11_count 106 = .ok (.aload_n 0, 1) := by decide +kernel
theorem dX11_count_107 : decode cX11_count 107 = .ok (.invokevirtual 118, 3) := by decide +kernel
theorem dX11_count_110 : decode cX11_count 110 = .ok (.ireturn, 1) := by decide +kernel
theorem dX11_count_111 : decode cX11_count 111 = .ok (.aload_n 0, 1) := by decide +kernel
theorem dX11_count_112 : decode cX11_count 112 = .ok (.invokevirtual 121, 3) := by decide +kernel
theorem dX11_count_115 : decode cX11_count 115 = .ok (.ireturn, 1) := by decide +kernel
theorem dX11_count_116 : decode cX11_count 116 = .ok (.aload_n 0, 1) := by decide +kernel
theorem dX11_count_117 : decode cX11_count 117 = .ok (.invokevirtual 124, 3) := by decide +kernel
theorem dX11_count_120 : decode cX11_count 120 = .ok (.ireturn, 1) := by decide +kernel
theorem dX11_count_121 : decode cX11_count 121 = .ok (.aload_n 0, 1) := by decide +kernel
theorem dX11_count_122 : decode cX11_count 122 = .ok (.invokevirtual 133, 3) := by decide +kernel
theorem dX11_count_125 : decode cX11_count 125 = .ok (.ifCond .eq 7, 3) := by decide +kernel
theorem dX11_count_128 : decode cX11_count 128 = .ok (.iconst 1, 1) := by decide +kernel
theorem dX11_count_129 : decode cX11_count 129 = .ok (.goto 4, 3) := by decide +kernel
theorem dX11_count_132 : decode cX11_count 132 = .ok (.iconst 0, 1) := by decide +kernel
theorem dX11_count_133 : decode cX11_count 133 = .ok (.ireturn, 1) := by decide +kernel
theorem dX11_count_134 : decode cX11_count 134 = .ok (.aload_n 0, 1) := by decide +kernel
theorem dX11_count_135 : decode cX11_count 135 = .ok (.iconst 1, 1) := by decide +kernel
theorem dX11_count_136 : decode cX11_count 136 = .ok (.iconst 1, 1) := by decide +kernel
theorem dX11_count_137 : decode cX11_count 137 = .ok (.invokevirtual 137, 3) := by decide +kernel
theorem dX11_count_140 : decode cX11_count 140 = .ok (.ireturn, 1) := by decide +kernel
theorem dX11_count_141 : decode cX11_count 141 = .ok (.aload_n 0, 1) := by decide +kernel
theorem dX11_count_142 : decode cX11_count 142 = .ok (.iconst 3, 1) := by decide +kernel
theorem dX11_count_143 : decode cX11_count 143 = .ok (.iconst 4, 1) := by decide +kernel
theorem dX11_count_144 : decode cX11_count 144 = .ok (.invokevirtual 137, 3) := by decide +kernel
theorem dX11_count_147 : decode cX11_count 147 = .ok (.ireturn, 1) := by decide +kernel
theorem dX11_count_148 : decode cX11_count 148 = .ok (.aload_n 0, 1) := by decide +kernel
theorem dX11_count_149 : decode cX11_count 149 = .ok (.getfield 7, 3) := by decide +kernel
theorem dX11_count_152 : decode cX11_count 152 = .ok (.bipush 7, 2) := by decide +kernel
theorem dX11_count_154 : decode cX11_count 154 = .ok (.iload_n 1, 1) := by decide +kernel
theorem dX11_count_155 : decode cX11_count 155 = .ok (.iadd, 1) := by decide +kernel
theorem dX11_count_156 : decode cX11_count 156 = .ok (.bipush 10, 2) := by decide +kernel
theorem dX11_count_158 : decode cX11_count 158 = .ok (.isub, 1) := by decide +kernel
theorem dX11_count_159 : decode cX11_count 159 = .ok (.iaload, 1) := by decide +kernel
theorem dX11_count_160 : decode cX11_count 160 = .ok (.ireturn, 1) := by decide +kernel
theorem dX11_count_161 : decode cX11_count 161 = .ok (.aload_n 0, 1) := by decide +kernel
theorem dX11_count_162 : decode cX11_count 162 = .ok (.iconst 0, 1) := by decide +kernel
theorem dX11_count_163 : decode cX11_count 163 = .ok (.invokevirtual 140, 3) := by decide +kernel
theorem dX11_count_166 : decode cX11_count 166 = .ok (.ireturn, 1) := by decide +kernel
theorem dX11_count_167 : decode cX11_count 167 = .ok (.aload_n 0, 1) := by decide +kernel
theorem dX11_count_168 : decode cX11_count 168 = .ok (.iconst 1, 1) := by decide +kernel
theorem dX11_count_169 : decode cX11_count 169 = .ok (.invokevirtual 140, 3) := by decide +kernel
theorem dX11_count_172 : decode cX11_count 172 = .ok (.ireturn, 1) := by decide +kernel
theorem dX11_count_173 : decode cX11_count 173 = .ok (.aload_n 0, 1) := by decide +kernel
theorem dX11_count_174 : decode cX11_count 174 = .ok (.getfield 38, 3) := by decide +kernel
theorem dX11_count_177 : decode cX11_count 177 = .ok (.ireturn, 1) := by decide +kernel
theorem dX11_count_178 : decode cX11_count 178 = .ok (.aload_n 0, 1) := by decide +kernel
theorem dX11_count_179 : decode cX11_count 179 = .ok (.getfield 65, 3) := by decide +kernel
theorem dX11_count_182 : decode cX11_count 182 = .ok (.ireturn, 1) := by decide +kernel
theorem dX11_count_183 : decode cX11_count 183 = .ok (.iconst (-1), 1) := by decide +kernel
theorem dX11_count_184 : decode cX11_count 184 = .ok (.ireturn, 1) := by decide +kernel
set_option maxRecDepth 20000 in
theorem ggX11_part_X11_hasRoom : GoodIn wsX11_part wsX11_hasRoom := goodIn_r _ [6, 7, 8, 9, 5, 10, 11, 12, 13, 14, 15, 16, 17, 18, 19, 20, 21, 22, 23, 24, 25, 26, 27, 28, 53, 54, 55, 56, 57, 58, 59, 60, 61, 62, 63, 64, 65, 66, 67, 68, 69] (by decide +kernel) (by decide +kernel)
set_option maxRecDepth 20000 in
theorem gX11_part_X11_hasRoom : GoodIn wsX11_part (wsV RX11 74 RX11 yX11_hasRoom wsX11_hasRoom) := goodIn_app (goodIn_of _ (by decide +kernel)) ggX11_part_X11_hasRoom
set_option maxRecDepth 20000 in
theorem ggX11_part_X11_labels : GoodIn wsX11_part wsX11_labels := goodIn_r _ [32, 1, 7, 8, 9, 5, 10, 11, 12, 13, 14, 15, 19, 20, 21, 22, 23, 24, 25, 26, 27, 28, 33, 34, 35, 36, 37, 38, 39, 40, 2, 3, 4, 6, 16, 17, 18, 41, 42, 43, 44, 45, 46, 47, 48, 49, 50, 51, 52, 53, 54, 55, 56, 57, 58, 59, 60, 61, 62, 63, 64, 65, 66, 67, 68, 69] (by decide +kernel) (by decide +kernel)
set_option maxRecDepth 20000 in
theorem gX11_part_X11_labels : GoodIn wsX11_part (wsV RX11 115 RX11 yX11_labels wsX11_labels) := goodIn_app (goodIn_of _ (by decide +kernel)) ggX11_part_X11_labels
set_option maxRecDepth 20000 in
theorem ggX11_part_X11_isRoomAt : GoodIn wsX11_part wsX11_isRoomAt := goodIn_r _ [22, 15, 11, 12, 13, 5, 14, 23, 24, 25, 26, 27, 28, 53, 54, 55, 56, 57, 58, 59, 60, 61, 62, 63, 64, 65, 66, 67, 68, 69] (by decide +kernel) (by decide +kernel)
set_option maxRecDepth 20000 in
theorem gX11_part_X11_isRoomAt : GoodIn wsX11_part (wsV RX11 61 RX11 yX11_isRoomAt wsX11_isRoomAt) := goodIn_app (goodIn_of _ (by decide +kernel)) ggX11_part_X11_isRoomAt
theorem dX11_part_0 : decode cX11_part 0 = .ok (.aload_n 0, 1) := by decide +kernel
theorem dX11_part_1 : decode cX11_part 1 = .ok (.iload_n 1, 1) := by decide +kernel
theorem dX11_part_2 : decode cX11_part 2 = .ok (.invokevirtual 74, 3) := by decide +kernel
theorem dX11_part_5 : decode cX11_part 5 = .ok (.ifCond .ne 5, 3) := by decide +kernel
theorem dX11_part_8 : decode cX11_part 8 = .ok (.iconst (-1), 1) := by decide +kernel
theorem dX11_part_9 : decode cX11_part 9 = .ok (.ireturn, 1) := by decide +kernel
theorem dX11_part_10 : decode cX11_part 10 = .ok (.aload_n 0, 1) := by decide +kernel
theorem dX11_part_11 : decode cX11_part 11 = .ok (.invokevirtual 115, 3) := by decide +kernel
theorem dX11_part_14 : decode cX11_part 14 = .ok (.iconst 0, 1) := by decide +kernel
theorem dX11_part_15 : decode cX11_part 15 = .ok (.istore_n 2, 1) := by decide +kernel
theorem dX11_part_16 : decode cX11_part 16 = .ok (.iconst 0, 1) := by decide +kernel
theorem dX11_part_17 : decode cX11_part 17 = .ok (.istore_n 3, 1) := by decide +kernel
theorem dX11_part_18 : decode cX11_part 18 = .ok (.iload_n 3, 1) := by decide +kernel
theorem dX11_part_19 : decode cX11_part 19 = .ok (.aload_n 0, 1) := by decide +kernel
theorem dX11_part_20 : decode cX11_part 20 = .ok (.getfield 22, 3) := by decide +kernel
theorem dX11_part_23 : decode cX11_part 23 = .ok (.iload_n 1, 1) := by decide +kernel
theorem dX11_part_24 : decode cX11_part 24 = .ok (.iaload, 1) := by decide +kernel
theorem dX11_part_25 : decode cX11_part 25 = .ok (.if_icmp .ge 35, 3) := by decide +kernel
theorem dX11_part_28 : decode cX11_part 28 = .ok (.iload_n 2, 1) := by decide +kernel
theorem dX11_part_29 : decode cX11_part 29 = .ok (.aload_n 0, 1) := by decide +kernel
theorem dX11_part_30 : decode cX11_part 30 = .ok (.iload_n 3, 1) := by decide +kernel
theorem dX11_part_31 : decode cX11_part 31 = .ok (.invokevirtual 61, 3) := by decide +kernel
theorem dX11_part_34 : decode cX11_part 34 = .ok (.ifCond .eq 17, 3) := by decide +kernel
theorem dX11_part_37 : decode cX11_part 37 = .ok (.aload_n 0, 1) := by decide +kernel
theorem dX11_part_38 : decode cX11_part 38 = .ok (.getfield 22, 3) := by decide +kernel
theorem dX11_part_41 : decode cX11_part 41 = .ok (.iload_n 3, 1) := by decide +kernel
theorem dX11_part_42 : decode cX11_part 42 = .ok (.iaload, 1) := by decide +kernel
theorem dX11_part_43 : decode cX11_part 43 = .ok (.iload_n 3, 1) := by decide +kernel
theorem dX11_part_44 : decode cX11_part 44 = .ok (.if_icmp .ne 7, 3) := by decide +kernel
theorem dX11_part_47 : decode cX11_part 47 = .ok (.iconst 1, 1) := by decide +kernel
theorem dX11_part_48 : decode cX11_part 48 = .ok (.goto 4, 3) := by decide +kernel
theorem dX11_part_51 : decode cX11_part 51 = .ok (.iconst 0, 1) := by decide +kernel
theorem dX11_part_52 : decode cX11_part 52 = .ok (.iadd, 1) := by decide +kernel
theorem dX11_part_53 : decode cX11_part 53 = .ok (.istore_n 2, 1) := by decide +kernel
theorem dX11_part_54 : decode cX11_part 54 = .ok (.iinc 3 1, 3) := by decide +kernel
theorem dX11_part_57 : decode cX11_part 57 = .ok (.goto (-39), 3) := by decide +kernel
theorem dX11_part_60 : decode cX11_part 60 = .ok (.iload_n 2, 1) := by decide +kernel
theorem dX11_part_61 : decode cX11_part 61 = .ok (.ireturn, 1) := by decide +kernel
set_option maxRecDepth 20000 in
theorem ggX11_lays_X11_cells : GoodIn wsX11_lays wsX11_cells := goodIn_r _ [7, 8, 9, 10, 6, 11, 12, 42, 43, 44, 45, 46, 47, 48, 49, 50, 51, 52, 53, 54, 55, 56, 57, 58] (by decide +kernel) (by decide +kernel)
set_option maxRecDepth 20000 in
theorem gX11_lays_X11_cells : GoodIn wsX11_lays (wsV RX11 54 RX11 yX11_cells wsX11_cells) := goodIn_app (goodIn_of _ (by decide +kernel)) ggX11_lays_X11_cells
set_option maxRecDepth 20000 in
theorem ggX11_lays_X11_isOpen : GoodIn wsX11_lays wsX11_isOpen := goodIn_r _ [16, 12, 17, 18, 19, 6, 20, 8, 9, 10, 11, 21, 22, 23, 24, 3, 4, 5, 7, 25, 26, 27, 28, 29, 30, 31, 32, 33, 34, 35, 36, 37, 38, 39, 40, 41, 42, 43, 44, 45, 46, 47, 48, 49, 50, 51, 52, 53, 54, 55, 56, 57, 58] (by decide +kernel) (by decide +kernel)
set_option maxRecDepth 20000 in
theorem gX11_lays_X11_isOpen : GoodIn wsX11_lays (wsV RX11 87 RX11 yX11_isOpen wsX11_isOpen) := goodIn_app (goodIn_of _ (by decide +kernel)) ggX11_lays_X11_isOpen
set_option maxRecDepth 20000 in
theorem ggX11_lays_X11_beside : GoodIn wsX11_lays wsX11_beside := goodIn_r _ [20, 8, 9, 10, 6, 11, 12, 21, 22, 23, 24, 3, 4, 5, 7, 25, 26, 27, 28, 29, 30, 31, 32, 33, 34, 35, 36, 37, 42, 43, 44, 45, 46, 47, 48, 49, 50, 51, 52, 53, 54, 55, 56, 57, 58] (by decide +kernel) (by decide +kernel)
set_option maxRecDepth 20000 in
theorem gX11_lays_X11_beside : GoodIn wsX11_lays (wsV RX11 80 RX11 yX11_beside wsX11_beside) := goodIn_app (goodIn_of _ (by decide +kernel)) ggX11_lays_X11_beside
theorem dX11_lays_0 : decode cX11_lays 0 = .ok (.iconst 0, 1) := by decide +kernel
theorem dX11_lays_1 : decode cX11_lays 1 = .ok (.istore_n 2, 1) := by decide +kernel
theorem dX11_lays_2 : decode cX11_lays 2 = .ok (.iload_n 2, 1) := by decide +kernel
theorem dX11_lays_3 : decode cX11_lays 3 = .ok (.aload_n 0, 1) := by decide +kernel
theorem dX11_lays_4 : decode cX11_lays 4 = .ok (.invokevirtual 54, 3) := by decide +kernel
theorem dX11_lays_7 : decode cX11_lays 7 = .ok (.if_icmp .ge 16, 3) := by decide +kernel
theorem dX11_lays_10 : decode cX11_lays 10 = .ok (.aload_n 0, 1) := by decide +kernel
theorem dX11_lays_11 : decode cX11_lays 11 = .ok (.getfield 25, 3) := by decide +kernel
theorem dX11_lays_14 : decode cX11_lays 14 = .ok (.iload_n 2, 1) := by decide +kernel
theorem dX11_lays_15 : decode cX11_lays 15 = .ok (.iconst (-1), 1) := by decide +kernel
theorem dX11_lays_16 : decode cX11_lays 16 = .ok (.iastore, 1) := by decide +kernel
theorem dX11_lays_17 : decode cX11_lays 17 = .ok (.iinc 2 1, 3) := by decide +kernel
theorem dX11_lays_20 : decode cX11_lays 20 = .ok (.goto (-18), 3) := by decide +kernel
theorem dX11_lays_23 : decode cX11_lays 23 = .ok (.aload_n 0, 1) := by decide +kernel
theorem dX11_lays_24 : decode cX11_lays 24 = .ok (.getfield 25, 3) := by decide +kernel
theorem dX11_lays_27 : decode cX11_lays 27 = .ok (.iload_n 1, 1) := by decide +kernel
theorem dX11_lays_28 : decode cX11_lays 28 = .ok (.iconst 0, 1) := by decide +kernel
theorem dX11_lays_29 : decode cX11_lays 29 = .ok (.iastore, 1) := by decide +kernel
theorem dX11_lays_30 : decode cX11_lays 30 = .ok (.aload_n 0, 1) := by decide +kernel
theorem dX11_lays_31 : decode cX11_lays 31 = .ok (.getfield 28, 3) := by decide +kernel
theorem dX11_lays_34 : decode cX11_lays 34 = .ok (.iconst 0, 1) := by decide +kernel
theorem dX11_lays_35 : decode cX11_lays 35 = .ok (.iload_n 1, 1) := by decide +kernel
theorem dX11_lays_36 : decode cX11_lays 36 = .ok (.iastore, 1) := by decide +kernel
theorem dX11_lays_37 : decode cX11_lays 37 = .ok (.iconst 1, 1) := by decide +kernel
theorem dX11_lays_38 : decode cX11_lays 38 = .ok (.istore_n 2, 1) := by decide +kernel
theorem dX11_lays_39 : decode cX11_lays 39 = .ok (.iconst 0, 1) := by decide +kernel
theorem dX11_lays_40 : decode cX11_lays 40 = .ok (.istore_n 3, 1) := by decide +kernel
theorem dX11_lays_41 : decode cX11_lays 41 = .ok (.iload_n 3, 1) := by decide +kernel
theorem dX11_lays_42 : decode cX11_lays 42 = .ok (.iload_n 2, 1) := by decide +kernel
theorem dX11_lays_43 : decode cX11_lays 43 = .ok (.if_icmp .ge 110, 3) := by decide +kernel
theorem dX11_lays_46 : decode cX11_lays 46 = .ok (.iconst 0, 1) := by decide +kernel
theorem dX11_lays_47 : decode cX11_lays 47 = .ok (.istore 4, 2) := by decide +kernel
theorem dX11_lays_49 : decode cX11_lays 49 = .ok (.iload 4, 2) := by decide +kernel
theorem dX11_lays_51 : decode cX11_lays 51 = .ok (.iconst 4, 1) := by decide +kernel
theorem dX11_lays_52 : decode cX11_lays 52 = .ok (.if_icmp .ge 95, 3) := by decide +kernel
theorem dX11_lays_55 : decode cX11_lays 55 = .ok (.aload_n 0, 1) := by decide +kernel
theorem dX11_lays_56 : decode cX11_lays 56 = .ok (.aload_n 0, 1) := by decide +kernel
theorem dX11_lays_57 : decode cX11_lays 57 = .ok (.getfield 28, 3) := by decide +kernel
theorem dX11_lays_60 : decode cX11_lays 60 = .ok (.iload_n 3, 1) := by decide +kernel
theorem dX11_lays_61 : decode cX11_lays 61 = .ok (.iaload, 1) := by decide +kernel
theorem dX11_lays_62 : decode cX11_lays 62 = .ok (.iload 4, 2) := by decide +kernel
theorem dX11_lays_64 : decode cX11_lays 64 = .ok (.invokevirtual 87, 3) := by decide +kernel
theorem dX11_lays_67 : decode cX11_lays 67 = .ok (.ifCond .eq 74, 3) := by decide +kernel
theorem dX11_lays_70 : decode cX11_lays 70 = .ok (.aload_n 0, 1) := by decide +kernel
theorem dX11_lays_71 : decode cX11_lays 71 = .ok (.getfield 25, 3) := by decide +kernel
theorem dX11_lays_74 : decode cX11_lays 74 = .ok (.aload_n 0, 1) := by decide +kernel
theorem dX11_lays_75 : decode cX11_lays 75 = .ok (.aload_n 0, 1) := by decide +kernel
theorem dX11_lays_76 : decode cX11_lays 76 = .ok (.getfield 28, 3) := by decide +kernel
theorem dX11_lays_79 : decode cX11_lays 79 = .ok (.iload_n 3, 1) := by decide +kernel
theorem dX11_lays_80 : decode cX11_lays 80 = .ok (.iaload, 1) := by decide +kernel
theorem dX11_lays_81 : decode cX11_lays 81 = .ok (.iload 4, 2) := by decide +kernel
theorem dX11_lays_83 : decode cX11_lays 83 = .ok (.invokevirtual 80, 3) := by decide +kernel
theorem dX11_lays_86 : decode cX11_lays 86 = .ok (.iaload, 1) := by decide +kernel
theorem dX11_lays_87 : decode cX11_lays 87 = .ok (.ifCond .ge 54, 3) := by decide +kernel
theorem dX11_lays_90 : decode cX11_lays 90 = .ok (.aload_n 0, 1) := by decide +kernel
theorem dX11_lays_91 : decode cX11_lays 91 = .ok (.getfield 25, 3) := by decide +kernel
theorem dX11_lays_94 : decode cX11_lays 94 = .ok (.aload_n 0, 1) := by decide +kernel
theorem dX11_lays_95 : decode cX11_lays 95 = .ok (.aload_n 0, 1) := by decide +kernel
theorem dX11_lays_96 : decode cX11_lays 96 = .ok (.getfield 28, 3) := by decide +kernel
theorem dX11_lays_99 : decode cX11_lays 99 = .ok (.iload_n 3, 1) := by decide +kernel
theorem dX11_lays_100 : decode cX11_lays 100 = .ok (.iaload, 1) := by decide +kernel
theorem dX11_lays_101 : decode cX11_lays 101 = .ok (.iload 4, 2) := by decide +kernel
theorem dX11_lays_103 : decode cX11_lays 103 = .ok (.invokevirtual 80, 3) := by decide +kernel
theorem dX11_lays_106 : decode cX11_lays 106 = .ok (.aload_n 0, 1) := by decide +kernel
theorem dX11_lays_107 : decode cX11_lays 107 = .ok (.getfield 25, 3) := by decide +kernel
theorem dX11_lays_110 : decode cX11_lays 110 = .ok (.aload_n 0, 1) := by decide +kernel
theorem dX11_lays_111 : decode cX11_lays 111 = .ok (.getfield 28, 3) := by decide +kernel
theorem dX11_lays_114 : decode cX11_lays 114 = .ok (.iload_n 3, 1) := by decide +kernel
theorem dX11_lays_115 : decode cX11_lays 115 = .ok (.iaload, 1) := by decide +kernel
theorem dX11_lays_116 : decode cX11_lays 116 = .ok (.iaload, 1) := by decide +kernel
theorem dX11_lays_117 : decode cX11_lays 117 = .ok (.iconst 1, 1) := by decide +kernel
theorem dX11_lays_118 : decode cX11_lays 118 = .ok (.iadd, 1) := by decide +kernel
theorem dX11_lays_119 : decode cX11_lays 119 = .ok (.iastore, 1) := by decide +kernel
theorem dX11_lays_120 : decode cX11_lays 120 = .ok (.aload_n 0, 1) := by decide +kernel
theorem dX11_lays_121 : decode cX11_lays 121 = .ok (.getfield 28, 3) := by decide +kernel
theorem dX11_lays_124 : decode cX11_lays 124 = .ok (.iload_n 2, 1) := by decide +kernel
theorem dX11_lays_125 : decode cX11_lays 125 = .ok (.aload_n 0, 1) := by decide +kernel
theorem dX11_lays_126 : decode cX11_lays 126 = .ok (.aload_n 0, 1) := by decide +kernel
theorem dX11_lays_127 : decode cX11_lays 127 = .ok (.getfield 28, 3) := by decide +kernel
theorem dX11_lays_130 : decode cX11_lays 130 = .ok (.iload_n 3, 1) := by decide +kernel
theorem dX11_lays_131 : decode cX11_lays 131 = .ok (.iaload, 1) := by decide +kernel
theorem dX11_lays_132 : decode cX11_lays 132 = .ok (.iload 4, 2) := by decide +kernel
theorem dX11_lays_134 : decode cX11_lays 134 = .ok (.invokevirtual 80, 3) := by decide +kernel
theorem dX11_lays_137 : decode cX11_lays 137 = .ok (.iastore, 1) := by decide +kernel
theorem dX11_lays_138 : decode cX11_lays 138 = .ok (.iinc 2 1, 3) := by decide +kernel
theorem dX11_lays_141 : decode cX11_lays 141 = .ok (.iinc 4 1, 3) := by decide +kernel
theorem dX11_lays_144 : decode cX11_lays 144 = .ok (.goto (-95), 3) := by decide +kernel
theorem dX11_lays_147 : decode cX11_lays 147 = .ok (.iinc 3 1, 3) := by decide +kernel
theorem dX11_lays_150 : decode cX11_lays 150 = .ok (.goto (-109), 3) := by decide +kernel
theorem dX11_lays_153 : decode cX11_lays 153 = .ok (.return_, 1) := by decide +kernel
set_option maxRecDepth 20000 in
theorem ggX11_start_X11_hasRoom : GoodIn wsX11_start wsX11_hasRoom := goodIn_r _ [5, 6, 7, 8, 4, 9, 10, 11, 12, 13, 14, 15, 16, 17, 18, 19, 20, 21, 22, 23, 24, 25, 26, 27, 38, 39, 40, 41, 42, 43, 44, 45, 46, 47, 48, 49, 50, 51, 52, 53, 54] (by decide +kernel) (by decide +kernel)
set_option maxRecDepth 20000 in
theorem gX11_start_X11_hasRoom : GoodIn wsX11_start (wsV RX11 74 RX11 yX11_hasRoom wsX11_hasRoom) := goodIn_app (goodIn_of _ (by decide +kernel)) ggX11_start_X11_hasRoom
set_option maxRecDepth 20000 in
theorem ggX11_start_X11_puts : GoodIn wsX11_start wsX11_puts := goodIn_r _ [31, 14, 32, 33, 34, 4, 35, 36, 37, 38, 39, 40, 41, 42, 43, 44, 45, 46, 47, 48, 49, 50, 51, 52, 53, 54] (by decide +kernel) (by decide +kernel)
set_option maxRecDepth 20000 in
theorem gX11_start_X11_puts : GoodIn wsX11_start (wsV RX11 144 RX11 yX11_puts wsX11_puts) := goodIn_app (goodIn_of _ (by decide +kernel)) ggX11_start_X11_puts
theorem dX11_start_0 : decode cX11_start 0 = .ok (.aload_n 0, 1) := by decide +kernel
theorem dX11_start_1 : decode cX11_start 1 = .ok (.iload_n 1, 1) := by decide +kernel
theorem dX11_start_2 : decode cX11_start 2 = .ok (.invokevirtual 74, 3) := by decide +kernel
theorem dX11_start_5 : decode cX11_start 5 = .ok (.ifCond .eq 13, 3) := by decide +kernel
theorem dX11_start_8 : decode cX11_start 8 = .ok (.aload_n 0, 1) := by decide +kernel
theorem dX11_start_9 : decode cX11_start 9 = .ok (.bipush 7, 2) := by decide +kernel
theorem dX11_start_11 : decode cX11_start 11 = .ok (.iload_n 1, 1) := by decide +kernel
theorem dX11_start_12 : decode cX11_start 12 = .ok (.invokevirtual 144, 3) := by decide +kernel
theorem dX11_start_15 : decode cX11_start 15 = .ok (.goto 4, 3) := by decide +kernel
theorem dX11_start_18 : decode cX11_start 18 = .ok (.iconst (-1), 1) := by decide +kernel
theorem dX11_start_19 : decode cX11_start 19 = .ok (.ireturn, 1) := by decide +kernel
set_option maxRecDepth 20000 in
theorem ggX11_goal_X11_hasRoom : GoodIn wsX11_goal wsX11_hasRoom := goodIn_r _ [5, 6, 7, 8, 4, 9, 10, 11, 12, 13, 14, 15, 16, 17, 18, 19, 20, 21, 22, 23, 24, 25, 26, 27, 38, 39, 40, 41, 42, 43, 44, 45, 46, 47, 48, 49, 50, 51, 52, 53, 54] (by decide +kernel) (by decide +kernel)
set_option maxRecDepth 20000 in
theorem gX11_goal_X11_hasRoom : GoodIn wsX11_goal (wsV RX11 74 RX11 yX11_hasRoom wsX11_hasRoom) := goodIn_app (goodIn_of _ (by decide +kernel)) ggX11_goal_X11_hasRoom
set_option maxRecDepth 20000 in
theorem ggX11_goal_X11_puts : GoodIn wsX11_goal wsX11_puts := goodIn_r _ [31, 14, 32, 33, 34, 4, 35, 36, 37, 38, 39, 40, 41, 42, 43, 44, 45, 46, 47, 48, 49, 50, 51, 52, 53, 54] (by decide +kernel) (by decide +kernel)
set_option maxRecDepth 20000 in
theorem gX11_goal_X11_puts : GoodIn wsX11_goal (wsV RX11 144 RX11 yX11_puts wsX11_puts) := goodIn_app (goodIn_of _ (by decide +kernel)) ggX11_goal_X11_puts
theorem dX11_goal_0 : decode cX11_goal 0 = .ok (.aload_n 0, 1) := by decide +kernel
theorem dX11_goal_1 : decode cX11_goal 1 = .ok (.iload_n 1, 1) := by decide +kernel
theorem dX11_goal_2 : decode cX11_goal 2 = .ok (.invokevirtual 74, 3) := by decide +kernel
theorem dX11_goal_5 : decode cX11_goal 5 = .ok (.ifCond .eq 13, 3) := by decide +kernel
theorem dX11_goal_8 : decode cX11_goal 8 = .ok (.aload_n 0, 1) := by decide +kernel
theorem dX11_goal_9 : decode cX11_goal 9 = .ok (.bipush 8, 2) := by decide +kernel
theorem dX11_goal_11 : decode cX11_goal 11 = .ok (.iload_n 1, 1) := by decide +kernel
theorem dX11_goal_12 : decode cX11_goal 12 = .ok (.invokevirtual 144, 3) := by decide +kernel
theorem dX11_goal_15 : decode cX11_goal 15 = .ok (.goto 4, 3) := by decide +kernel
theorem dX11_goal_18 : decode cX11_goal 18 = .ok (.iconst (-1), 1) := by decide +kernel
theorem dX11_goal_19 : decode cX11_goal 19 = .ok (.ireturn, 1) := by decide +kernel
set_option maxRecDepth 20000 in
theorem ggX11_puts_X11_records : GoodIn wsX11_puts wsX11_records := goodIn_r _ [6, 7, 8, 1, 9, 10, 11, 12, 13, 14, 15, 16, 17, 18, 19, 20, 21, 22, 23, 24, 25] (by decide +kernel) (by decide +kernel)
set_option maxRecDepth 20000 in
theorem gX11_puts_X11_records : GoodIn wsX11_puts (wsV RX11 68 RX11 yX11_records wsX11_records) := goodIn_app (goodIn_of _ (by decide +kernel)) ggX11_puts_X11_records
theorem dX11_puts_0 : decode cX11_puts 0 = .ok (.aload_n 0, 1) := by decide +kernel
theorem dX11_puts_1 : decode cX11_puts 1 = .ok (.invokevirtual 68, 3) := by decide +kernel
theorem dX11_puts_4 : decode cX11_puts 4 = .ok (.aload_n 0, 1) := by decide +kernel
theorem dX11_puts_5 : decode cX11_puts 5 = .ok (.getfield 7, 3) := by decide +kernel
theorem dX11_puts_8 : decode cX11_puts 8 = .ok (.iload_n 1, 1) := by decide +kernel
theorem dX11_puts_9 : decode cX11_puts 9 = .ok (.iaload, 1) := by decide +kernel
theorem dX11_puts_10 : decode cX11_puts 10 = .ok (.istore_n 3, 1) := by decide +kernel
theorem dX11_puts_11 : decode cX11_puts 11 = .ok (.aload_n 0, 1) := by decide +kernel
theorem dX11_puts_12 : decode cX11_puts 12 = .ok (.getfield 7, 3) := by decide +kernel
theorem dX11_puts_15 : decode cX11_puts 15 = .ok (.iload_n 1, 1) := by decide +kernel
theorem dX11_puts_16 : decode cX11_puts 16 = .ok (.iload_n 2, 1) := by decide +kernel
theorem dX11_puts_17 : decode cX11_puts 17 = .ok (.iastore, 1) := by decide +kernel
theorem dX11_puts_18 : decode cX11_puts 18 = .ok (.iload_n 3, 1) := by decide +kernel
theorem dX11_puts_19 : decode cX11_puts 19 = .ok (.ireturn, 1) := by decide +kernel
set_option maxRecDepth 20000 in
theorem ggX11_distance_X11_hasRoom : GoodIn wsX11_distance wsX11_hasRoom := goodIn_r _ [6, 7, 8, 9, 5, 10, 11, 12, 13, 14, 15, 16, 17, 18, 19, 20, 21, 22, 23, 24, 25, 26, 27, 28, 46, 47, 48, 49, 50, 51, 52, 53, 54, 55, 56, 57, 58, 59, 60, 61, 62] (by decide +kernel) (by decide +kernel)
set_option maxRecDepth 20000 in
theorem gX11_distance_X11_hasRoom : GoodIn wsX11_distance (wsV RX11 74 RX11 yX11_hasRoom wsX11_hasRoom) := goodIn_app (goodIn_of _ (by decide +kernel)) ggX11_distance_X11_hasRoom
set_option maxRecDepth 20000 in
theorem ggX11_distance_X11_lays : GoodIn wsX11_distance wsX11_lays := goodIn_r _ [32, 1, 33, 7, 8, 9, 5, 10, 11, 12, 13, 14, 15, 34, 35, 36, 37, 38, 39, 40, 41, 2, 3, 4, 6, 16, 17, 18, 19, 20, 21, 22, 23, 24, 25, 26, 27, 28, 42, 43, 44, 45, 46, 47, 48, 49, 50, 51, 52, 53, 54, 55, 56, 57, 58, 59, 60, 61, 62] (by decide +kernel) (by decide +kernel)
set_option maxRecDepth 20000 in
theorem gX11_distance_X11_lays : GoodIn wsX11_distance (wsV RX11 147 RX11 yX11_lays wsX11_lays) := goodIn_app (goodIn_of _ (by decide +kernel)) ggX11_distance_X11_lays
theorem dX11_distance_0 : decode cX11_distance 0 = .ok (.aload_n 0, 1) := by decide +kernel
theorem dX11_distance_1 : decode cX11_distance 1 = .ok (.iload_n 1, 1) := by decide +kernel
theorem dX11_distance_2 : decode cX11_distance 2 = .ok (.invokevirtual 74, 3) := by decide +kernel
theorem dX11_distance_5 : decode cX11_distance 5 = .ok (.ifCond .eq 11, 3) := by decide +kernel
theorem dX11_distance_8 : decode cX11_distance 8 = .ok (.aload_n 0, 1) := by decide +kernel
theorem dX11_distance_9 : decode cX11_distance 9 = .ok (.iload_n 2, 1) := by decide +kernel
theorem dX11_distance_10 : decode cX11_distance 10 = .ok (.invokevirtual 74, 3) := by decide +kernel
theorem dX11_distance_13 : decode cX11_distance 13 = .ok (.ifCond .ne 5, 3) := by decide +kernel
theorem dX11_distance_16 : decode cX11_distance 16 = .ok (.iconst (-1), 1) := by decide +kernel
theorem dX11_distance_17 : decode cX11_distance 17 = .ok (.ireturn, 1) := by decide +kernel
theorem dX11_distance_18 : decode cX11_distance 18 = .ok (.aload_n 0, 1) := by decide +kernel
theorem dX11_distance_19 : decode cX11_distance 19 = .ok (.iload_n 2, 1) := by decide +kernel
theorem dX11_distance_20 : decode cX11_distance 20 = .ok (.invokevirtual 147, 3) := by decide +kernel
theorem dX11_distance_23 : decode cX11_distance 23 = .ok (.aload_n 0, 1) := by decide +kernel
theorem dX11_distance_24 : decode cX11_distance 24 = .ok (.getfield 25, 3) := by decide +kernel
theorem dX11_distance_27 : decode cX11_distance 27 = .ok (.iload_n 1, 1) := by decide +kernel
theorem dX11_distance_28 : decode cX11_distance 28 = .ok (.iaload, 1) := by decide +kernel
theorem dX11_distance_29 : decode cX11_distance 29 = .ok (.ifCond .ge 8, 3) := by decide +kernel
theorem dX11_distance_32 : decode cX11_distance 32 = .ok (.bipush (-4), 2) := by decide +kernel
theorem dX11_distance_34 : decode cX11_distance 34 = .ok (.goto 9, 3) := by decide +kernel
theorem dX11_distance_37 : decode cX11_distance 37 = .ok (.aload_n 0, 1) := by decide +kernel
theorem dX11_distance_38 : decode cX11_distance 38 = .ok (.getfield 25, 3) := by decide +kernel
theorem dX11_distance_41 : decode cX11_distance 41 = .ok (.iload_n 1, 1) := by decide +kernel
theorem dX11_distance_42 : decode cX11_distance 42 = .ok (.iaload, 1) := by decide +kernel
theorem dX11_distance_43 : decode cX11_distance 43 = .ok (.ireturn, 1) := by decide +kernel
set_option maxRecDepth 20000 in
theorem ggX11_again_X11_distance : GoodIn wsX11_again wsX11_distance := goodIn_r _ [5, 6, 7, 8, 9, 4, 10, 11, 12, 13, 14, 15, 16, 17, 18, 19, 20, 21, 22, 23, 24, 25, 26, 27, 28, 29, 30, 31, 32, 33, 34, 35, 36, 37, 38, 39, 40, 41, 42, 43, 44, 45, 46, 47, 48, 49, 83, 84, 85, 86, 87, 88, 89, 90, 91, 92, 93, 94, 95, 96, 97, 98, 99] (by decide +kernel) (by decide +kernel)
set_option maxRecDepth 20000 in
theorem gX11_again_X11_distance : GoodIn wsX11_again (wsV RX11 151 RX11 yX11_distance wsX11_distance) := goodIn_app (goodIn_of _ (by decide +kernel)) ggX11_again_X11_distance
set_option maxRecDepth 20000 in
theorem ggX11_again_X11_isSingle : GoodIn wsX11_again wsX11_isSingle := goodIn_r _ [53, 54, 55, 56, 4, 57, 58, 59, 60, 61, 62, 11, 12, 13, 14, 15, 16, 17, 18, 19, 23, 24, 25, 26, 27, 28, 29, 30, 31, 32, 38, 39, 40, 41, 42, 43, 44, 45, 7, 8, 9, 10, 20, 21, 22, 46, 47, 48, 49, 63, 64, 65, 66, 67, 68, 69, 70, 71, 72, 73, 74, 75, 76, 77, 78, 79, 80, 81, 82, 83, 84, 85, 86, 87, 88, 89, 90, 91, 92, 93, 94, 95, 96, 97, 98, 99] (by decide +kernel) (by decide +kernel)
set_option maxRecDepth 20000 in
theorem gX11_again_X11_isSingle : GoodIn wsX11_again (wsV RX11 133 RX11 yX11_isSingle wsX11_isSingle) := goodIn_app (goodIn_of _ (by decide +kernel)) ggX11_again_X11_isSingle
theorem dX11_again_0 : decode cX11_again 0 = .ok (.aload_n 0, 1) := by decide +kernel
theorem dX11_again_1 : decode cX11_again 1 = .ok (.iload_n 1, 1) := by decide +kernel
theorem dX11_again_2 : decode cX11_again 2 = .ok (.iload_n 2, 1) := by decide +kernel
theorem dX11_again_3 : decode cX11_again 3 = .ok (.invokevirtual 151, 3) := by decide +kernel
theorem dX11_again_6 : decode cX11_again 6 = .ok (.istore_n 3, 1) := by decide +kernel
theorem dX11_again_7 : decode cX11_again 7 = .ok (.iload_n 3, 1) := by decide +kernel
theorem dX11_again_8 : decode cX11_again 8 = .ok (.iconst (-1), 1) := by decide +kernel
theorem dX11_again_9 : decode cX11_again 9 = .ok (.if_icmp .ne 7, 3) := by decide +kernel
theorem dX11_again_12 : decode cX11_again 12 = .ok (.iload_n 3, 1) := by decide +kernel
theorem dX11_again_13 : decode cX11_again 13 = .ok (.goto 16, 3) := by decide +kernel
theorem dX11_again_16 : decode cX11_again 16 = .ok (.aload_n 0, 1) := by decide +kernel
theorem dX11_again_17 : decode cX11_again 17 = .ok (.invokevirtual 133, 3) := by decide +kernel
theorem dX11_again_20 : decode cX11_again 20 = .ok (.ifCond .eq 7, 3) := by decide +kernel
theorem dX11_again_23 : decode cX11_again 23 = .ok (.iload_n 3, 1) := by decide +kernel
theorem dX11_again_24 : decode cX11_again 24 = .ok (.goto 5, 3) := by decide +kernel
theorem dX11_again_27 : decode cX11_again 27 = .ok (.bipush (-2), 2) := by decide +kernel
theorem dX11_again_29 : decode cX11_again 29 = .ok (.ireturn, 1) := by decide +kernel
set_option maxRecDepth 20000 in
theorem ggX11_leads_X11_isOpen : GoodIn wsX11_leads wsX11_isOpen := goodIn_r _ [6, 7, 8, 9, 10, 5, 11, 12, 13, 14, 15, 16, 17, 18, 19, 20, 21, 22, 23, 24, 25, 26, 27, 28, 29, 30, 31, 32, 33, 34, 35, 36, 37, 38, 39, 40, 41, 42, 43, 44, 45, 46, 47, 48, 49, 50, 51, 52, 53, 54, 55, 56, 57] (by decide +kernel) (by decide +kernel)
set_option maxRecDepth 20000 in
theorem gX11_leads_X11_isOpen : GoodIn wsX11_leads (wsV RX11 87 RX11 yX11_isOpen wsX11_isOpen) := goodIn_app (goodIn_of _ (by decide +kernel)) ggX11_leads_X11_isOpen
set_option maxRecDepth 20000 in
theorem ggX11_leads_X11_beside : GoodIn wsX11_leads wsX11_beside := goodIn_r _ [11, 12, 13, 14, 5, 15, 7, 16, 17, 18, 19, 20, 21, 22, 23, 24, 25, 26, 27, 28, 29, 30, 31, 32, 33, 34, 35, 36, 41, 42, 43, 44, 45, 46, 47, 48, 49, 50, 51, 52, 53, 54, 55, 56, 57] (by decide +kernel) (by decide +kernel)
set_option maxRecDepth 20000 in
theorem gX11_leads_X11_beside : GoodIn wsX11_leads (wsV RX11 80 RX11 yX11_beside wsX11_beside) := goodIn_app (goodIn_of _ (by decide +kernel)) ggX11_leads_X11_beside
theorem dX11_leads_0 : decode cX11_leads 0 = .ok (.iconst 0, 1) := by decide +kernel
theorem dX11_leads_1 : decode cX11_leads 1 = .ok (.istore_n 2, 1) := by decide +kernel
theorem dX11_leads_2 : decode cX11_leads 2 = .ok (.iload_n 2, 1) := by decide +kernel
theorem dX11_leads_3 : decode cX11_leads 3 = .ok (.iconst 4, 1) := by decide +kernel
theorem dX11_leads_4 : decode cX11_leads 4 = .ok (.if_icmp .ge 42, 3) := by decide +kernel
theorem dX11_leads_7 : decode cX11_leads 7 = .ok (.aload_n 0, 1) := by decide +kernel
theorem dX11_leads_8 : decode cX11_leads 8 = .ok (.iload_n 1, 1) := by decide +kernel
theorem dX11_leads_9 : decode cX11_leads 9 = .ok (.iload_n 2, 1) := by decide +kernel
theorem dX11_leads_10 : decode cX11_leads 10 = .ok (.invokevirtual 87, 3) := by decide +kernel
theorem dX11_leads_13 : decode cX11_leads 13 = .ok (.ifCond .eq 27, 3) := by decide +kernel
theorem dX11_leads_16 : decode cX11_leads 16 = .ok (.aload_n 0, 1) := by decide +kernel
theorem dX11_leads_17 : decode cX11_leads 17 = .ok (.getfield 25, 3) := by decide +kernel
theorem dX11_leads_20 : decode cX11_leads 20 = .ok (.aload_n 0, 1) := by decide +kernel
theorem dX11_leads_21 : decode cX11_leads 21 = .ok (.iload_n 1, 1) := by decide +kernel
theorem dX11_leads_22 : decode cX11_leads 22 = .ok (.iload_n 2, 1) := by decide +kernel
theorem dX11_leads_23 : decode cX11_leads 23 = .ok (.invokevirtual 80, 3) := by decide +kernel
theorem dX11_leads_26 : decode cX11_leads 26 = .ok (.iaload, 1) := by decide +kernel
theorem dX11_leads_27 : decode cX11_leads 27 = .ok (.aload_n 0, 1) := by decide +kernel
theorem dX11_leads_28 : decode cX11_leads 28 = .ok (.getfield 25, 3) := by decide +kernel
theorem dX11_leads_31 : decode cX11_leads 31 = .ok (.iload_n 1, 1) := by decide +kernel
theorem dX11_leads_32 : decode cX11_leads 32 = .ok (.iaload, 1) := by decide +kernel
theorem dX11_leads_33 : decode cX11_leads 33 = .ok (.iconst 1, 1) := by decide +kernel
theorem dX11_leads_34 : decode cX11_leads 34 = .ok (.isub, 1) := by decide +kernel
theorem dX11_leads_35 : decode cX11_leads 35 = .ok (.if_icmp .ne 5, 3) := by decide +kernel
theorem dX11_leads_38 : decode cX11_leads 38 = .ok (.iload_n 2, 1) := by decide +kernel
theorem dX11_leads_39 : decode cX11_leads 39 = .ok (.ireturn, 1) := by decide +kernel
theorem dX11_leads_40 : decode cX11_leads 40 = .ok (.iinc 2 1, 3) := by decide +kernel
theorem dX11_leads_43 : decode cX11_leads 43 = .ok (.goto (-41), 3) := by decide +kernel
theorem dX11_leads_46 : decode cX11_leads 46 = .ok (.iconst (-1), 1) := by decide +kernel
theorem dX11_leads_47 : decode cX11_leads 47 = .ok (.ireturn, 1) := by decide +kernel
set_option maxRecDepth 20000 in
theorem ggX11_way_X11_hasRoom : GoodIn wsX11_way wsX11_hasRoom := goodIn_r _ [6, 7, 8, 9, 5, 10, 11, 12, 13, 14, 15, 16, 17, 18, 19, 20, 21, 22, 23, 24, 25, 26, 27, 28, 50, 51, 52, 53, 54, 55, 56, 57, 58, 59, 60, 61, 62, 63, 64, 65, 66] (by decide +kernel) (by decide +kernel)
set_option maxRecDepth 20000 in
theorem gX11_way_X11_hasRoom : GoodIn wsX11_way (wsV RX11 74 RX11 yX11_hasRoom wsX11_hasRoom) := goodIn_app (goodIn_of _ (by decide +kernel)) ggX11_way_X11_hasRoom
set_option maxRecDepth 20000 in
theorem ggX11_way_X11_lays : GoodIn wsX11_way wsX11_lays := goodIn_r _ [32, 1, 33, 7, 8, 9, 5, 10, 11, 12, 13, 14, 15, 34, 35, 36, 37, 38, 39, 40, 41, 2, 3, 4, 6, 16, 17, 18, 19, 20, 21, 22, 23, 24, 25, 26, 27, 28, 42, 43, 44, 45, 50, 51, 52, 53, 54, 55, 56, 57, 58, 59, 60, 61, 62, 63, 64, 65, 66] (by decide +kernel) (by decide +kernel)
set_option maxRecDepth 20000 in
theorem gX11_way_X11_lays : GoodIn wsX11_way (wsV RX11 147 RX11 yX11_lays wsX11_lays) := goodIn_app (goodIn_of _ (by decide +kernel)) ggX11_way_X11_lays
set_option maxRecDepth 20000 in
theorem ggX11_way_X11_leads : GoodIn wsX11_way wsX11_leads := goodIn_r _ [49, 1, 34, 35, 36, 5, 37, 15, 38, 39, 40, 41, 11, 12, 13, 14, 2, 3, 4, 6, 7, 8, 9, 10, 16, 17, 18, 19, 20, 21, 22, 23, 24, 25, 26, 27, 28, 42, 43, 44, 45, 50, 51, 52, 53, 54, 55, 56, 57, 58, 59, 60, 61, 62, 63, 64, 65, 66] (by decide +kernel) (by decide +kernel)
set_option maxRecDepth 20000 in
theorem gX11_way_X11_leads : GoodIn wsX11_way (wsV RX11 154 RX11 yX11_leads wsX11_leads) := goodIn_app (goodIn_of _ (by decide +kernel)) ggX11_way_X11_leads
set_option maxRecDepth 20000 in
theorem ggX11_way_X11_beside : GoodIn wsX11_way wsX11_beside := goodIn_r _ [41, 11, 12, 13, 5, 14, 15, 2, 3, 4, 6, 7, 8, 9, 10, 16, 17, 18, 19, 20, 21, 22, 23, 24, 25, 26, 27, 28, 50, 51, 52, 53, 54, 55, 56, 57, 58, 59, 60, 61, 62, 63, 64, 65, 66] (by decide +kernel) (by decide +kernel)
set_option maxRecDepth 20000 in
theorem gX11_way_X11_beside : GoodIn wsX11_way (wsV RX11 80 RX11 yX11_beside wsX11_beside) := goodIn_app (goodIn_of _ (by decide +kernel)) ggX11_way_X11_beside
theorem dX11_way_0 : decode cX11_way 0 = .ok (.aload_n 0, 1) := by decide +kernel
theorem dX11_way_1 : decode cX11_way 1 = .ok (.iload_n 1, 1) := by decide +kernel
theorem dX11_way_2 : decode cX11_way 2 = .ok (.invokevirtual 74, 3) := by decide +kernel
theorem dX11_way_5 : decode cX11_way 5 = .ok (.ifCond .eq 15, 3) := by decide +kernel
theorem dX11_way_8 : decode cX11_way 8 = .ok (.aload_n 0, 1) := by decide +kernel
theorem dX11_way_9 : decode cX11_way 9 = .ok (.iload_n 2, 1) := by decide +kernel
theorem dX11_way_10 : decode cX11_way 10 = .ok (.invokevirtual 74, 3) := by decide +kernel
theorem dX11_way_13 : decode cX11_way 13 = .ok (.ifCond .eq 7, 3) := by decide +kernel
theorem dX11_way_16 : decode cX11_way 16 = .ok (.iload_n 3, 1) := by decide +kernel
theorem dX11_way_17 : decode cX11_way 17 = .ok (.ifCond .ge 5, 3) := by decide +kernel
theorem dX11_way_20 : decode cX11_way 20 = .ok (.iconst (-1), 1) := by decide +kernel
theorem dX11_way_21 : decode cX11_way 21 = .ok (.ireturn, 1) := by decide +kernel
theorem dX11_way_22 : decode cX11_way 22 = .ok (.aload_n 0, 1) := by decide +kernel
theorem dX11_way_23 : decode cX11_way 23 = .ok (.iload_n 2, 1) := by decide +kernel
theorem dX11_way_24 : decode cX11_way 24 = .ok (.invokevirtual 147, 3) := by decide +kernel
theorem dX11_way_27 : decode cX11_way 27 = .ok (.aload_n 0, 1) := by decide +kernel
theorem dX11_way_28 : decode cX11_way 28 = .ok (.getfield 25, 3) := by decide +kernel
theorem dX11_way_31 : decode cX11_way 31 = .ok (.iload_n 1, 1) := by decide +kernel
theorem dX11_way_32 : decode cX11_way 32 = .ok (.iaload, 1) := by decide +kernel
theorem dX11_way_33 : decode cX11_way 33 = .ok (.iload_n 3, 1) := by decide +kernel
theorem dX11_way_34 : decode cX11_way 34 = .ok (.if_icmp .ge 6, 3) := by decide +kernel
theorem dX11_way_37 : decode cX11_way 37 = .ok (.bipush (-4), 2) := by decide +kernel
theorem dX11_way_39 : decode cX11_way 39 = .ok (.ireturn, 1) := by decide +kernel
theorem dX11_way_40 : decode cX11_way 40 = .ok (.iload_n 1, 1) := by decide +kernel
theorem dX11_way_41 : decode cX11_way 41 = .ok (.istore 4, 2) := by decide +kernel
theorem dX11_way_43 : decode cX11_way 43 = .ok (.iconst 0, 1) := by decide +kernel
theorem dX11_way_44 : decode cX11_way 44 = .ok (.istore 5, 2) := by decide +kernel
theorem dX11_way_46 : decode cX11_way 46 = .ok (.iload 5, 2) := by decide +kernel
theorem dX11_way_48 : decode cX11_way 48 = .ok (.iload_n 3, 1) := by decide +kernel
theorem dX11_way_49 : decode cX11_way 49 = .ok (.if_icmp .ge 23, 3) := by decide +kernel
theorem dX11_way_52 : decode cX11_way 52 = .ok (.aload_n 0, 1) := by decide +kernel
theorem dX11_way_53 : decode cX11_way 53 = .ok (.iload 4, 2) := by decide +kernel
theorem dX11_way_55 : decode cX11_way 55 = .ok (.aload_n 0, 1) := by decide +kernel
theorem dX11_way_56 : decode cX11_way 56 = .ok (.iload 4, 2) := by decide +kernel
theorem dX11_way_58 : decode cX11_way 58 = .ok (.invokevirtual 154, 3) := by decide +kernel
theorem dX11_way_61 : decode cX11_way 61 = .ok (.invokevirtual 80, 3) := by decide +kernel
theorem dX11_way_64 : decode cX11_way 64 = .ok (.istore 4, 2) := by decide +kernel
theorem dX11_way_66 : decode cX11_way 66 = .ok (.iinc 5 1, 3) := by decide +kernel
theorem dX11_way_69 : decode cX11_way 69 = .ok (.goto (-23), 3) := by decide +kernel
theorem dX11_way_72 : decode cX11_way 72 = .ok (.iload 4, 2) := by decide +kernel
theorem dX11_way_74 : decode cX11_way 74 = .ok (.ireturn, 1) := by decide +kernel
set_option maxRecDepth 20000 in
theorem ggX11_farthestOf_X11_cells : GoodIn wsX11_farthestOf wsX11_cells := goodIn_r _ [6, 7, 8, 9, 5, 10, 11, 12, 13, 14, 15, 16, 17, 18, 19, 20, 21, 22, 23, 24, 25, 26, 27, 28] (by decide +kernel) (by decide +kernel)
set_option maxRecDepth 20000 in
theorem gX11_farthestOf_X11_cells : GoodIn wsX11_farthestOf (wsV RX11 54 RX11 yX11_cells wsX11_cells) := goodIn_app (goodIn_of _ (by decide +kernel)) ggX11_farthestOf_X11_cells
theorem dX11_farthestOf_0 : decode cX11_farthestOf 0 = .ok (.iconst (-1), 1) := by decide +kernel
theorem dX11_farthestOf_1 : decode cX11_farthestOf 1 = .ok (.istore_n 1, 1) := by decide +kernel
theorem dX11_farthestOf_2 : decode cX11_farthestOf 2 = .ok (.iconst 0, 1) := by decide +kernel
theorem dX11_farthestOf_3 : decode cX11_farthestOf 3 = .ok (.istore_n 2, 1) := by decide +kernel
theorem dX11_farthestOf_4 : decode cX11_farthestOf 4 = .ok (.iload_n 2, 1) := by decide +kernel
theorem dX11_farthestOf_5 : decode cX11_farthestOf 5 = .ok (.aload_n 0, 1) := by decide +kernel
theorem dX11_farthestOf_6 : decode cX11_farthestOf 6 = .ok (.invokevirtual 54, 3) := by decide +kernel
theorem dX11_farthestOf_9 : decode cX11_farthestOf 9 = .ok (.if_icmp .ge 43, 3) := by decide +kernel
theorem dX11_farthestOf_12 : decode cX11_farthestOf 12 = .ok (.aload_n 0, 1) := by decide +kernel
theorem dX11_farthestOf_13 : decode cX11_farthestOf 13 = .ok (.getfield 25, 3) := by decide +kernel
theorem dX11_farthestOf_16 : decode cX11_farthestOf 16 = .ok (.iload_n 2, 1) := by decide +kernel
theorem dX11_farthestOf_17 : decode cX11_farthestOf 17 = .ok (.iaload, 1) := by decide +kernel
theorem dX11_farthestOf_18 : decode cX11_farthestOf 18 = .ok (.ifCond .lt 26, 3) := by decide +kernel
theorem dX11_farthestOf_21 : decode cX11_farthestOf 21 = .ok (.iload_n 1, 1) := by decide +kernel
theorem dX11_farthestOf_22 : decode cX11_farthestOf 22 = .ok (.ifCond .lt 18, 3) := by decide +kernel
theorem dX11_farthestOf_25 : decode cX11_farthestOf 25 = .ok (.aload_n 0, 1) := by decide +kernel
theorem dX11_farthestOf_26 : decode cX11_farthestOf 26 = .ok (.getfield 25, 3) := by decide +kernel
theorem dX11_farthestOf_29 : decode cX11_farthestOf 29 = .ok (.iload_n 2, 1) := by decide +kernel
theorem dX11_farthestOf_30 : decode cX11_farthestOf 30 = .ok (.iaload, 1) := by decide +kernel
theorem dX11_farthestOf_31 : decode cX11_farthestOf 31 = .ok (.aload_n 0, 1) := by decide +kernel
theorem dX11_farthestOf_32 : decode cX11_farthestOf 32 = .ok (.getfield 25, 3) := by decide +kernel
theorem dX11_farthestOf_35 : decode cX11_farthestOf 35 = .ok (.iload_n 1, 1) := by decide +kernel
theorem dX11_farthestOf_36 : decode cX11_farthestOf 36 = .ok (.iaload, 1) := by decide +kernel
theorem dX11_farthestOf_37 : decode cX11_farthestOf 37 = .ok (.if_icmp .le 7, 3) := by decide +kernel
theorem dX11_farthestOf_40 : decode cX11_farthestOf 40 = .ok (.iload_n 2, 1) := by decide +kernel
theorem dX11_farthestOf_41 : decode cX11_farthestOf 41 = .ok (.goto 4, 3) := by decide +kernel
theorem dX11_farthestOf_44 : decode cX11_farthestOf 44 = .ok (.iload_n 1, 1) := by decide +kernel
theorem dX11_farthestOf_45 : decode cX11_farthestOf 45 = .ok (.istore_n 1, 1) := by decide +kernel
theorem dX11_farthestOf_46 : decode cX11_farthestOf 46 = .ok (.iinc 2 1, 3) := by decide +kernel
theorem dX11_farthestOf_49 : decode cX11_farthestOf 49 = .ok (.goto (-45), 3) := by decide +kernel
theorem dX11_farthestOf_52 : decode cX11_farthestOf 52 = .ok (.iload_n 1, 1) := by decide +kernel
theorem dX11_farthestOf_53 : decode cX11_farthestOf 53 = .ok (.ireturn, 1) := by decide +kernel
set_option maxRecDepth 20000 in
theorem ggX11_farthest_X11_hasRoom : GoodIn wsX11_farthest wsX11_hasRoom := goodIn_r _ [6, 7, 8, 9, 5, 10, 11, 12, 13, 14, 15, 16, 17, 18, 19, 20, 21, 22, 23, 24, 25, 26, 27, 28, 50, 51, 52, 53, 54, 55, 56, 57, 58, 59, 60, 61, 62, 63, 64, 65, 66] (by decide +kernel) (by decide +kernel)
set_option maxRecDepth 20000 in
theorem gX11_farthest_X11_hasRoom : GoodIn wsX11_farthest (wsV RX11 74 RX11 yX11_hasRoom wsX11_hasRoom) := goodIn_app (goodIn_of _ (by decide +kernel)) ggX11_farthest_X11_hasRoom
set_option maxRecDepth 20000 in
theorem ggX11_farthest_X11_in : GoodIn wsX11_farthest wsX11_in := goodIn_r _ [18] (by decide +kernel) (by decide +kernel)
set_option maxRecDepth 20000 in
theorem gX11_farthest_X11_in : GoodIn wsX11_farthest (va_wsS RX11 57 yX11_in wsX11_in) := goodIn_app (goodIn_of _ (by decide +kernel)) ggX11_farthest_X11_in
set_option maxRecDepth 20000 in
theorem ggX11_farthest_X11_lays : GoodIn wsX11_farthest wsX11_lays := goodIn_r _ [32, 1, 33, 7, 8, 9, 5, 10, 11, 12, 13, 14, 15, 34, 35, 36, 37, 38, 39, 40, 41, 2, 3, 4, 6, 16, 17, 18, 19, 20, 21, 22, 23, 24, 25, 26, 27, 28, 42, 43, 44, 45, 50, 51, 52, 53, 54, 55, 56, 57, 58, 59, 60, 61, 62, 63, 64, 65, 66] (by decide +kernel) (by decide +kernel)
set_option maxRecDepth 20000 in
theorem gX11_farthest_X11_lays : GoodIn wsX11_farthest (wsV RX11 147 RX11 yX11_lays wsX11_lays) := goodIn_app (goodIn_of _ (by decide +kernel)) ggX11_farthest_X11_lays
set_option maxRecDepth 20000 in
theorem ggX11_farthest_X11_farthestOf : GoodIn wsX11_farthest wsX11_farthestOf := goodIn_r _ [49, 1, 7, 8, 9, 5, 10, 11, 12, 13, 14, 15, 50, 51, 52, 53, 54, 55, 56, 57, 58, 59, 60, 61, 62, 63, 64, 65, 66] (by decide +kernel) (by decide +kernel)
set_option maxRecDepth 20000 in
theorem gX11_farthest_X11_farthestOf : GoodIn wsX11_farthest (wsV RX11 157 RX11 yX11_farthestOf wsX11_farthestOf) := goodIn_app (goodIn_of _ (by decide +kernel)) ggX11_farthest_X11_farthestOf
theorem dX11_farthest_0 : decode cX11_farthest 0 = .ok (.aload_n 0, 1) := by decide +kernel
theorem dX11_farthest_1 : decode cX11_farthest 1 = .ok (.iload_n 1, 1) := by decide +kernel
theorem dX11_farthest_2 : decode cX11_farthest 2 = .ok (.invokevirtual 74, 3) := by decide +kernel
theorem dX11_farthest_5 : decode cX11_farthest 5 = .ok (.ifCond .eq 12, 3) := by decide +kernel
theorem dX11_farthest_8 : decode cX11_farthest 8 = .ok (.iload_n 2, 1) := by decide +kernel
theorem dX11_farthest_9 : decode cX11_farthest 9 = .ok (.iconst 0, 1) := by decide +kernel
theorem dX11_farthest_10 : decode cX11_farthest 10 = .ok (.iconst 1, 1) := by decide +kernel
theorem dX11_farthest_11 : decode cX11_farthest 11 = .ok (.invokestatic 57, 3) := by decide +kernel
theorem dX11_farthest_14 : decode cX11_farthest 14 = .ok (.ifCond .ne 5, 3) := by decide +kernel
theorem dX11_farthest_17 : decode cX11_farthest 17 = .ok (.iconst (-1), 1) := by decide +kernel
theorem dX11_farthest_18 : decode cX11_farthest 18 = .ok (.ireturn, 1) := by decide +kernel
theorem dX11_farthest_19 : decode cX11_farthest 19 = .ok (.aload_n 0, 1) := by decide +kernel
theorem dX11_farthest_20 : decode cX11_farthest 20 = .ok (.iload_n 1, 1) := by decide +kernel
theorem dX11_farthest_21 : decode cX11_farthest 21 = .ok (.invokevirtual 147, 3) := by decide +kernel
theorem dX11_farthest_24 : decode cX11_farthest 24 = .ok (.aload_n 0, 1) := by decide +kernel
theorem dX11_farthest_25 : decode cX11_farthest 25 = .ok (.invokevirtual 157, 3) := by decide +kernel
theorem dX11_farthest_28 : decode cX11_farthest 28 = .ok (.istore_n 3, 1) := by decide +kernel
theorem dX11_farthest_29 : decode cX11_farthest 29 = .ok (.iload_n 2, 1) := by decide +kernel
theorem dX11_farthest_30 : decode cX11_farthest 30 = .ok (.ifCond .ne 7, 3) := by decide +kernel
theorem dX11_farthest_33 : decode cX11_farthest 33 = .ok (.iload_n 3, 1) := by decide +kernel
theorem dX11_farthest_34 : decode cX11_farthest 34 = .ok (.goto 9, 3) := by decide +kernel
theorem dX11_farthest_37 : decode cX11_farthest 37 = .ok (.aload_n 0, 1) := by decide +kernel
theorem dX11_farthest_38 : decode cX11_farthest 38 = .ok (.getfield 25, 3) := by decide +kernel
theorem dX11_farthest_41 : decode cX11_farthest 41 = .ok (.iload_n 3, 1) := by decide +kernel
theorem dX11_farthest_42 : decode cX11_farthest 42 = .ok (.iaload, 1) := by decide +kernel
theorem dX11_farthest_43 : decode cX11_farthest 43 = .ok (.ireturn, 1) := by decide +kernel
set_option maxRecDepth 20000 in
theorem ggX11_longest_X11_in : GoodIn wsX11_longest wsX11_in := goodIn_r _ [5] (by decide +kernel) (by decide +kernel)
set_option maxRecDepth 20000 in
theorem gX11_longest_X11_in : GoodIn wsX11_longest (va_wsS RX11 57 yX11_in wsX11_in) := goodIn_app (goodIn_of _ (by decide +kernel)) ggX11_longest_X11_in
set_option maxRecDepth 20000 in
theorem ggX11_longest_X11_cells : GoodIn wsX11_longest wsX11_cells := goodIn_r _ [9, 10, 11, 12, 4, 13, 14, 50, 51, 52, 53, 54, 55, 56, 57, 58, 59, 60, 61, 62, 63, 64, 65, 66] (by decide +kernel) (by decide +kernel)
set_option maxRecDepth 20000 in
theorem gX11_longest_X11_cells : GoodIn wsX11_longest (wsV RX11 54 RX11 yX11_cells wsX11_cells) := goodIn_app (goodIn_of _ (by decide +kernel)) ggX11_longest_X11_cells
set_option maxRecDepth 20000 in
theorem ggX11_longest_X11_isRoomAt : GoodIn wsX11_longest wsX11_isRoomAt := goodIn_r _ [18, 14, 10, 11, 12, 4, 13, 19, 20, 21, 22, 23, 24, 50, 51, 52, 53, 54, 55, 56, 57, 58, 59, 60, 61, 62, 63, 64, 65, 66] (by decide +kernel) (by decide +kernel)
set_option maxRecDepth 20000 in
theorem gX11_longest_X11_isRoomAt : GoodIn wsX11_longest (wsV RX11 61 RX11 yX11_isRoomAt wsX11_isRoomAt) := goodIn_app (goodIn_of _ (by decide +kernel)) ggX11_longest_X11_isRoomAt
set_option maxRecDepth 20000 in
theorem ggX11_longest_X11_lays : GoodIn wsX11_longest wsX11_lays := goodIn_r _ [28, 1, 29, 6, 7, 8, 4, 9, 10, 11, 12, 13, 14, 30, 31, 32, 33, 34, 35, 36, 37, 38, 39, 40, 41, 2, 3, 5, 15, 16, 17, 18, 19, 20, 21, 22, 23, 24, 42, 43, 44, 45, 50, 51, 52, 53, 54, 55, 56, 57, 58, 59, 60, 61, 62, 63, 64, 65, 66] (by decide +kernel) (by decide +kernel)
set_option maxRecDepth 20000 in
theorem gX11_longest_X11_lays : GoodIn wsX11_longest (wsV RX11 147 RX11 yX11_lays wsX11_lays) := goodIn_app (goodIn_of _ (by decide +kernel)) ggX11_longest_X11_lays
set_option maxRecDepth 20000 in
theorem ggX11_longest_X11_farthestOf : GoodIn wsX11_longest wsX11_farthestOf := goodIn_r _ [49, 1, 6, 7, 8, 4, 9, 10, 11, 12, 13, 14, 50, 51, 52, 53, 54, 55, 56, 57, 58, 59, 60, 61, 62, 63, 64, 65, 66] (by decide +kernel) (by decide +kernel)
set_option maxRecDepth 20000 in
theorem gX11_longest_X11_farthestOf : GoodIn wsX11_longest (wsV RX11 157 RX11 yX11_farthestOf wsX11_farthestOf) := goodIn_app (goodIn_of _ (by decide +kernel)) ggX11_longest_X11_farthestOf
theorem dX11_longest_0 : decode cX11_longest 0 = .ok (.iload_n 1, 1) := by decide +kernel
theorem dX11_longest_1 : decode cX11_longest 1 = .ok (.iconst 0, 1) := by decide +kernel
theorem dX11_longest_2 : decode cX11_longest 2 = .ok (.iconst 2, 1) := by decide +kernel
theorem dX11_longest_3 : decode cX11_longest 3 = .ok (.invokestatic 57, 3) := by decide +kernel
theorem dX11_longest_6 : decode cX11_longest 6 = .ok (.ifCond .ne 5, 3) := by decide +kernel
theorem dX11_longest_9 : decode cX11_longest 9 = .ok (.iconst (-1), 1) := by decide +kernel
theorem dX11_longest_10 : decode cX11_longest 10 = .ok (.ireturn, 1) := by decide +kernel
theorem dX11_longest_11 : decode cX11_longest 11 = .ok (.iconst (-1), 1) := by decide +kernel
theorem dX11_longest_12 : decode cX11_longest 12 = .ok (.istore_n 2, 1) := by decide +kernel
theorem dX11_longest_13 : decode cX11_longest 13 = .ok (.iconst 0, 1) := by decide +kernel
theorem dX11_longest_14 : decode cX11_longest 14 = .ok (.istore_n 3, 1) := by decide +kernel
theorem dX11_longest_15 : decode cX11_longest 15 = .ok (.iconst 0, 1) := by decide +kernel
theorem dX11_longest_16 : decode cX11_longest 16 = .ok (.istore 4, 2) := by decide +kernel
theorem dX11_longest_18 : decode cX11_longest 18 = .ok (.iconst 0, 1) := by decide +kernel
theorem dX11_longest_19 : decode cX11_longest 19 = .ok (.istore 5, 2) := by decide +kernel
theorem dX11_longest_21 : decode cX11_longest 21 = .ok (.iload 5, 2) := by decide +kernel
theorem dX11_longest_23 : decode cX11_longest 23 = .ok (.aload_n 0, 1) := by decide +kernel
theorem dX11_longest_24 : decode cX11_longest 24 = .ok (.invokevirtual 54, 3) := by decide +kernel
theorem dX11_longest_27 : decode cX11_longest 27 = .ok (.if_icmp .ge 56, 3) := by decide +kernel
theorem dX11_longest_30 : decode cX11_longest 30 = .ok (.aload_n 0, 1) := by decide +kernel
theorem dX11_longest_31 : decode cX11_longest 31 = .ok (.iload 5, 2) := by decide +kernel
theorem dX11_longest_33 : decode cX11_longest 33 = .ok (.invokevirtual 61, 3) := by decide +kernel
theorem dX11_longest_36 : decode cX11_longest 36 = .ok (.ifCond .eq 41, 3) := by decide +kernel
theorem dX11_longest_39 : decode cX11_longest 39 = .ok (.aload_n 0, 1) := by decide +kernel
theorem dX11_longest_40 : decode cX11_longest 40 = .ok (.iload 5, 2) := by decide +kernel
theorem dX11_longest_42 : decode cX11_longest 42 = .ok (.invokevirtual 147, 3) := by decide +kernel
theorem dX11_longest_45 : decode cX11_longest 45 = .ok (.aload_n 0, 1) := by decide +kernel
theorem dX11_longest_46 : decode cX11_longest 46 = .ok (.invokevirtual 157, 3) := by decide +kernel
theorem dX11_longest_49 : decode cX11_longest 49 = .ok (.istore 6, 2) := by decide +kernel
theorem dX11_longest_51 : decode cX11_longest 51 = .ok (.aload_n 0, 1) := by decide +kernel
theorem dX11_longest_52 : decode cX11_longest 52 = .ok (.getfield 25, 3) := by decide +kernel
theorem dX11_longest_55 : decode cX11_longest 55 = .ok (.iload 6, 2) := by decide +kernel
theorem dX11_longest_57 : decode cX11_longest 57 = .ok (.iaload, 1) := by decide +kernel
theorem dX11_longest_58 : decode cX11_longest 58 = .ok (.iload_n 2, 1) := by decide +kernel
theorem dX11_longest_59 : decode cX11_longest 59 = .ok (.if_icmp .le 18, 3) := by decide +kernel
theorem dX11_longest_62 : decode cX11_longest 62 = .ok (.aload_n 0, 1) := by decide +kernel
theorem dX11_longest_63 : decode cX11_longest 63 = .ok (.getfield 25, 3) := by decide +kernel
theorem dX11_longest_66 : decode cX11_longest 66 = .ok (.iload 6, 2) := by decide +kernel
theorem dX11_longest_68 : decode cX11_longest 68 = .ok (.iaload, 1) := by decide +kernel
theorem dX11_longest_69 : decode cX11_longest 69 = .ok (.istore_n 2, 1) := by decide +kernel
theorem dX11_longest_70 : decode cX11_longest 70 = .ok (.iload 5, 2) := by decide +kernel
theorem dX11_longest_72 : decode cX11_longest 72 = .ok (.istore_n 3, 1) := by decide +kernel
theorem dX11_longest_73 : decode cX11_longest 73 = .ok (.iload 6, 2) := by decide +kernel
theorem dX11_longest_75 : decode cX11_longest 75 = .ok (.istore 4, 2) := by decide +kernel
theorem dX11_longest_77 : decode cX11_longest 77 = .ok (.iinc 5 1, 3) := by decide +kernel
theorem dX11_longest_80 : decode cX11_longest 80 = .ok (.goto (-59), 3) := by decide +kernel
theorem dX11_longest_83 : decode cX11_longest 83 = .ok (.iload_n 1, 1) := by decide +kernel
theorem dX11_longest_84 : decode cX11_longest 84 = .ok (.ifCond .ne 7, 3) := by decide +kernel
theorem dX11_longest_87 : decode cX11_longest 87 = .ok (.iload_n 2, 1) := by decide +kernel
theorem dX11_longest_88 : decode cX11_longest 88 = .ok (.goto 14, 3) := by decide +kernel
theorem dX11_longest_91 : decode cX11_longest 91 = .ok (.iload_n 1, 1) := by decide +kernel
theorem dX11_longest_92 : decode cX11_longest 92 = .ok (.iconst 1, 1) := by decide +kernel
theorem dX11_longest_93 : decode cX11_longest 93 = .ok (.if_icmp .ne 7, 3) := by decide +kernel
theorem dX11_longest_96 : decode cX11_longest 96 = .ok (.iload_n 3, 1) := by decide +kernel
theorem dX11_longest_97 : decode cX11_longest 97 = .ok (.goto 5, 3) := by decide +kernel
theorem dX11_longest_100 : decode cX11_longest 100 = .ok (.iload 4, 2) := by decide +kernel
theorem dX11_longest_102 : decode cX11_longest 102 = .ok (.ireturn, 1) := by decide +kernel
set_option maxRecDepth 20000 in
theorem ggX11_grade_X11_lays : GoodIn wsX11_grade wsX11_lays := goodIn_r _ [7, 2, 8, 9, 10, 11, 6, 12, 13, 14, 15, 16, 1, 17, 18, 19, 20, 21, 22, 23, 24, 25, 26, 27, 28, 29, 30, 31, 32, 33, 34, 35, 36, 37, 38, 39, 40, 41, 42, 43, 44, 45, 58, 59, 60, 61, 62, 63, 64, 65, 66, 67, 68, 69, 70, 71, 72, 73, 74] (by decide +kernel) (by decide +kernel)
set_option maxRecDepth 20000 in
theorem gX11_grade_X11_lays : GoodIn wsX11_grade (wsV RX11 147 RX11 yX11_lays wsX11_lays) := goodIn_app (goodIn_of _ (by decide +kernel)) ggX11_grade_X11_lays
set_option maxRecDepth 20000 in
theorem ggX11_grade_X11_cells : GoodIn wsX11_grade wsX11_cells := goodIn_r _ [12, 13, 14, 15, 6, 16, 1, 58, 59, 60, 61, 62, 63, 64, 65, 66, 67, 68, 69, 70, 71, 72, 73, 74] (by decide +kernel) (by decide +kernel)
set_option maxRecDepth 20000 in
theorem gX11_grade_X11_cells : GoodIn wsX11_grade (wsV RX11 54 RX11 yX11_cells wsX11_cells) := goodIn_app (goodIn_of _ (by decide +kernel)) ggX11_grade_X11_cells
set_option maxRecDepth 20000 in
theorem ggX11_grade_X11_isFork : GoodIn wsX11_grade wsX11_isFork := goodIn_r _ [49, 32, 33, 34, 6, 35, 1, 13, 14, 15, 16, 36, 37, 38, 39, 40, 41, 50, 51, 52, 53, 17, 18, 19, 20, 21, 22, 23, 24, 25, 26, 27, 28, 9, 10, 11, 12, 29, 30, 31, 42, 43, 44, 45, 58, 59, 60, 61, 62, 63, 64, 65, 66, 67, 68, 69, 70, 71, 72, 73, 74] (by decide +kernel) (by decide +kernel)
set_option maxRecDepth 20000 in
theorem gX11_grade_X11_isFork : GoodIn wsX11_grade (wsV RX11 130 RX11 yX11_isFork wsX11_isFork) := goodIn_app (goodIn_of _ (by decide +kernel)) ggX11_grade_X11_isFork
set_option maxRecDepth 20000 in
theorem ggX11_grade_X11_leads : GoodIn wsX11_grade wsX11_leads := goodIn_r _ [57, 2, 17, 18, 19, 6, 20, 1, 21, 22, 23, 24, 13, 14, 15, 16, 25, 26, 27, 28, 9, 10, 11, 12, 29, 30, 31, 32, 33, 34, 35, 36, 37, 38, 39, 40, 41, 42, 43, 44, 45, 58, 59, 60, 61, 62, 63, 64, 65, 66, 67, 68, 69, 70, 71, 72, 73, 74] (by decide +kernel) (by decide +kernel)
set_option maxRecDepth 20000 in
theorem gX11_grade_X11_leads : GoodIn wsX11_grade (wsV RX11 154 RX11 yX11_leads wsX11_leads) := goodIn_app (goodIn_of _ (by decide +kernel)) ggX11_grade_X11_leads
set_option maxRecDepth 20000 in
theorem ggX11_grade_X11_beside : GoodIn wsX11_grade wsX11_beside := goodIn_r _ [24, 13, 14, 15, 6, 16, 1, 25, 26, 27, 28, 9, 10, 11, 12, 29, 30, 31, 32, 33, 34, 35, 36, 37, 38, 39, 40, 41, 58, 59, 60, 61, 62, 63, 64, 65, 66, 67, 68, 69, 70, 71, 72, 73, 74] (by decide +kernel) (by decide +kernel)
set_option maxRecDepth 20000 in
theorem gX11_grade_X11_beside : GoodIn wsX11_grade (wsV RX11 80 RX11 yX11_beside wsX11_beside) := goodIn_app (goodIn_of _ (by decide +kernel)) ggX11_grade_X11_beside
theorem dX11_grade_0 : decode cX11_grade 0 = .ok (.aload_n 0, 1) := by decide +kernel
theorem dX11_grade_1 : decode cX11_grade 1 = .ok (.getfield 7, 3) := by decide +kernel
theorem dX11_grade_4 : decode cX11_grade 4 = .ok (.bipush 7, 2) := by decide +kernel
theorem dX11_grade_6 : decode cX11_grade 6 = .ok (.iaload, 1) := by decide +kernel
theorem dX11_grade_7 : decode cX11_grade 7 = .ok (.istore_n 1, 1) := by decide +kernel
theorem dX11_grade_8 : decode cX11_grade 8 = .ok (.aload_n 0, 1) := by decide +kernel
theorem dX11_grade_9 : decode cX11_grade 9 = .ok (.getfield 7, 3) := by decide +kernel
theorem dX11_grade_12 : decode cX11_grade 12 = .ok (.bipush 8, 2) := by decide +kernel
theorem dX11_grade_14 : decode cX11_grade 14 = .ok (.iaload, 1) := by decide +kernel
theorem dX11_grade_15 : decode cX11_grade 15 = .ok (.istore_n 2, 1) := by decide +kernel
theorem dX11_grade_16 : decode cX11_grade 16 = .ok (.aload_n 0, 1) := by decide +kernel
theorem dX11_grade_17 : decode cX11_grade 17 = .ok (.iload_n 2, 1) := by decide +kernel
theorem dX11_grade_18 : decode cX11_grade 18 = .ok (.invokevirtual 147, 3) := by decide +kernel
theorem dX11_grade_21 : decode cX11_grade 21 = .ok (.aload_n 0, 1) := by decide +kernel
theorem dX11_grade_22 : decode cX11_grade 22 = .ok (.getfield 25, 3) := by decide +kernel
theorem dX11_grade_25 : decode cX11_grade 25 = .ok (.iload_n 1, 1) := by decide +kernel
theorem dX11_grade_26 : decode cX11_grade 26 = .ok (.iaload, 1) := by decide +kernel
theorem dX11_grade_27 : decode cX11_grade 27 = .ok (.ifCond .ge 6, 3) := by decide +kernel
theorem dX11_grade_30 : decode cX11_grade 30 = .ok (.bipush (-4), 2) := by decide +kernel
theorem dX11_grade_32 : decode cX11_grade 32 = .ok (.ireturn, 1) := by decide +kernel
theorem dX11_grade_33 : decode cX11_grade 33 = .ok (.iconst 0, 1) := by decide +kernel
theorem dX11_grade_34 : decode cX11_grade 34 = .ok (.istore_n 3, 1) := by decide +kernel
theorem dX11_grade_35 : decode cX11_grade 35 = .ok (.iconst 0, 1) := by decide +kernel
theorem dX11_grade_36 : decode cX11_grade 36 = .ok (.istore 4, 2) := by decide +kernel
theorem dX11_grade_38 : decode cX11_grade 38 = .ok (.iload 4, 2) := by decide +kernel
theorem dX11_grade_40 : decode cX11_grade 40 = .ok (.aload_n 0, 1) := by decide +kernel
theorem dX11_grade_41 : decode cX11_grade 41 = .ok (.invokevirtual 54, 3) := by decide +kernel
theorem dX11_grade_44 : decode cX11_grade 44 = .ok (.if_icmp .ge 27, 3) := by decide +kernel
theorem dX11_grade_47 : decode cX11_grade 47 = .ok (.iload_n 3, 1) := by decide +kernel
theorem dX11_grade_48 : decode cX11_grade 48 = .ok (.aload_n 0, 1) := by decide +kernel
theorem dX11_grade_49 : decode cX11_grade 49 = .ok (.getfield 25, 3) := by decide +kernel
theorem dX11_grade_52 : decode cX11_grade 52 = .ok (.iload 4, 2) := by decide +kernel
theorem dX11_grade_54 : decode cX11_grade 54 = .ok (.iaload, 1) := by decide +kernel
theorem dX11_grade_55 : decode cX11_grade 55 = .ok (.ifCond .lt 7, 3) := by decide +kernel
theorem dX11_grade_58 : decode cX11_grade 58 = .ok (.iconst 1, 1) := by decide +kernel
theorem dX11_grade_59 : decode cX11_grade 59 = .ok (.goto 4, 3) := by decide +kernel
theorem dX11_grade_62 : decode cX11_grade 62 = .ok (.iconst 0, 1) := by decide +kernel
theorem dX11_grade_63 : decode cX11_grade 63 = .ok (.iadd, 1) := by decide +kernel
theorem dX11_grade_64 : decode cX11_grade 64 = .ok (.istore_n 3, 1) := by decide +kernel
theorem dX11_grade_65 : decode cX11_grade 65 = .ok (.iinc 4 1, 3) := by decide +kernel
theorem dX11_grade_68 : decode cX11_grade 68 = .ok (.goto (-30), 3) := by decide +kernel
theorem dX11_grade_71 : decode cX11_grade 71 = .ok (.iconst 0, 1) := by decide +kernel
theorem dX11_grade_72 : decode cX11_grade 72 = .ok (.istore 4, 2) := by decide +kernel
theorem dX11_grade_74 : decode cX11_grade 74 = .ok (.iload_n 1, 1) := by decide +kernel
theorem dX11_grade_75 : decode cX11_grade 75 = .ok (.istore 5, 2) := by decide +kernel
theorem dX11_grade_77 : decode cX11_grade 77 = .ok (.iload 5, 2) := by decide +kernel

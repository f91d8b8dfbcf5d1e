theorem dX9_forksAhead_0 : decode cX9_forksAhead 0 = .ok (.iconst 0, 1) := by decide +kernel
theorem dX9_forksAhead_1 : decode cX9_forksAhead 1 = .ok (.istore_n 3, 1) := by decide +kernel
theorem dX9_forksAhead_2 : decode cX9_forksAhead 2 = .ok (.iload_n 2, 1) := by decide +kernel
theorem dX9_forksAhead_3 : decode cX9_forksAhead 3 = .ok (.istore 4, 2) := by decide +kernel
theorem dX9_forksAhead_5 : decode cX9_forksAhead 5 = .ok (.aload_n 0, 1) := by decide +kernel
theorem dX9_forksAhead_6 : decode cX9_forksAhead 6 = .ok (.getfield 14, 3) := by decide +kernel
theorem dX9_forksAhead_9 : decode cX9_forksAhead 9 = .ok (.iload_n 2, 1) := by decide +kernel
theorem dX9_forksAhead_10 : decode cX9_forksAhead 10 = .ok (.invokevirtual 37, 3) := by decide +kernel
theorem dX9_forksAhead_13 : decode cX9_forksAhead 13 = .ok (.istore 5, 2) := by decide +kernel
theorem dX9_forksAhead_15 : decode cX9_forksAhead 15 = .ok (.iload 5, 2) := by decide +kernel
theorem dX9_forksAhead_17 : decode cX9_forksAhead 17 = .ok (.ifCond .le 30, 3) := by decide +kernel
theorem dX9_forksAhead_20 : decode cX9_forksAhead 20 = .ok (.aload_n 1, 1) := by decide +kernel
theorem dX9_forksAhead_21 : decode cX9_forksAhead 21 = .ok (.iload 4, 2) := by decide +kernel
theorem dX9_forksAhead_23 : decode cX9_forksAhead 23 = .ok (.invokevirtual 88, 3) := by decide +kernel
theorem dX9_forksAhead_26 : decode cX9_forksAhead 26 = .ok (.ifCond .eq 6, 3) := by decide +kernel
theorem dX9_forksAhead_29 : decode cX9_forksAhead 29 = .ok (.iinc 3 1, 3) := by decide +kernel
theorem dX9_forksAhead_32 : decode cX9_forksAhead 32 = .ok (.aload_n 0, 1) := by decide +kernel
theorem dX9_forksAhead_33 : decode cX9_forksAhead 33 = .ok (.aload_n 1, 1) := by decide +kernel
theorem dX9_forksAhead_34 : decode cX9_forksAhead 34 = .ok (.iload 4, 2) := by decide +kernel
theorem dX9_forksAhead_36 : decode cX9_forksAhead 36 = .ok (.invokevirtual 85, 3) := by decide +kernel
theorem dX9_forksAhead_39 : decode cX9_forksAhead 39 = .ok (.istore 4, 2) := by decide +kernel
theorem dX9_forksAhead_41 : decode cX9_forksAhead 41 = .ok (.iinc 5 (-1), 3) := by decide +kernel
theorem dX9_forksAhead_44 : decode cX9_forksAhead 44 = .ok (.goto (-29), 3) := by decide +kernel
theorem dX9_forksAhead_47 : decode cX9_forksAhead 47 = .ok (.iload_n 3, 1) := by decide +kernel
theorem dX9_forksAhead_48 : decode cX9_forksAhead 48 = .ok (.ireturn, 1) := by decide +kernel
set_option maxRecDepth 20000 in
theorem ggX9_meeting_X4_at : GoodIn wsX9_meeting wsX4_at := goodIn_r _ [6, 7, 39] (by decide +kernel) (by decide +kernel)
set_option maxRecDepth 20000 in
theorem gX9_meeting_X4_at : GoodIn wsX9_meeting (wsV RX9 37 RX4 yX4_at wsX4_at) := goodIn_app (goodIn_of _ (by decide +kernel)) ggX9_meeting_X4_at
set_option maxRecDepth 20000 in
theorem ggX9_meeting_X9_nextRoom : GoodIn wsX9_meeting wsX9_nextRoom := goodIn_r _ [12, 13, 14, 15, 16, 11, 17, 1, 2, 3, 4, 5, 6, 7, 18, 19, 20, 21, 22, 23, 24, 25, 26, 27, 28, 29, 30, 31, 40, 41, 32, 33, 34, 35, 36, 37, 38, 39, 42, 43, 44, 45, 46, 47, 48, 49, 50, 51, 52, 53] (by decide +kernel) (by decide +kernel)
set_option maxRecDepth 20000 in
theorem gX9_meeting_X9_nextRoom : GoodIn wsX9_meeting (wsV RX9 85 RX9 yX9_nextRoom wsX9_nextRoom) := goodIn_app (goodIn_of _ (by decide +kernel)) ggX9_meeting_X9_nextRoom
theorem dX9_meeting_0 : decode cX9_meeting 0 = .ok (.iload_n 2, 1) := by decide +kernel
theorem dX9_meeting_1 : decode cX9_meeting 1 = .ok (.istore 4, 2) := by decide +kernel
theorem dX9_meeting_3 : decode cX9_meeting 3 = .ok (.iload_n 3, 1) := by decide +kernel
theorem dX9_meeting_4 : decode cX9_meeting 4 = .ok (.istore 5, 2) := by decide +kernel
theorem dX9_meeting_6 : decode cX9_meeting 6 = .ok (.iconst 0, 1) := by decide +kernel
theorem dX9_meeting_7 : decode cX9_meeting 7 = .ok (.istore 6, 2) := by decide +kernel
theorem dX9_meeting_9 : decode cX9_meeting 9 = .ok (.iload 6, 2) := by decide +kernel
theorem dX9_meeting_11 : decode cX9_meeting 11 = .ok (.sipush 420, 3) := by decide +kernel
theorem dX9_meeting_14 : decode cX9_meeting 14 = .ok (.if_icmp .ge 58, 3) := by decide +kernel
theorem dX9_meeting_17 : decode cX9_meeting 17 = .ok (.iload 4, 2) := by decide +kernel
theorem dX9_meeting_19 : decode cX9_meeting 19 = .ok (.iload 5, 2) := by decide +kernel
theorem dX9_meeting_21 : decode cX9_meeting 21 = .ok (.if_icmp .eq 51, 3) := by decide +kernel
theorem dX9_meeting_24 : decode cX9_meeting 24 = .ok (.aload_n 0, 1) := by decide +kernel
theorem dX9_meeting_25 : decode cX9_meeting 25 = .ok (.getfield 14, 3) := by decide +kernel
theorem dX9_meeting_28 : decode cX9_meeting 28 = .ok (.iload 4, 2) := by decide +kernel
theorem dX9_meeting_30 : decode cX9_meeting 30 = .ok (.invokevirtual 37, 3) := by decide +kernel
theorem dX9_meeting_33 : decode cX9_meeting 33 = .ok (.aload_n 0, 1) := by decide +kernel
theorem dX9_meeting_34 : decode cX9_meeting 34 = .ok (.getfield 14, 3) := by decide +kernel
theorem dX9_meeting_37 : decode cX9_meeting 37 = .ok (.iload 5, 2) := by decide +kernel
theorem dX9_meeting_39 : decode cX9_meeting 39 = .ok (.invokevirtual 37, 3) := by decide +kernel
theorem dX9_meeting_42 : decode cX9_meeting 42 = .ok (.if_icmp .lt 15, 3) := by decide +kernel
theorem dX9_meeting_45 : decode cX9_meeting 45 = .ok (.aload_n 0, 1) := by decide +kernel
theorem dX9_meeting_46 : decode cX9_meeting 46 = .ok (.aload_n 1, 1) := by decide +kernel
theorem dX9_meeting_47 : decode cX9_meeting 47 = .ok (.iload 4, 2) := by decide +kernel
theorem dX9_meeting_49 : decode cX9_meeting 49 = .ok (.invokevirtual 85, 3) := by decide +kernel
theorem dX9_meeting_52 : decode cX9_meeting 52 = .ok (.istore 4, 2) := by decide +kernel
theorem dX9_meeting_54 : decode cX9_meeting 54 = .ok (.goto 12, 3) := by decide +kernel
theorem dX9_meeting_57 : decode cX9_meeting 57 = .ok (.aload_n 0, 1) := by decide +kernel
theorem dX9_meeting_58 : decode cX9_meeting 58 = .ok (.aload_n 1, 1) := by decide +kernel
theorem dX9_meeting_59 : decode cX9_meeting 59 = .ok (.iload 5, 2) := by decide +kernel
theorem dX9_meeting_61 : decode cX9_meeting 61 = .ok (.invokevirtual 85, 3) := by decide +kernel
theorem dX9_meeting_64 : decode cX9_meeting 64 = .ok (.istore 5, 2) := by decide +kernel
theorem dX9_meeting_66 : decode cX9_meeting 66 = .ok (.iinc 6 1, 3) := by decide +kernel
theorem dX9_meeting_69 : decode cX9_meeting 69 = .ok (.goto (-60), 3) := by decide +kernel
theorem dX9_meeting_72 : decode cX9_meeting 72 = .ok (.iload 4, 2) := by decide +kernel
theorem dX9_meeting_74 : decode cX9_meeting 74 = .ok (.ireturn, 1) := by decide +kernel
set_option maxRecDepth 20000 in
theorem ggX9_farthestRoom_X5_holds : GoodIn wsX9_farthestRoom wsX5_holds := goodIn_r _ [7, 8, 9, 10, 11, 12, 13, 14, 25, 26, 27, 28, 29, 30, 31] (by decide +kernel) (by decide +kernel)
set_option maxRecDepth 20000 in
theorem gX9_farthestRoom_X5_holds : GoodIn wsX9_farthestRoom (wsV RX9 59 RX5 yX5_holds wsX5_holds) := goodIn_app (goodIn_of _ (by decide +kernel)) ggX9_farthestRoom_X5_holds
set_option maxRecDepth 20000 in
theorem ggX9_farthestRoom_X4_at : GoodIn wsX9_farthestRoom wsX4_at := goodIn_r _ [13, 14, 31] (by decide +kernel) (by decide +kernel)
set_option maxRecDepth 20000 in
theorem gX9_farthestRoom_X4_at : GoodIn wsX9_farthestRoom (wsV RX9 37 RX4 yX4_at wsX4_at) := goodIn_app (goodIn_of _ (by decide +kernel)) ggX9_farthestRoom_X4_at
theorem dX9_farthestRoom_0 : decode cX9_farthestRoom 0 = .ok (.iconst (-1), 1) := by decide +kernel
theorem dX9_farthestRoom_1 : decode cX9_farthestRoom 1 = .ok (.istore_n 2, 1) := by decide +kernel
theorem dX9_farthestRoom_2 : decode cX9_farthestRoom 2 = .ok (.iconst (-1), 1) := by decide +kernel
theorem dX9_farthestRoom_3 : decode cX9_farthestRoom 3 = .ok (.istore_n 3, 1) := by decide +kernel
theorem dX9_farthestRoom_4 : decode cX9_farthestRoom 4 = .ok (.iconst 0, 1) := by decide +kernel
theorem dX9_farthestRoom_5 : decode cX9_farthestRoom 5 = .ok (.istore 4, 2) := by decide +kernel
theorem dX9_farthestRoom_7 : decode cX9_farthestRoom 7 = .ok (.iload 4, 2) := by decide +kernel
theorem dX9_farthestRoom_9 : decode cX9_farthestRoom 9 = .ok (.sipush 210, 3) := by decide +kernel
theorem dX9_farthestRoom_12 : decode cX9_farthestRoom 12 = .ok (.if_icmp .ge 47, 3) := by decide +kernel
theorem dX9_farthestRoom_15 : decode cX9_farthestRoom 15 = .ok (.aload_n 1, 1) := by decide +kernel
theorem dX9_farthestRoom_16 : decode cX9_farthestRoom 16 = .ok (.getfield 47, 3) := by decide +kernel
theorem dX9_farthestRoom_19 : decode cX9_farthestRoom 19 = .ok (.iload 4, 2) := by decide +kernel
theorem dX9_farthestRoom_21 : decode cX9_farthestRoom 21 = .ok (.invokevirtual 59, 3) := by decide +kernel
theorem dX9_farthestRoom_24 : decode cX9_farthestRoom 24 = .ok (.ifCond .eq 29, 3) := by decide +kernel
theorem dX9_farthestRoom_27 : decode cX9_farthestRoom 27 = .ok (.aload_n 0, 1) := by decide +kernel
theorem dX9_farthestRoom_28 : decode cX9_farthestRoom 28 = .ok (.getfield 14, 3) := by decide +kernel
theorem dX9_farthestRoom_31 : decode cX9_farthestRoom 31 = .ok (.iload 4, 2) := by decide +kernel
theorem dX9_farthestRoom_33 : decode cX9_farthestRoom 33 = .ok (.invokevirtual 37, 3) := by decide +kernel
theorem dX9_farthestRoom_36 : decode cX9_farthestRoom 36 = .ok (.iload_n 3, 1) := by decide +kernel
theorem dX9_farthestRoom_37 : decode cX9_farthestRoom 37 = .ok (.if_icmp .le 16, 3) := by decide +kernel
theorem dX9_farthestRoom_40 : decode cX9_farthestRoom 40 = .ok (.iload 4, 2) := by decide +kernel
theorem dX9_farthestRoom_42 : decode cX9_farthestRoom 42 = .ok (.istore_n 2, 1) := by decide +kernel
theorem dX9_farthestRoom_43 : decode cX9_farthestRoom 43 = .ok (.aload_n 0, 1) := by decide +kernel
theorem dX9_farthestRoom_44 : decode cX9_farthestRoom 44 = .ok (.getfield 14, 3) := by decide +kernel
theorem dX9_farthestRoom_47 : decode cX9_farthestRoom 47 = .ok (.iload 4, 2) := by decide +kernel
theorem dX9_farthestRoom_49 : decode cX9_farthestRoom 49 = .ok (.invokevirtual 37, 3) := by decide +kernel
theorem dX9_farthestRoom_52 : decode cX9_farthestRoom 52 = .ok (.istore_n 3, 1) := by decide +kernel
theorem dX9_farthestRoom_53 : decode cX9_farthestRoom 53 = .ok (.iinc 4 1, 3) := by decide +kernel
theorem dX9_farthestRoom_56 : decode cX9_farthestRoom 56 = .ok (.goto (-49), 3) := by decide +kernel
theorem dX9_farthestRoom_59 : decode cX9_farthestRoom 59 = .ok (.iload_n 2, 1) := by decide +kernel
theorem dX9_farthestRoom_60 : decode cX9_farthestRoom 60 = .ok (.ireturn, 1) := by decide +kernel
set_option maxRecDepth 20000 in
theorem ggX9_findLongest_X5_holds : GoodIn wsX9_findLongest wsX5_holds := goodIn_r _ [10, 11, 12, 13, 14, 15, 16, 17, 68, 69, 70, 71, 72, 73, 74] (by decide +kernel) (by decide +kernel)
set_option maxRecDepth 20000 in
theorem gX9_findLongest_X5_holds : GoodIn wsX9_findLongest (wsV RX9 59 RX5 yX5_holds wsX5_holds) := goodIn_app (goodIn_of _ (by decide +kernel)) ggX9_findLongest_X5_holds
set_option maxRecDepth 20000 in
theorem ggX9_findLongest_X9_spread : GoodIn wsX9_findLongest wsX9_spread := goodIn_r _ [22, 3, 23, 24, 2, 25, 26, 27, 15, 28, 17, 29, 30, 31, 32, 33, 34, 35, 21, 36, 37, 13, 14, 16, 38, 39, 40, 41, 42, 43, 44, 45, 46, 47, 48, 49, 50, 51, 52, 9, 53, 54, 59, 60, 61, 62, 63, 64, 65, 66, 67, 74, 75, 76, 77, 78, 79, 80, 68, 69, 70, 71, 72, 73] (by decide +kernel) (by decide +kernel)
set_option maxRecDepth 20000 in
theorem gX9_findLongest_X9_spread : GoodIn wsX9_findLongest (wsV RX9 63 RX9 yX9_spread wsX9_spread) := goodIn_app (goodIn_of _ (by decide +kernel)) ggX9_findLongest_X9_spread
set_option maxRecDepth 20000 in
theorem ggX9_findLongest_X9_farthestRoom : GoodIn wsX9_findLongest wsX9_farthestRoom := goodIn_r _ [58, 2, 3, 6, 7, 8, 9, 10, 11, 12, 13, 14, 15, 16, 17, 37, 66, 67, 59, 60, 61, 62, 63, 64, 65, 68, 69, 70, 71, 72, 73, 74] (by decide +kernel) (by decide +kernel)
set_option maxRecDepth 20000 in
theorem gX9_findLongest_X9_farthestRoom : GoodIn wsX9_findLongest (wsV RX9 94 RX9 yX9_farthestRoom wsX9_farthestRoom) := goodIn_app (goodIn_of _ (by decide +kernel)) ggX9_findLongest_X9_farthestRoom
set_option maxRecDepth 20000 in
theorem ggX9_findLongest_X4_at : GoodIn wsX9_findLongest wsX4_at := goodIn_r _ [16, 17, 74] (by decide +kernel) (by decide +kernel)
set_option maxRecDepth 20000 in
theorem gX9_findLongest_X4_at : GoodIn wsX9_findLongest (wsV RX9 37 RX4 yX4_at wsX4_at) := goodIn_app (goodIn_of _ (by decide +kernel)) ggX9_findLongest_X4_at
theorem dX9_findLongest_0 : decode cX9_findLongest 0 = .ok (.aload_n 0, 1) := by decide +kernel
theorem dX9_findLongest_1 : decode cX9_findLongest 1 = .ok (.iconst (-1), 1) := by decide +kernel
theorem dX9_findLongest_2 : decode cX9_findLongest 2 = .ok (.putfield 91, 3) := by decide +kernel
theorem dX9_findLongest_5 : decode cX9_findLongest 5 = .ok (.iconst 0, 1) := by decide +kernel
theorem dX9_findLongest_6 : decode cX9_findLongest 6 = .ok (.istore_n 2, 1) := by decide +kernel
theorem dX9_findLongest_7 : decode cX9_findLongest 7 = .ok (.iload_n 2, 1) := by decide +kernel
theorem dX9_findLongest_8 : decode cX9_findLongest 8 = .ok (.sipush 210, 3) := by decide +kernel
theorem dX9_findLongest_11 : decode cX9_findLongest 11 = .ok (.if_icmp .ge 69, 3) := by decide +kernel
theorem dX9_findLongest_14 : decode cX9_findLongest 14 = .ok (.aload_n 1, 1) := by decide +kernel
theorem dX9_findLongest_15 : decode cX9_findLongest 15 = .ok (.getfield 47, 3) := by decide +kernel
theorem dX9_findLongest_18 : decode cX9_findLongest 18 = .ok (.iload_n 2, 1) := by decide +kernel
theorem dX9_findLongest_19 : decode cX9_findLongest 19 = .ok (.invokevirtual 59, 3) := by decide +kernel
theorem dX9_findLongest_22 : decode cX9_findLongest 22 = .ok (.ifCond .eq 52, 3) := by decide +kernel
theorem dX9_findLongest_25 : decode cX9_findLongest 25 = .ok (.aload_n 0, 1) := by decide +kernel
theorem dX9_findLongest_26 : decode cX9_findLongest 26 = .ok (.aload_n 1, 1) := by decide +kernel
theorem dX9_findLongest_27 : decode cX9_findLongest 27 = .ok (.iload_n 2, 1) := by decide +kernel
theorem dX9_findLongest_28 : decode cX9_findLongest 28 = .ok (.invokevirtual 63, 3) := by decide +kernel
theorem dX9_findLongest_31 : decode cX9_findLongest 31 = .ok (.aload_n 0, 1) := by decide +kernel
theorem dX9_findLongest_32 : decode cX9_findLongest 32 = .ok (.aload_n 1, 1) := by decide +kernel
theorem dX9_findLongest_33 : decode cX9_findLongest 33 = .ok (.invokevirtual 94, 3) := by decide +kernel
theorem dX9_findLongest_36 : decode cX9_findLongest 36 = .ok (.istore_n 3, 1) := by decide +kernel
theorem dX9_findLongest_37 : decode cX9_findLongest 37 = .ok (.aload_n 0, 1) := by decide +kernel
theorem dX9_findLongest_38 : decode cX9_findLongest 38 = .ok (.getfield 14, 3) := by decide +kernel
theorem dX9_findLongest_41 : decode cX9_findLongest 41 = .ok (.iload_n 3, 1) := by decide +kernel
theorem dX9_findLongest_42 : decode cX9_findLongest 42 = .ok (.invokevirtual 37, 3) := by decide +kernel
theorem dX9_findLongest_45 : decode cX9_findLongest 45 = .ok (.aload_n 0, 1) := by decide +kernel
theorem dX9_findLongest_46 : decode cX9_findLongest 46 = .ok (.getfield 91, 3) := by decide +kernel
theorem dX9_findLongest_49 : decode cX9_findLongest 49 = .ok (.if_icmp .le 25, 3) := by decide +kernel
theorem dX9_findLongest_52 : decode cX9_findLongest 52 = .ok (.aload_n 0, 1) := by decide +kernel
theorem dX9_findLongest_53 : decode cX9_findLongest 53 = .ok (.aload_n 0, 1) := by decide +kernel
theorem dX9_findLongest_54 : decode cX9_findLongest 54 = .ok (.getfield 14, 3) := by decide +kernel
theorem dX9_findLongest_57 : decode cX9_findLongest 57 = .ok (.iload_n 3, 1) := by decide +kernel
theorem dX9_findLongest_58 : decode cX9_findLongest 58 = .ok (.invokevirtual 37, 3) := by decide +kernel
theorem dX9_findLongest_61 : decode cX9_findLongest 61 = .ok (.putfield 91, 3) := by decide +kernel
theorem dX9_findLongest_64 : decode cX9_findLongest 64 = .ok (.aload_n 0, 1) := by decide +kernel
theorem dX9_findLongest_65 : decode cX9_findLongest 65 = .ok (.iload_n 2, 1) := by decide +kernel
theorem dX9_findLongest_66 : decode cX9_findLongest 66 = .ok (.putfield 97, 3) := by decide +kernel
theorem dX9_findLongest_69 : decode cX9_findLongest 69 = .ok (.aload_n 0, 1) := by decide +kernel
theorem dX9_findLongest_70 : decode cX9_findLongest 70 = .ok (.iload_n 3, 1) := by decide +kernel
theorem dX9_findLongest_71 : decode cX9_findLongest 71 = .ok (.putfield 100, 3) := by decide +kernel
theorem dX9_findLongest_74 : decode cX9_findLongest 74 = .ok (.iinc 2 1, 3) := by decide +kernel
theorem dX9_findLongest_77 : decode cX9_findLongest 77 = .ok (.goto (-70), 3) := by decide +kernel
theorem dX9_findLongest_80 : decode cX9_findLongest 80 = .ok (.return_, 1) := by decide +kernel
set_option maxRecDepth 20000 in
theorem ggX9_signDirection_X1_signKind : GoodIn wsX9_signDirection wsX1_signKind := goodIn_r _ [5, 6, 7, 8, 9, 10, 11, 12, 13, 41, 42, 43, 44, 45, 46, 47, 48, 49] (by decide +kernel) (by decide +kernel)
set_option maxRecDepth 20000 in
theorem gX9_signDirection_X1_signKind : GoodIn wsX9_signDirection (wsV RX9 103 RX1 yX1_signKind wsX1_signKind) := goodIn_app (goodIn_of _ (by decide +kernel)) ggX9_signDirection_X1_signKind
set_option maxRecDepth 20000 in
theorem ggX9_signDirection_X1_signOwnDirection : GoodIn wsX9_signDirection wsX1_signOwnDirection := goodIn_r _ [17, 6, 7, 8, 9, 10, 11, 12, 13, 41, 42, 43, 44, 45, 46, 47, 48, 49] (by decide +kernel) (by decide +kernel)
set_option maxRecDepth 20000 in
theorem gX9_signDirection_X1_signOwnDirection : GoodIn wsX9_signDirection (wsV RX9 106 RX1 yX1_signOwnDirection wsX1_signOwnDirection) := goodIn_app (goodIn_of _ (by decide +kernel)) ggX9_signDirection_X1_signOwnDirection
set_option maxRecDepth 20000 in
theorem ggX9_signDirection_X1_isOpen : GoodIn wsX9_signDirection wsX1_isOpen := goodIn_r _ [21, 6, 22, 8, 9, 10, 11, 12, 13, 41, 42, 43, 44, 45, 46, 47, 48, 49] (by decide +kernel) (by decide +kernel)
set_option maxRecDepth 20000 in
theorem gX9_signDirection_X1_isOpen : GoodIn wsX9_signDirection (wsV RX9 41 RX1 yX1_isOpen wsX1_isOpen) := goodIn_app (goodIn_of _ (by decide +kernel)) ggX9_signDirection_X1_isOpen
set_option maxRecDepth 20000 in
theorem ggX9_signDirection_X9_firstDirection : GoodIn wsX9_signDirection wsX9_firstDirection := goodIn_r _ [27, 28, 29, 30, 9, 10, 11, 12, 13, 18, 19, 20, 4, 21, 6, 22, 8, 31, 32, 33, 34, 35, 36, 50, 51, 52, 53, 54, 55, 56, 41, 42, 49, 43, 44, 45, 46, 47, 48, 57, 58, 59, 60, 61, 62] (by decide +kernel) (by decide +kernel)
set_option maxRecDepth 20000 in
theorem gX9_signDirection_X9_firstDirection : GoodIn wsX9_signDirection (wsV RX9 81 RX9 yX9_firstDirection wsX9_firstDirection) := goodIn_app (goodIn_of _ (by decide +kernel)) ggX9_signDirection_X9_firstDirection
set_option maxRecDepth 20000 in
theorem ggX9_signDirection_X9_openBehind : GoodIn wsX9_signDirection wsX9_openBehind := goodIn_r _ [40, 18, 19, 20, 4, 21, 6, 22, 8, 9, 10, 11, 12, 13, 41, 42, 43, 44, 45, 46, 47, 48, 49] (by decide +kernel) (by decide +kernel)
set_option maxRecDepth 20000 in
theorem gX9_signDirection_X9_openBehind : GoodIn wsX9_signDirection (wsV RX9 109 RX9 yX9_openBehind wsX9_openBehind) := goodIn_app (goodIn_of _ (by decide +kernel)) ggX9_signDirection_X9_openBehind
theorem dX9_signDirection_0 : decode cX9_signDirection 0 = .ok (.aload_n 1, 1) := by decide +kernel
theorem dX9_signDirection_1 : decode cX9_signDirection 1 = .ok (.iload_n 2, 1) := by decide +kernel
theorem dX9_signDirection_2 : decode cX9_signDirection 2 = .ok (.invokevirtual 103, 3) := by decide +kernel
theorem dX9_signDirection_5 : decode cX9_signDirection 5 = .ok (.istore_n 3, 1) := by decide +kernel
theorem dX9_signDirection_6 : decode cX9_signDirection 6 = .ok (.iload_n 3, 1) := by decide +kernel
theorem dX9_signDirection_7 : decode cX9_signDirection 7 = .ok (.iconst 2, 1) := by decide +kernel
theorem dX9_signDirection_8 : decode cX9_signDirection 8 = .ok (.if_icmp .ne 27, 3) := by decide +kernel
theorem dX9_signDirection_11 : decode cX9_signDirection 11 = .ok (.aload_n 1, 1) := by decide +kernel
theorem dX9_signDirection_12 : decode cX9_signDirection 12 = .ok (.iload_n 2, 1) := by decide +kernel
theorem dX9_signDirection_13 : decode cX9_signDirection 13 = .ok (.invokevirtual 106, 3) := by decide +kernel
theorem dX9_signDirection_16 : decode cX9_signDirection 16 = .ok (.istore 4, 2) := by decide +kernel
theorem dX9_signDirection_18 : decode cX9_signDirection 18 = .ok (.aload_n 1, 1) := by decide +kernel
theorem dX9_signDirection_19 : decode cX9_signDirection 19 = .ok (.iload_n 2, 1) := by decide +kernel
theorem dX9_signDirection_20 : decode cX9_signDirection 20 = .ok (.iload 4, 2) := by decide +kernel
theorem dX9_signDirection_22 : decode cX9_signDirection 22 = .ok (.invokevirtual 41, 3) := by decide +kernel
theorem dX9_signDirection_25 : decode cX9_signDirection 25 = .ok (.ifCond .eq 8, 3) := by decide +kernel
theorem dX9_signDirection_28 : decode cX9_signDirection 28 = .ok (.iload 4, 2) := by decide +kernel
theorem dX9_signDirection_30 : decode cX9_signDirection 30 = .ok (.goto 4, 3) := by decide +kernel
theorem dX9_signDirection_33 : decode cX9_signDirection 33 = .ok (.iconst (-1), 1) := by decide +kernel
theorem dX9_signDirection_34 : decode cX9_signDirection 34 = .ok (.ireturn, 1) := by decide +kernel
theorem dX9_signDirection_35 : decode cX9_signDirection 35 = .ok (.aload_n 0, 1) := by decide +kernel
theorem dX9_signDirection_36 : decode cX9_signDirection 36 = .ok (.aload_n 1, 1) := by decide +kernel
theorem dX9_signDirection_37 : decode cX9_signDirection 37 = .ok (.iload_n 2, 1) := by decide +kernel
theorem dX9_signDirection_38 : decode cX9_signDirection 38 = .ok (.invokevirtual 81, 3) := by decide +kernel
theorem dX9_signDirection_41 : decode cX9_signDirection 41 = .ok (.istore 4, 2) := by decide +kernel
theorem dX9_signDirection_43 : decode cX9_signDirection 43 = .ok (.iload 4, 2) := by decide +kernel
theorem dX9_signDirection_45 : decode cX9_signDirection 45 = .ok (.iconst (-1), 1) := by decide +kernel
theorem dX9_signDirection_46 : decode cX9_signDirection 46 = .ok (.if_icmp .eq 7, 3) := by decide +kernel
theorem dX9_signDirection_49 : decode cX9_signDirection 49 = .ok (.iload_n 3, 1) := by decide +kernel
theorem dX9_signDirection_50 : decode cX9_signDirection 50 = .ok (.ifCond .ne 8, 3) := by decide +kernel
theorem dX9_signDirection_53 : decode cX9_signDirection 53 = .ok (.iload 4, 2) := by decide +kernel
theorem dX9_signDirection_55 : decode cX9_signDirection 55 = .ok (.goto 11, 3) := by decide +kernel
theorem dX9_signDirection_58 : decode cX9_signDirection 58 = .ok (.aload_n 0, 1) := by decide +kernel
theorem dX9_signDirection_59 : decode cX9_signDirection 59 = .ok (.aload_n 1, 1) := by decide +kernel
theorem dX9_signDirection_60 : decode cX9_signDirection 60 = .ok (.iload_n 2, 1) := by decide +kernel
theorem dX9_signDirection_61 : decode cX9_signDirection 61 = .ok (.iload 4, 2) := by decide +kernel
theorem dX9_signDirection_63 : decode cX9_signDirection 63 = .ok (.invokevirtual 109, 3) := by decide +kernel
theorem dX9_signDirection_66 : decode cX9_signDirection 66 = .ok (.ireturn, 1) := by decide +kernel
set_option maxRecDepth 20000 in
theorem ggX9_openBehind_X1_isOpen : GoodIn wsX9_openBehind wsX1_isOpen := goodIn_r _ [5, 6, 7, 8, 9, 10, 11, 12, 13, 14, 15, 16, 17, 18, 19, 20, 21, 22] (by decide +kernel) (by decide +kernel)
set_option maxRecDepth 20000 in
theorem gX9_openBehind_X1_isOpen : GoodIn wsX9_openBehind (wsV RX9 41 RX1 yX1_isOpen wsX1_isOpen) := goodIn_app (goodIn_of _ (by decide +kernel)) ggX9_openBehind_X1_isOpen
theorem dX9_openBehind_0 : decode cX9_openBehind 0 = .ok (.iconst 1, 1) := by decide +kernel
theorem dX9_openBehind_1 : decode cX9_openBehind 1 = .ok (.istore 4, 2) := by decide +kernel
theorem dX9_openBehind_3 : decode cX9_openBehind 3 = .ok (.iload 4, 2) := by decide +kernel
theorem dX9_openBehind_5 : decode cX9_openBehind 5 = .ok (.iconst 4, 1) := by decide +kernel
theorem dX9_openBehind_6 : decode cX9_openBehind 6 = .ok (.if_icmp .ge 30, 3) := by decide +kernel
theorem dX9_openBehind_9 : decode cX9_openBehind 9 = .ok (.iload_n 3, 1) := by decide +kernel
theorem dX9_openBehind_10 : decode cX9_openBehind 10 = .ok (.iload 4, 2) := by decide +kernel
theorem dX9_openBehind_12 : decode cX9_openBehind 12 = .ok (.iadd, 1) := by decide +kernel
theorem dX9_openBehind_13 : decode cX9_openBehind 13 = .ok (.iconst 4, 1) := by decide +kernel
theorem dX9_openBehind_14 : decode cX9_openBehind 14 = .ok (.irem, 1) := by decide +kernel
theorem dX9_openBehind_15 : decode cX9_openBehind 15 = .ok (.istore 5, 2) := by decide +kernel
theorem dX9_openBehind_17 : decode cX9_openBehind 17 = .ok (.aload_n 1, 1) := by decide +kernel
theorem dX9_openBehind_18 : decode cX9_openBehind 18 = .ok (.iload_n 2, 1) := by decide +kernel
theorem dX9_openBehind_19 : decode cX9_openBehind 19 = .ok (.iload 5, 2) := by decide +kernel
theorem dX9_openBehind_21 : decode cX9_openBehind 21 = .ok (.invokevirtual 41, 3) := by decide +kernel
theorem dX9_openBehind_24 : decode cX9_openBehind 24 = .ok (.ifCond .eq 6, 3) := by decide +kernel
theorem dX9_openBehind_27 : decode cX9_openBehind 27 = .ok (.iload 5, 2) := by decide +kernel
theorem dX9_openBehind_29 : decode cX9_openBehind 29 = .ok (.ireturn, 1) := by decide +kernel
theorem dX9_openBehind_30 : decode cX9_openBehind 30 = .ok (.iinc 4 1, 3) := by decide +kernel
theorem dX9_openBehind_33 : decode cX9_openBehind 33 = .ok (.goto (-30), 3) := by decide +kernel
theorem dX9_openBehind_36 : decode cX9_openBehind 36 = .ok (.iload_n 3, 1) := by decide +kernel
theorem dX9_openBehind_37 : decode cX9_openBehind 37 = .ok (.ireturn, 1) := by decide +kernel
set_option maxRecDepth 20000 in
theorem ggX10_init_X1_init : GoodIn wsX10_init wsX1_init := goodIn_r _ [36, 37, 2, 3, 38, 39, 40, 41, 42, 43, 44, 45, 46, 47, 48, 49, 50, 51, 52, 53, 54, 55, 56, 57, 58, 59, 60, 61, 62, 63, 64, 65, 66, 67, 68, 69, 70, 300, 301, 302, 303, 304, 305, 263, 264, 294, 295, 296, 297, 298, 299, 306] (by decide +kernel) (by decide +kernel)
set_option maxRecDepth 20000 in
theorem gX10_init_X1_init_n11 : GoodIn wsX10_init (wsX1_init) := ggX10_init_X1_init
set_option maxRecDepth 20000 in
theorem ggX10_init_X0_init : GoodIn wsX10_init wsX0_init := goodIn_r _ [73, 74, 2, 3, 75, 76, 43, 44, 63, 64, 65, 66, 50, 51, 67, 68, 69, 70, 54, 55, 56, 57, 58, 59, 60, 61, 62, 272, 273, 294, 295, 296, 297, 298, 299, 306] (by decide +kernel) (by decide +kernel)
set_option maxRecDepth 20000 in
theorem gX10_init_X0_init : GoodIn wsX10_init (wsX0_init) := ggX10_init_X0_init
set_option maxRecDepth 20000 in
theorem ggX10_init_X3_init : GoodIn wsX10_init wsX3_init := goodIn_r _ [78, 79, 2, 3, 80, 50, 51, 81, 82, 83, 54, 55, 56, 57, 58, 59, 60, 61, 62, 306, 274, 275, 276] (by decide +kernel) (by decide +kernel)
set_option maxRecDepth 20000 in
theorem gX10_init_X3_init_n25 : GoodIn wsX10_init (wsX3_init) := ggX10_init_X3_init
set_option maxRecDepth 20000 in
theorem ggX10_init_X9_init : GoodIn wsX10_init wsX9_init := goodIn_r _ [85, 86, 2, 3, 87, 50, 51, 88, 89, 90, 91, 54, 55, 56, 57, 58, 59, 60, 61, 62, 306, 277, 278, 279, 280, 281, 282, 283] (by decide +kernel) (by decide +kernel)
set_option maxRecDepth 20000 in
theorem gX10_init_X9_init_n32 : GoodIn wsX10_init (wsX9_init) := ggX10_init_X9_init
set_option maxRecDepth 20000 in
theorem ggX10_init_X8_init : GoodIn wsX10_init wsX8_init := goodIn_r _ [93, 94, 2, 3, 95, 50, 51, 96, 97, 54, 55, 56, 57, 58, 59, 60, 61, 62, 306, 284, 285, 286, 287, 288] (by decide +kernel) (by decide +kernel)
set_option maxRecDepth 20000 in
theorem gX10_init_X8_init_n39 : GoodIn wsX10_init (wsX8_init) := ggX10_init_X8_init
set_option maxRecDepth 20000 in
theorem ggX10_init_X7_init : GoodIn wsX10_init wsX7_init := goodIn_r _ [99, 100, 2, 3, 101, 50, 51, 102, 103, 54, 55, 56, 57, 58, 59, 60, 61, 62, 306, 289, 290] (by decide +kernel) (by decide +kernel)
set_option maxRecDepth 20000 in
theorem gX10_init_X7_init_n46 : GoodIn wsX10_init (wsX7_init) := ggX10_init_X7_init
set_option maxRecDepth 20000 in
theorem ggX10_init_X2_init : GoodIn wsX10_init wsX2_init := goodIn_r _ [105, 106, 2, 3] (by decide +kernel) (by decide +kernel)
set_option maxRecDepth 20000 in
theorem gX10_init_X2_init_n53 : GoodIn wsX10_init (wsX2_init) := ggX10_init_X2_init
set_option maxRecDepth 20000 in
theorem ggX10_init_X4_put : GoodIn wsX10_init wsX4_put := goodIn_r _ [110, 62, 306] (by decide +kernel) (by decide +kernel)
set_option maxRecDepth 20000 in
theorem gX10_init_X4_put : GoodIn wsX10_init (wsV RX10 68 RX4 yX4_put wsX4_put) := goodIn_app (goodIn_of _ (by decide +kernel)) ggX10_init_X4_put
set_option maxRecDepth 20000 in
theorem ggX10_init_X1_beginAnew : GoodIn wsX10_init wsX1_beginAnew := goodIn_r _ [114, 41, 45, 115, 116, 117, 118, 119, 120, 121, 122, 40, 123, 124, 125, 126, 52, 127, 128, 129, 130, 51, 131, 62, 132, 133, 134, 135, 136, 137, 138, 139, 140, 141, 142, 143, 144, 145, 146, 147, 148, 149, 150, 151, 152, 153, 154, 155, 156, 157, 158, 159, 160, 161, 162, 163, 164, 165, 166, 167, 168, 169, 170, 171, 172, 173, 174, 175, 58, 59, 60, 176, 177, 178, 179, 180, 181, 182, 183, 184, 185, 186, 187, 188, 189, 190, 191, 192, 193, 194, 195, 196, 197, 198, 199, 200, 201, 202, 203, 204, 205, 206, 207, 208, 209, 210, 211, 212, 213, 214, 215, 216, 217, 218, 219, 220, 221, 222, 223, 224, 225, 226, 227, 228, 229, 230, 231, 232, 233, 108, 109, 110, 234, 235, 236, 237, 238, 239, 240, 241, 242, 243, 244, 245, 246, 247, 248, 249, 250, 251, 252, 253, 254, 255, 256, 257, 258, 259, 260, 261, 262, 263, 264, 294, 295, 296, 297, 298, 299, 300, 301, 302, 303, 304, 305, 306] (by decide +kernel) (by decide +kernel)
set_option maxRecDepth 20000 in
theorem gX10_init_X1_beginAnew : GoodIn wsX10_init (wsV RX10 78 RX1 yX1_beginAnew wsX1_beginAnew) := goodIn_app (goodIn_of _ (by decide +kernel)) ggX10_init_X1_beginAnew
theorem dX10_init_0 : decode cX10_init 0 = .ok (.aload_n 0, 1) := by decide +kernel
theorem dX10_init_1 : decode cX10_init 1 = .ok (.invokespecial 3, 3) := by decide +kernel
theorem dX10_init_4 : decode cX10_init 4 = .ok (.aload_n 0, 1) := by decide +kernel
theorem dX10_init_5 : decode cX10_init 5 = .ok (.new 9, 3) := by decide +kernel
theorem dX10_init_8 : decode cX10_init 8 = .ok (.dup, 1) := by decide +kernel
theorem dX10_init_9 : decode cX10_init 9 = .ok (.invokespecial 11, 3) := by decide +kernel
theorem dX10_init_12 : decode cX10_init 12 = .ok (.putfield 12, 3) := by decide +kernel
theorem dX10_init_15 : decode cX10_init 15 = .ok (.aload_n 0, 1) := by decide +kernel
theorem dX10_init_16 : decode cX10_init 16 = .ok (.new 16, 3) := by decide +kernel
theorem dX10_init_19 : decode cX10_init 19 = .ok (.dup, 1) := by decide +kernel
theorem dX10_init_20 : decode cX10_init 20 = .ok (.invokespecial 18, 3) := by decide +kernel
theorem dX10_init_23 : decode cX10_init 23 = .ok (.putfield 19, 3) := by decide +kernel
theorem dX10_init_26 : decode cX10_init 26 = .ok (.aload_n 0, 1) := by decide +kernel
theorem dX10_init_27 : decode cX10_init 27 = .ok (.new 23, 3) := by decide +kernel
theorem dX10_init_30 : decode cX10_init 30 = .ok (.dup, 1) := by decide +kernel
theorem dX10_init_31 : decode cX10_init 31 = .ok (.invokespecial 25, 3) := by decide +kernel
theorem dX10_init_34 : decode cX10_init 34 = .ok (.putfield 26, 3) := by decide +kernel
theorem dX10_init_37 : decode cX10_init 37 = .ok (.aload_n 0, 1) := by decide +kernel
theorem dX10_init_38 : decode cX10_init 38 = .ok (.new 30, 3) := by decide +kernel
theorem dX10_init_41 : decode cX10_init 41 = .ok (.dup, 1) := by decide +kernel
theorem dX10_init_42 : decode cX10_init 42 = .ok (.invokespecial 32, 3) := by decide +kernel
theorem dX10_init_45 : decode cX10_init 45 = .ok (.putfield 33, 3) := by decide +kernel
theorem dX10_init_48 : decode cX10_init 48 = .ok (.aload_n 0, 1) := by decide +kernel
theorem dX10_init_49 : decode cX10_init 49 = .ok (.new 37, 3) := by decide +kernel
theorem dX10_init_52 : decode cX10_init 52 = .ok (.dup, 1) := by decide +kernel
theorem dX10_init_53 : decode cX10_init 53 = .ok (.invokespecial 39, 3) := by decide +kernel
theorem dX10_init_56 : decode cX10_init 56 = .ok (.putfield 40, 3) := by decide +kernel
theorem dX10_init_59 : decode cX10_init 59 = .ok (.aload_n 0, 1) := by decide +kernel
theorem dX10_init_60 : decode cX10_init 60 = .ok (.new 44, 3) := by decide +kernel
theorem dX10_init_63 : decode cX10_init 63 = .ok (.dup, 1) := by decide +kernel
theorem dX10_init_64 : decode cX10_init 64 = .ok (.invokespecial 46, 3) := by decide +kernel
theorem dX10_init_67 : decode cX10_init 67 = .ok (.putfield 47, 3) := by decide +kernel
theorem dX10_init_70 : decode cX10_init 70 = .ok (.aload_n 0, 1) := by decide +kernel
theorem dX10_init_71 : decode cX10_init 71 = .ok (.new 51, 3) := by decide +kernel
theorem dX10_init_74 : decode cX10_init 74 = .ok (.dup, 1) := by decide +kernel
theorem dX10_init_75 : decode cX10_init 75 = .ok (.invokespecial 53, 3) := by decide +kernel
theorem dX10_init_78 : decode cX10_init 78 = .ok (.putfield 54, 3) := by decide +kernel
theorem dX10_init_81 : decode cX10_init 81 = .ok (.aload_n 0, 1) := by decide +kernel
theorem dX10_init_82 : decode cX10_init 82 = .ok (.getfield 12, 3) := by decide +kernel
theorem dX10_init_85 : decode cX10_init 85 = .ok (.getfield 58, 3) := by decide +kernel
theorem dX10_init_88 : decode cX10_init 88 = .ok (.getfield 62, 3) := by decide +kernel
theorem dX10_init_91 : decode cX10_init 91 = .ok (.iconst 0, 1) := by decide +kernel
theorem dX10_init_92 : decode cX10_init 92 = .ok (.bipush 72, 2) := by decide +kernel
theorem dX10_init_94 : decode cX10_init 94 = .ok (.invokevirtual 68, 3) := by decide +kernel
theorem dX10_init_97 : decode cX10_init 97 = .ok (.aload_n 0, 1) := by decide +kernel
theorem dX10_init_98 : decode cX10_init 98 = .ok (.getfield 12, 3) := by decide +kernel
theorem dX10_init_101 : decode cX10_init 101 = .ok (.getfield 58, 3) := by decide +kernel
theorem dX10_init_104 : decode cX10_init 104 = .ok (.getfield 62, 3) := by decide +kernel
theorem dX10_init_107 : decode cX10_init 107 = .ok (.iconst 1, 1) := by decide +kernel
theorem dX10_init_108 : decode cX10_init 108 = .ok (.bipush 73, 2) := by decide +kernel
theorem dX10_init_110 : decode cX10_init 110 = .ok (.invokevirtual 68, 3) := by decide +kernel
theorem dX10_init_113 : decode cX10_init 113 = .ok (.aload_n 0, 1) := by decide +kernel
theorem dX10_init_114 : decode cX10_init 114 = .ok (.getfield 12, 3) := by decide +kernel
theorem dX10_init_117 : decode cX10_init 117 = .ok (.getfield 58, 3) := by decide +kernel
theorem dX10_init_120 : decode cX10_init 120 = .ok (.iconst 2, 1) := by decide +kernel
theorem dX10_init_121 : decode cX10_init 121 = .ok (.putfield 74, 3) := by decide +kernel
theorem dX10_init_124 : decode cX10_init 124 = .ok (.aload_n 0, 1) := by decide +kernel
theorem dX10_init_125 : decode cX10_init 125 = .ok (.getfield 12, 3) := by decide +kernel
theorem dX10_init_128 : decode cX10_init 128 = .ok (.invokevirtual 78, 3) := by decide +kernel
theorem dX10_init_131 : decode cX10_init 131 = .ok (.return_, 1) := by decide +kernel
set_option maxRecDepth 20000 in
theorem ggX10_word_X7_isWord : GoodIn wsX10_word wsX7_isWord := goodIn_r _ [15, 16, 17, 18, 19, 20, 21, 22, 23, 24, 25, 26, 27, 28, 29, 30, 31, 32, 33, 34, 35, 36, 37, 38, 39, 40, 41, 42, 43, 44, 45, 46, 47, 48, 49, 50, 51, 52, 53, 54, 55, 56, 57, 58, 59, 60, 61, 62, 63, 64, 65, 66, 67, 68, 69, 70, 71, 72, 73, 74, 75, 76, 77, 78, 79, 80, 81, 82, 83, 84, 85, 86, 87, 88, 89, 90, 91, 92, 93, 94, 95, 96, 97, 98, 99, 100, 101, 102, 103, 104, 105, 106, 107, 108, 109, 110, 111, 112, 236, 237, 244] (by decide +kernel) (by decide +kernel)
set_option maxRecDepth 20000 in
theorem gX10_word_X7_isWord : GoodIn wsX10_word (wsV RX10 81 RX7 yX7_isWord wsX7_isWord) := goodIn_app (goodIn_of _ (by decide +kernel)) ggX10_word_X7_isWord
set_option maxRecDepth 20000 in
theorem ggX10_word_X0_keep : GoodIn wsX10_word wsX0_keep := goodIn_r _ [117, 118, 119, 120, 121, 122, 116, 123, 124, 125, 126, 127, 128, 129, 130, 131, 132, 133, 134, 135, 136, 137, 138, 139, 140, 141, 21, 142, 23, 143, 57, 54, 58, 144, 145, 146, 147, 245, 246, 230, 231, 232, 233, 234, 235, 244] (by decide +kernel) (by decide +kernel)
set_option maxRecDepth 20000 in
theorem gX10_word_X0_keep : GoodIn wsX10_word (wsV RX10 85 RX0 yX0_keep wsX0_keep) := goodIn_app (goodIn_of _ (by decide +kernel)) ggX10_word_X0_keep
set_option maxRecDepth 20000 in
theorem ggX10_word_X4_take : GoodIn wsX10_word wsX4_take := goodIn_r _ [142, 23, 143, 57, 54, 58, 144, 145, 146, 147, 244] (by decide +kernel) (by decide +kernel)
set_option maxRecDepth 20000 in
theorem gX10_word_X4_take : GoodIn wsX10_word (wsV RX10 92 RX4 yX4_take wsX4_take) := goodIn_app (goodIn_of _ (by decide +kernel)) ggX10_word_X4_take
set_option maxRecDepth 20000 in
theorem ggX10_word_X1_beginAnew : GoodIn wsX10_word wsX1_beginAnew := goodIn_r _ [153, 154, 155, 156, 157, 158, 159, 160, 161, 162, 163, 164, 165, 166, 167, 168, 169, 170, 171, 172, 173, 21, 174, 23, 175, 176, 177, 178, 179, 19, 20, 22, 180, 181, 182, 183, 184, 185, 186, 187, 25, 26, 27, 28, 29, 30, 31, 32, 33, 34, 35, 36, 37, 38, 39, 40, 41, 42, 43, 44, 45, 46, 47, 48, 49, 50, 51, 52, 53, 54, 55, 56, 57, 58, 59, 60, 61, 62, 63, 64, 65, 66, 67, 68, 69, 70, 71, 72, 73, 74, 75, 76, 77, 78, 79, 80, 81, 82, 83, 84, 85, 86, 87, 88, 89, 90, 91, 92, 93, 94, 95, 96, 97, 98, 99, 100, 101, 102, 103, 104, 105, 106, 107, 108, 109, 110, 111, 112, 188, 189, 190, 191, 192, 193, 194, 195, 196, 197, 198, 199, 200, 201, 202, 203, 204, 205, 206, 207, 208, 209, 210, 211, 212, 213, 214, 215, 216, 217, 218, 219, 220, 228, 229, 230, 231, 232, 233, 234, 235, 238, 239, 240, 241, 242, 243, 244] (by decide +kernel) (by decide +kernel)
set_option maxRecDepth 20000 in
theorem gX10_word_X1_beginAnew : GoodIn wsX10_word (wsV RX10 78 RX1 yX1_beginAnew wsX1_beginAnew) := goodIn_app (goodIn_of _ (by decide +kernel)) ggX10_word_X1_beginAnew
theorem dX10_word_0 : decode cX10_word 0 = .ok (.aload_n 0, 1) := by decide +kernel
theorem dX10_word_1 : decode cX10_word 1 = .ok (.getfield 47, 3) := by decide +kernel
theorem dX10_word_4 : decode cX10_word 4 = .ok (.invokevirtual 81, 3) := by decide +kernel
theorem dX10_word_7 : decode cX10_word 7 = .ok (.ifCond .ne 6, 3) := by decide +kernel
theorem dX10_word_10 : decode cX10_word 10 = .ok (.bipush (-2), 2) := by decide +kernel
theorem dX10_word_12 : decode cX10_word 12 = .ok (.ireturn, 1) := by decide +kernel
theorem dX10_word_13 : decode cX10_word 13 = .ok (.aload_n 0, 1) := by decide +kernel
theorem dX10_word_14 : decode cX10_word 14 = .ok (.getfield 19, 3) := by decide +kernel
theorem dX10_word_17 : decode cX10_word 17 = .ok (.aload_n 0, 1) := by decide +kernel
theorem dX10_word_18 : decode cX10_word 18 = .ok (.getfield 12, 3) := by decide +kernel
theorem dX10_word_21 : decode cX10_word 21 = .ok (.getfield 58, 3) := by decide +kernel
theorem dX10_word_24 : decode cX10_word 24 = .ok (.invokevirtual 85, 3) := by decide +kernel
theorem dX10_word_27 : decode cX10_word 27 = .ok (.aload_n 0, 1) := by decide +kernel
theorem dX10_word_28 : decode cX10_word 28 = .ok (.getfield 12, 3) := by decide +kernel
theorem dX10_word_31 : decode cX10_word 31 = .ok (.getfield 58, 3) := by decide +kernel
theorem dX10_word_34 : decode cX10_word 34 = .ok (.getfield 62, 3) := by decide +kernel
theorem dX10_word_37 : decode cX10_word 37 = .ok (.aload_n 0, 1) := by decide +kernel
theorem dX10_word_38 : decode cX10_word 38 = .ok (.getfield 47, 3) := by decide +kernel
theorem dX10_word_41 : decode cX10_word 41 = .ok (.getfield 89, 3) := by decide +kernel
theorem dX10_word_44 : decode cX10_word 44 = .ok (.invokevirtual 92, 3) := by decide +kernel
theorem dX10_word_47 : decode cX10_word 47 = .ok (.aload_n 0, 1) := by decide +kernel
theorem dX10_word_48 : decode cX10_word 48 = .ok (.getfield 12, 3) := by decide +kernel
theorem dX10_word_51 : decode cX10_word 51 = .ok (.getfield 58, 3) := by decide +kernel
theorem dX10_word_54 : decode cX10_word 54 = .ok (.aload_n 0, 1) := by decide +kernel
theorem dX10_word_55 : decode cX10_word 55 = .ok (.getfield 47, 3) := by decide +kernel
theorem dX10_word_58 : decode cX10_word 58 = .ok (.getfield 96, 3) := by decide +kernel
theorem dX10_word_61 : decode cX10_word 61 = .ok (.putfield 74, 3) := by decide +kernel
theorem dX10_word_64 : decode cX10_word 64 = .ok (.aload_n 0, 1) := by decide +kernel
theorem dX10_word_65 : decode cX10_word 65 = .ok (.getfield 12, 3) := by decide +kernel
theorem dX10_word_68 : decode cX10_word 68 = .ok (.invokevirtual 78, 3) := by decide +kernel
theorem dX10_word_71 : decode cX10_word 71 = .ok (.aload_n 0, 1) := by decide +kernel
theorem dX10_word_72 : decode cX10_word 72 = .ok (.getfield 12, 3) := by decide +kernel
theorem dX10_word_75 : decode cX10_word 75 = .ok (.getfield 99, 3) := by decide +kernel
theorem dX10_word_78 : decode cX10_word 78 = .ok (.getfield 103, 3) := by decide +kernel
theorem dX10_word_81 : decode cX10_word 81 = .ok (.ireturn, 1) := by decide +kernel
set_option maxRecDepth 20000 in
theorem ggX10_letterOf_X5_holds : GoodIn wsX10_letterOf wsX5_holds := goodIn_r _ [8, 9, 10, 11, 12, 13, 14, 15, 26, 27, 28, 29, 30, 31, 32] (by decide +kernel) (by decide +kernel)
set_option maxRecDepth 20000 in
theorem gX10_letterOf_X5_holds : GoodIn wsX10_letterOf (wsV RX10 108 RX5 yX5_holds wsX5_holds) := goodIn_app (goodIn_of _ (by decide +kernel)) ggX10_letterOf_X5_holds
set_option maxRecDepth 20000 in
theorem ggX10_letterOf_X4_at : GoodIn wsX10_letterOf wsX4_at := goodIn_r _ [14, 15, 32] (by decide +kernel) (by decide +kernel)
set_option maxRecDepth 20000 in
theorem gX10_letterOf_X4_at : GoodIn wsX10_letterOf (wsV RX10 115 RX4 yX4_at wsX4_at) := goodIn_app (goodIn_of _ (by decide +kernel)) ggX10_letterOf_X4_at
theorem dX10_letterOf_0 : decode cX10_letterOf 0 = .ok (.aload_n 0, 1) := by decide +kernel
theorem dX10_letterOf_1 : decode cX10_letterOf 1 = .ok (.getfield 12, 3) := by decide +kernel
theorem dX10_letterOf_4 : decode cX10_letterOf 4 = .ok (.getfield 99, 3) := by decide +kernel
theorem dX10_letterOf_7 : decode cX10_letterOf 7 = .ok (.iload_n 1, 1) := by decide +kernel
theorem dX10_letterOf_8 : decode cX10_letterOf 8 = .ok (.invokevirtual 108, 3) := by decide +kernel
theorem dX10_letterOf_11 : decode cX10_letterOf 11 = .ok (.ifCond .ne 5, 3) := by decide +kernel
theorem dX10_letterOf_14 : decode cX10_letterOf 14 = .ok (.iconst (-1), 1) := by decide +kernel
theorem dX10_letterOf_15 : decode cX10_letterOf 15 = .ok (.ireturn, 1) := by decide +kernel
theorem dX10_letterOf_16 : decode cX10_letterOf 16 = .ok (.aload_n 0, 1) := by decide +kernel
theorem dX10_letterOf_17 : decode cX10_letterOf 17 = .ok (.getfield 12, 3) := by decide +kernel
theorem dX10_letterOf_20 : decode cX10_letterOf 20 = .ok (.getfield 99, 3) := by decide +kernel
theorem dX10_letterOf_23 : decode cX10_letterOf 23 = .ok (.getfield 112, 3) := by decide +kernel
theorem dX10_letterOf_26 : decode cX10_letterOf 26 = .ok (.iload_n 1, 1) := by decide +kernel
theorem dX10_letterOf_27 : decode cX10_letterOf 27 = .ok (.invokevirtual 115, 3) := by decide +kernel
theorem dX10_letterOf_30 : decode cX10_letterOf 30 = .ok (.istore_n 2, 1) := by decide +kernel
theorem dX10_letterOf_31 : decode cX10_letterOf 31 = .ok (.iload_n 2, 1) := by decide +kernel
theorem dX10_letterOf_32 : decode cX10_letterOf 32 = .ok (.iconst 1, 1) := by decide +kernel
theorem dX10_letterOf_33 : decode cX10_letterOf 33 = .ok (.if_icmp .ne 8, 3) := by decide +kernel
theorem dX10_letterOf_36 : decode cX10_letterOf 36 = .ok (.bipush (-4), 2) := by decide +kernel
theorem dX10_letterOf_38 : decode cX10_letterOf 38 = .ok (.goto 6, 3) := by decide +kernel
theorem dX10_letterOf_41 : decode cX10_letterOf 41 = .ok (.iload_n 2, 1) := by decide +kernel
theorem dX10_letterOf_42 : decode cX10_letterOf 42 = .ok (.iconst 2, 1) := by decide +kernel
theorem dX10_letterOf_43 : decode cX10_letterOf 43 = .ok (.isub, 1) := by decide +kernel
theorem dX10_letterOf_44 : decode cX10_letterOf 44 = .ok (.ireturn, 1) := by decide +kernel
set_option maxRecDepth 20000 in
theorem ggX10_letter_X4_at : GoodIn wsX10_letter wsX4_at := goodIn_r _ [10, 11, 61] (by decide +kernel) (by decide +kernel)
set_option maxRecDepth 20000 in
theorem gX10_letter_X4_at : GoodIn wsX10_letter (wsV RX10 115 RX4 yX4_at wsX4_at) := goodIn_app (goodIn_of _ (by decide +kernel)) ggX10_letter_X4_at
set_option maxRecDepth 20000 in
theorem ggX10_letter_X5_roomsOf : GoodIn wsX10_letter wsX5_roomsOf := goodIn_r _ [16, 17, 18, 7, 8, 9, 10, 11, 62, 63, 64, 65, 66, 67, 61] (by decide +kernel) (by decide +kernel)
set_option maxRecDepth 20000 in
theorem gX10_letter_X5_roomsOf : GoodIn wsX10_letter (wsV RX10 119 RX5 yX5_roomsOf wsX5_roomsOf) := goodIn_app (goodIn_of _ (by decide +kernel)) ggX10_letter_X5_roomsOf
set_option maxRecDepth 20000 in
theorem ggX10_letter_X1_doorsBetween : GoodIn wsX10_letter wsX1_doorsBetween := goodIn_r _ [23, 24, 25, 26, 7, 8, 9, 10, 11, 27, 28, 29, 15, 30, 31, 32, 33, 34, 35, 36, 37, 38, 39, 17, 18, 40, 41, 42, 22, 43, 44, 45, 53, 54, 62, 63, 64, 65, 66, 67, 61, 55, 56, 57, 58, 59, 60] (by decide +kernel) (by decide +kernel)
set_option maxRecDepth 20000 in
theorem gX10_letter_X1_doorsBetween : GoodIn wsX10_letter (wsV RX10 122 RX1 yX1_doorsBetween wsX1_doorsBetween) := goodIn_app (goodIn_of _ (by decide +kernel)) ggX10_letter_X1_doorsBetween
theorem dX10_letter_0 : decode cX10_letter 0 = .ok (.iload_n 1, 1) := by decide +kernel
theorem dX10_letter_1 : decode cX10_letter 1 = .ok (.ifCond .lt 12, 3) := by decide +kernel
theorem dX10_letter_4 : decode cX10_letter 4 = .ok (.iload_n 2, 1) := by decide +kernel
theorem dX10_letter_5 : decode cX10_letter 5 = .ok (.ifCond .lt 8, 3) := by decide +kernel
theorem dX10_letter_8 : decode cX10_letter 8 = .ok (.iload_n 2, 1) := by decide +kernel
theorem dX10_letter_9 : decode cX10_letter 9 = .ok (.iconst 4, 1) := by decide +kernel
theorem dX10_letter_10 : decode cX10_letter 10 = .ok (.if_icmp .le 5, 3) := by decide +kernel
theorem dX10_letter_13 : decode cX10_letter 13 = .ok (.iconst (-1), 1) := by decide +kernel
theorem dX10_letter_14 : decode cX10_letter 14 = .ok (.ireturn, 1) := by decide +kernel
theorem dX10_letter_15 : decode cX10_letter 15 = .ok (.iload_n 1, 1) := by decide +kernel
theorem dX10_letter_16 : decode cX10_letter 16 = .ok (.aload_n 0, 1) := by decide +kernel
theorem dX10_letter_17 : decode cX10_letter 17 = .ok (.getfield 12, 3) := by decide +kernel
theorem dX10_letter_20 : decode cX10_letter 20 = .ok (.getfield 58, 3) := by decide +kernel
theorem dX10_letter_23 : decode cX10_letter 23 = .ok (.getfield 74, 3) := by decide +kernel
theorem dX10_letter_26 : decode cX10_letter 26 = .ok (.if_icmp .lt 6, 3) := by decide +kernel
theorem dX10_letter_29 : decode cX10_letter 29 = .ok (.bipush (-4), 2) := by decide +kernel
theorem dX10_letter_31 : decode cX10_letter 31 = .ok (.ireturn, 1) := by decide +kernel
theorem dX10_letter_32 : decode cX10_letter 32 = .ok (.iconst 2, 1) := by decide +kernel
theorem dX10_letter_33 : decode cX10_letter 33 = .ok (.iload_n 1, 1) := by decide +kernel
theorem dX10_letter_34 : decode cX10_letter 34 = .ok (.iadd, 1) := by decide +kernel
theorem dX10_letter_35 : decode cX10_letter 35 = .ok (.istore_n 3, 1) := by decide +kernel
theorem dX10_letter_36 : decode cX10_letter 36 = .ok (.iload_n 2, 1) := by decide +kernel
theorem dX10_letter_37 : decode cX10_letter 37 = .ok (.tableswitch 80 0 3 #[31, 46, 58, 69], 31) := by decide +kernel
theorem dX10_letter_68 : decode cX10_letter 68 = .ok (.aload_n 0, 1) := by decide +kernel
theorem dX10_letter_69 : decode cX10_letter 69 = .ok (.getfield 12, 3) := by decide +kernel
theorem dX10_letter_72 : decode cX10_letter 72 = .ok (.getfield 58, 3) := by decide +kernel
theorem dX10_letter_75 : decode cX10_letter 75 = .ok (.getfield 62, 3) := by decide +kernel
theorem dX10_letter_78 : decode cX10_letter 78 = .ok (.iload_n 1, 1) := by decide +kernel
theorem dX10_letter_79 : decode cX10_letter 79 = .ok (.invokevirtual 115, 3) := by decide +kernel
theorem dX10_letter_82 : decode cX10_letter 82 = .ok (.ireturn, 1) := by decide +kernel
theorem dX10_letter_83 : decode cX10_letter 83 = .ok (.aload_n 0, 1) := by decide +kernel
theorem dX10_letter_84 : decode cX10_letter 84 = .ok (.getfield 12, 3) := by decide +kernel
theorem dX10_letter_87 : decode cX10_letter 87 = .ok (.getfield 99, 3) := by decide +kernel
theorem dX10_letter_90 : decode cX10_letter 90 = .ok (.iload_n 3, 1) := by decide +kernel
theorem dX10_letter_91 : decode cX10_letter 91 = .ok (.invokevirtual 119, 3) := by decide +kernel
theorem dX10_letter_94 : decode cX10_letter 94 = .ok (.ireturn, 1) := by decide +kernel
theorem dX10_letter_95 : decode cX10_letter 95 = .ok (.aload_n 0, 1) := by decide +kernel
theorem dX10_letter_96 : decode cX10_letter 96 = .ok (.getfield 12, 3) := by decide +kernel
theorem dX10_letter_99 : decode cX10_letter 99 = .ok (.iload_n 3, 1) := by decide +kernel
theorem dX10_letter_100 : decode cX10_letter 100 = .ok (.iload_n 3, 1) := by decide +kernel
theorem dX10_letter_101 : decode cX10_letter 101 = .ok (.iconst 0, 1) := by decide +kernel
theorem dX10_letter_102 : decode cX10_letter 102 = .ok (.invokevirtual 122, 3) := by decide +kernel
theorem dX10_letter_105 : decode cX10_letter 105 = .ok (.ireturn, 1) := by decide +kernel
theorem dX10_letter_106 : decode cX10_letter 106 = .ok (.aload_n 0, 1) := by decide +kernel
theorem dX10_letter_107 : decode cX10_letter 107 = .ok (.getfield 12, 3) := by decide +kernel
theorem dX10_letter_110 : decode cX10_letter 110 = .ok (.iload_n 3, 1) := by decide +kernel
theorem dX10_letter_111 : decode cX10_letter 111 = .ok (.iload_n 3, 1) := by decide +kernel
theorem dX10_letter_112 : decode cX10_letter 112 = .ok (.iconst 1, 1) := by decide +kernel
theorem dX10_letter_113 : decode cX10_letter 113 = .ok (.invokevirtual 122, 3) := by decide +kernel
theorem dX10_letter_116 : decode cX10_letter 116 = .ok (.ireturn, 1) := by decide +kernel
theorem dX10_letter_117 : decode cX10_letter 117 = .ok (.aload_n 0, 1) := by decide +kernel
theorem dX10_letter_118 : decode cX10_letter 118 = .ok (.getfield 12, 3) := by decide +kernel
theorem dX10_letter_121 : decode cX10_letter 121 = .ok (.iload_n 3, 1) := by decide +kernel
theorem dX10_letter_122 : decode cX10_letter 122 = .ok (.iconst 1, 1) := by decide +kernel
theorem dX10_letter_123 : decode cX10_letter 123 = .ok (.iconst 1, 1) := by decide +kernel
theorem dX10_letter_124 : decode cX10_letter 124 = .ok (.invokevirtual 122, 3) := by decide +kernel
theorem dX10_letter_127 : decode cX10_letter 127 = .ok (.ireturn, 1) := by decide +kernel
set_option maxRecDepth 20000 in
theorem ggX10_isRoom_X5_holds : GoodIn wsX10_isRoom wsX5_holds := goodIn_r _ [8, 9, 10, 11, 12, 13, 14, 15, 25, 26, 27, 28, 29, 30, 31] (by decide +kernel) (by decide +kernel)
set_option maxRecDepth 20000 in
theorem gX10_isRoom_X5_holds : GoodIn wsX10_isRoom (wsV RX10 108 RX5 yX5_holds wsX5_holds) := goodIn_app (goodIn_of _ (by decide +kernel)) ggX10_isRoom_X5_holds
theorem dX10_isRoom_0 : decode cX10_isRoom 0 = .ok (.iload_n 1, 1) := by decide +kernel
theorem dX10_isRoom_1 : decode cX10_isRoom 1 = .ok (.ifCond .lt 17, 3) := by decide +kernel
theorem dX10_isRoom_4 : decode cX10_isRoom 4 = .ok (.iload_n 1, 1) := by decide +kernel
theorem dX10_isRoom_5 : decode cX10_isRoom 5 = .ok (.aload_n 0, 1) := by decide +kernel
theorem dX10_isRoom_6 : decode cX10_isRoom 6 = .ok (.getfield 12, 3) := by decide +kernel
theorem dX10_isRoom_9 : decode cX10_isRoom 9 = .ok (.getfield 99, 3) := by decide +kernel
theorem dX10_isRoom_12 : decode cX10_isRoom 12 = .ok (.getfield 126, 3) := by decide +kernel
theorem dX10_isRoom_15 : decode cX10_isRoom 15 = .ok (.if_icmp .lt 5, 3) := by decide +kernel
theorem dX10_isRoom_18 : decode cX10_isRoom 18 = .ok (.iconst (-1), 1) := by decide +kernel
theorem dX10_isRoom_19 : decode cX10_isRoom 19 = .ok (.ireturn, 1) := by decide +kernel
theorem dX10_isRoom_20 : decode cX10_isRoom 20 = .ok (.aload_n 0, 1) := by decide +kernel
theorem dX10_isRoom_21 : decode cX10_isRoom 21 = .ok (.getfield 12, 3) := by decide +kernel
theorem dX10_isRoom_24 : decode cX10_isRoom 24 = .ok (.getfield 99, 3) := by decide +kernel
theorem dX10_isRoom_27 : decode cX10_isRoom 27 = .ok (.iload_n 1, 1) := by decide +kernel
theorem dX10_isRoom_28 : decode cX10_isRoom 28 = .ok (.invokevirtual 108, 3) := by decide +kernel
theorem dX10_isRoom_31 : decode cX10_isRoom 31 = .ok (.ifCond .eq 7, 3) := by decide +kernel
theorem dX10_isRoom_34 : decode cX10_isRoom 34 = .ok (.iconst 1, 1) := by decide +kernel
theorem dX10_isRoom_35 : decode cX10_isRoom 35 = .ok (.goto 4, 3) := by decide +kernel
theorem dX10_isRoom_38 : decode cX10_isRoom 38 = .ok (.iconst 0, 1) := by decide +kernel
theorem dX10_isRoom_39 : decode cX10_isRoom 39 = .ok (.ireturn, 1) := by decide +kernel
set_option maxRecDepth 20000 in
theorem ggX10_make_X0_keep : GoodIn wsX10_make wsX0_keep := goodIn_r _ [10, 11, 12, 13, 14, 15, 9, 16, 17, 18, 19, 20, 21, 22, 23, 24, 25, 26, 27, 28, 29, 30, 31, 32, 33, 34, 35, 36, 37, 38, 39, 40, 41, 42, 43, 44, 45, 138, 139, 140, 141, 142, 143, 144, 145, 146] (by decide +kernel) (by decide +kernel)
set_option maxRecDepth 20000 in
theorem gX10_make_X0_keep : GoodIn wsX10_make (wsV RX10 85 RX0 yX0_keep wsX0_keep) := goodIn_app (goodIn_of _ (by decide +kernel)) ggX10_make_X0_keep
set_option maxRecDepth 20000 in
theorem ggX10_make_X3_openFrom : GoodIn wsX10_make wsX3_openFrom := goodIn_r _ [50, 51, 52, 53, 54, 55, 56, 57, 58, 59, 35, 60, 37, 61, 62, 63, 64, 65, 66, 67, 49, 68, 69, 70, 71, 72, 73, 74, 75, 76, 77, 78, 79, 80, 81, 82, 83, 84, 85, 86, 87, 88, 89, 90, 91, 92, 93, 94, 95, 96, 97, 98, 99, 100, 101, 102, 103, 104, 105, 106, 107, 108, 109, 110, 111, 112, 113, 114, 115, 116, 117, 118, 119, 120, 121, 122, 123, 124, 125, 126, 127, 128, 136, 137, 140, 141, 142, 143, 144, 145, 147, 148, 149, 146, 150, 151, 152, 153, 154, 155] (by decide +kernel) (by decide +kernel)
set_option maxRecDepth 20000 in
theorem gX10_make_X3_openFrom : GoodIn wsX10_make (wsV RX10 130 RX3 yX3_openFrom wsX3_openFrom) := goodIn_app (goodIn_of _ (by decide +kernel)) ggX10_make_X3_openFrom
theorem dX10_make_0 : decode cX10_make 0 = .ok (.iload_n 1, 1) := by decide +kernel
theorem dX10_make_1 : decode cX10_make 1 = .ok (.ifCond .lt 9, 3) := by decide +kernel
theorem dX10_make_4 : decode cX10_make 4 = .ok (.iload_n 1, 1) := by decide +kernel
theorem dX10_make_5 : decode cX10_make 5 = .ok (.ldc 129, 2) := by decide +kernel
theorem dX10_make_7 : decode cX10_make 7 = .ok (.if_icmp .le 5, 3) := by decide +kernel
theorem dX10_make_10 : decode cX10_make 10 = .ok (.iconst (-1), 1) := by decide +kernel
theorem dX10_make_11 : decode cX10_make 11 = .ok (.ireturn, 1) := by decide +kernel
theorem dX10_make_12 : decode cX10_make 12 = .ok (.aload_n 0, 1) := by decide +kernel
theorem dX10_make_13 : decode cX10_make 13 = .ok (.getfield 19, 3) := by decide +kernel
theorem dX10_make_16 : decode cX10_make 16 = .ok (.aload_n 0, 1) := by decide +kernel
theorem dX10_make_17 : decode cX10_make 17 = .ok (.getfield 12, 3) := by decide +kernel
theorem dX10_make_20 : decode cX10_make 20 = .ok (.getfield 58, 3) := by decide +kernel
theorem dX10_make_23 : decode cX10_make 23 = .ok (.invokevirtual 85, 3) := by decide +kernel
theorem dX10_make_26 : decode cX10_make 26 = .ok (.aload_n 0, 1) := by decide +kernel
theorem dX10_make_27 : decode cX10_make 27 = .ok (.getfield 26, 3) := by decide +kernel
theorem dX10_make_30 : decode cX10_make 30 = .ok (.aload_n 0, 1) := by decide +kernel
theorem dX10_make_31 : decode cX10_make 31 = .ok (.getfield 12, 3) := by decide +kernel
theorem dX10_make_34 : decode cX10_make 34 = .ok (.iload_n 1, 1) := by decide +kernel
theorem dX10_make_35 : decode cX10_make 35 = .ok (.invokevirtual 130, 3) := by decide +kernel
theorem dX10_make_38 : decode cX10_make 38 = .ok (.ireturn, 1) := by decide +kernel
set_option maxRecDepth 20000 in
theorem ggX10_door_X5_holds : GoodIn wsX10_door wsX5_holds := goodIn_r _ [9, 10, 11, 12, 13, 14, 15, 16, 106, 107, 108, 109, 110, 111, 112] (by decide +kernel) (by decide +kernel)
set_option maxRecDepth 20000 in
theorem gX10_door_X5_holds : GoodIn wsX10_door (wsV RX10 108 RX5 yX5_holds wsX5_holds) := goodIn_app (goodIn_of _ (by decide +kernel)) ggX10_door_X5_holds
set_option maxRecDepth 20000 in
theorem ggX10_door_X10_isDirection : GoodIn wsX10_door wsX10_isDirection := goodIn_r _ [20] (by decide +kernel) (by decide +kernel)
set_option maxRecDepth 20000 in
theorem gX10_door_X10_isDirection : GoodIn wsX10_door (va_wsS RX10 134 yX10_isDirection wsX10_isDirection) := goodIn_app (goodIn_of _ (by decide +kernel)) ggX10_door_X10_isDirection
set_option maxRecDepth 20000 in
theorem ggX10_door_X5_hasDoor : GoodIn wsX10_door wsX5_hasDoor := goodIn_r _ [24, 25, 6, 7, 8, 9, 10, 11, 12, 13, 14, 15, 16, 26, 27, 28, 29, 30, 31, 32, 33, 34, 106, 107, 108, 109, 110, 111, 112] (by decide +kernel) (by decide +kernel)
set_option maxRecDepth 20000 in
theorem gX10_door_X5_hasDoor : GoodIn wsX10_door (wsV RX10 137 RX5 yX5_hasDoor wsX5_hasDoor) := goodIn_app (goodIn_of _ (by decide +kernel)) ggX10_door_X5_hasDoor
set_option maxRecDepth 20000 in
theorem ggX10_door_X0_keep : GoodIn wsX10_door wsX0_keep := goodIn_r _ [39, 40, 41, 42, 43, 44, 38, 45, 46, 47, 48, 49, 50, 51, 52, 53, 54, 55, 56, 57, 58, 59, 60, 61, 62, 63, 14, 64, 16, 65, 66, 67, 68, 69, 70, 71, 72, 113, 114, 115, 116, 117, 118, 119, 120, 112] (by decide +kernel) (by decide +kernel)
set_option maxRecDepth 20000 in
theorem gX10_door_X0_keep : GoodIn wsX10_door (wsV RX10 85 RX0 yX0_keep wsX0_keep) := goodIn_app (goodIn_of _ (by decide +kernel)) ggX10_door_X0_keep
set_option maxRecDepth 20000 in
theorem ggX10_door_X1_isOpen : GoodIn wsX10_door wsX1_isOpen := goodIn_r _ [77, 78, 79, 80, 12, 13, 14, 15, 16, 104, 105, 115, 116, 117, 118, 119, 120, 112] (by decide +kernel) (by decide +kernel)
set_option maxRecDepth 20000 in
theorem gX10_door_X1_isOpen : GoodIn wsX10_door (wsV RX10 141 RX1 yX1_isOpen wsX1_isOpen) := goodIn_app (goodIn_of _ (by decide +kernel)) ggX10_door_X1_isOpen
set_option maxRecDepth 20000 in
theorem ggX10_door_X1_setDoor : GoodIn wsX10_door wsX1_setDoor := goodIn_r _ [84, 85, 86, 87, 88, 76, 89, 78, 79, 80, 12, 13, 14, 15, 16, 90, 91, 92, 93, 94, 32, 33, 8, 34, 30, 95, 19, 96, 104, 105, 115, 116, 117, 118, 119, 120, 112, 106, 107, 108, 109, 110, 111] (by decide +kernel) (by decide +kernel)
set_option maxRecDepth 20000 in
theorem gX10_door_X1_setDoor : GoodIn wsX10_door (wsV RX10 144 RX1 yX1_setDoor wsX1_setDoor) := goodIn_app (goodIn_of _ (by decide +kernel)) ggX10_door_X1_setDoor
theorem dX10_door_0 : decode cX10_door 0 = .ok (.aload_n 0, 1) := by decide +kernel
theorem dX10_door_1 : decode cX10_door 1 = .ok (.getfield 12, 3) := by decide +kernel
theorem dX10_door_4 : decode cX10_door 4 = .ok (.getfield 99, 3) := by decide +kernel
theorem dX10_door_7 : decode cX10_door 7 = .ok (.iload_n 1, 1) := by decide +kernel
theorem dX10_door_8 : decode cX10_door 8 = .ok (.invokevirtual 108, 3) := by decide +kernel
theorem dX10_door_11 : decode cX10_door 11 = .ok (.ifCond .eq 19, 3) := by decide +kernel
theorem dX10_door_14 : decode cX10_door 14 = .ok (.iload_n 2, 1) := by decide +kernel
theorem dX10_door_15 : decode cX10_door 15 = .ok (.invokestatic 134, 3) := by decide +kernel
theorem dX10_door_18 : decode cX10_door 18 = .ok (.ifCond .eq 12, 3) := by decide +kernel
theorem dX10_door_21 : decode cX10_door 21 = .ok (.iload_n 3, 1) := by decide +kernel
theorem dX10_door_22 : decode cX10_door 22 = .ok (.ifCond .lt 8, 3) := by decide +kernel
theorem dX10_door_25 : decode cX10_door 25 = .ok (.iload_n 3, 1) := by decide +kernel
theorem dX10_door_26 : decode cX10_door 26 = .ok (.iconst 1, 1) := by decide +kernel
theorem dX10_door_27 : decode cX10_door 27 = .ok (.if_icmp .le 5, 3) := by decide +kernel
theorem dX10_door_30 : decode cX10_door 30 = .ok (.iconst (-1), 1) := by decide +kernel
theorem dX10_door_31 : decode cX10_door 31 = .ok (.ireturn, 1) := by decide +kernel
theorem dX10_door_32 : decode cX10_door 32 = .ok (.aload_n 0, 1) := by decide +kernel
theorem dX10_door_33 : decode cX10_door 33 = .ok (.getfield 12, 3) := by decide +kernel
theorem dX10_door_36 : decode cX10_door 36 = .ok (.getfield 99, 3) := by decide +kernel
theorem dX10_door_39 : decode cX10_door 39 = .ok (.iload_n 1, 1) := by decide +kernel
theorem dX10_door_40 : decode cX10_door 40 = .ok (.iload_n 2, 1) := by decide +kernel
theorem dX10_door_41 : decode cX10_door 41 = .ok (.invokevirtual 137, 3) := by decide +kernel
theorem dX10_door_44 : decode cX10_door 44 = .ok (.ifCond .ne 6, 3) := by decide +kernel
theorem dX10_door_47 : decode cX10_door 47 = .ok (.bipush (-4), 2) := by decide +kernel
theorem dX10_door_49 : decode cX10_door 49 = .ok (.ireturn, 1) := by decide +kernel
theorem dX10_door_50 : decode cX10_door 50 = .ok (.aload_n 0, 1) := by decide +kernel
theorem dX10_door_51 : decode cX10_door 51 = .ok (.getfield 19, 3) := by decide +kernel
theorem dX10_door_54 : decode cX10_door 54 = .ok (.aload_n 0, 1) := by decide +kernel
theorem dX10_door_55 : decode cX10_door 55 = .ok (.getfield 12, 3) := by decide +kernel
theorem dX10_door_58 : decode cX10_door 58 = .ok (.getfield 58, 3) := by decide +kernel
theorem dX10_door_61 : decode cX10_door 61 = .ok (.invokevirtual 85, 3) := by decide +kernel
theorem dX10_door_64 : decode cX10_door 64 = .ok (.aload_n 0, 1) := by decide +kernel
theorem dX10_door_65 : decode cX10_door 65 = .ok (.getfield 12, 3) := by decide +kernel
theorem dX10_door_68 : decode cX10_door 68 = .ok (.iload_n 1, 1) := by decide +kernel
theorem dX10_door_69 : decode cX10_door 69 = .ok (.iload_n 2, 1) := by decide +kernel
theorem dX10_door_70 : decode cX10_door 70 = .ok (.invokevirtual 141, 3) := by decide +kernel
theorem dX10_door_73 : decode cX10_door 73 = .ok (.istore 4, 2) := by decide +kernel
theorem dX10_door_75 : decode cX10_door 75 = .ok (.aload_n 0, 1) := by decide +kernel
theorem dX10_door_76 : decode cX10_door 76 = .ok (.getfield 12, 3) := by decide +kernel
theorem dX10_door_79 : decode cX10_door 79 = .ok (.iload_n 1, 1) := by decide +kernel
theorem dX10_door_80 : decode cX10_door 80 = .ok (.iload_n 2, 1) := by decide +kernel
theorem dX10_door_81 : decode cX10_door 81 = .ok (.iload_n 3, 1) := by decide +kernel
theorem dX10_door_82 : decode cX10_door 82 = .ok (.iconst 1, 1) := by decide +kernel
theorem dX10_door_83 : decode cX10_door 83 = .ok (.if_icmp .ne 7, 3) := by decide +kernel
theorem dX10_door_86 : decode cX10_door 86 = .ok (.iconst 1, 1) := by decide +kernel
theorem dX10_door_87 : decode cX10_door 87 = .ok (.goto 4, 3) := by decide +kernel
theorem dX10_door_90 : decode cX10_door 90 = .ok (.iconst 0, 1) := by decide +kernel
theorem dX10_door_91 : decode cX10_door 91 = .ok (.invokevirtual 144, 3) := by decide +kernel
theorem dX10_door_94 : decode cX10_door 94 = .ok (.iload 4, 2) := by decide +kernel
theorem dX10_door_96 : decode cX10_door 96 = .ok (.ifCond .eq 7, 3) := by decide +kernel
theorem dX10_door_99 : decode cX10_door 99 = .ok (.iconst 1, 1) := by decide +kernel
theorem dX10_door_100 : decode cX10_door 100 = .ok (.goto 4, 3) := by decide +kernel
theorem dX10_door_103 : decode cX10_door 103 = .ok (.iconst 0, 1) := by decide +kernel
theorem dX10_door_104 : decode cX10_door 104 = .ok (.ireturn, 1) := by decide +kernel
set_option maxRecDepth 20000 in
theorem ggX10_doors_X5_holds : GoodIn wsX10_doors wsX5_holds := goodIn_r _ [9, 10, 11, 12, 13, 14, 15, 16, 33, 34, 35, 36, 37, 38, 39] (by decide +kernel) (by decide +kernel)
set_option maxRecDepth 20000 in
theorem gX10_doors_X5_holds : GoodIn wsX10_doors (wsV RX10 108 RX5 yX5_holds wsX5_holds) := goodIn_app (goodIn_of _ (by decide +kernel)) ggX10_doors_X5_holds
set_option maxRecDepth 20000 in
theorem ggX10_doors_X4_at : GoodIn wsX10_doors wsX4_at := goodIn_r _ [15, 16, 39] (by decide +kernel) (by decide +kernel)
set_option maxRecDepth 20000 in
theorem gX10_doors_X4_at : GoodIn wsX10_doors (wsV RX10 115 RX4 yX4_at wsX4_at) := goodIn_app (goodIn_of _ (by decide +kernel)) ggX10_doors_X4_at
theorem dX10_doors_0 : decode cX10_doors 0 = .ok (.aload_n 0, 1) := by decide +kernel
theorem dX10_doors_1 : decode cX10_doors 1 = .ok (.getfield 12, 3) := by decide +kernel
theorem dX10_doors_4 : decode cX10_doors 4 = .ok (.getfield 99, 3) := by decide +kernel
theorem dX10_doors_7 : decode cX10_doors 7 = .ok (.iload_n 1, 1) := by decide +kernel
theorem dX10_doors_8 : decode cX10_doors 8 = .ok (.invokevirtual 108, 3) := by decide +kernel
theorem dX10_doors_11 : decode cX10_doors 11 = .ok (.ifCond .eq 20, 3) := by decide +kernel
theorem dX10_doors_14 : decode cX10_doors 14 = .ok (.aload_n 0, 1) := by decide +kernel
theorem dX10_doors_15 : decode cX10_doors 15 = .ok (.getfield 12, 3) := by decide +kernel
theorem dX10_doors_18 : decode cX10_doors 18 = .ok (.getfield 58, 3) := by decide +kernel
theorem dX10_doors_21 : decode cX10_doors 21 = .ok (.getfield 148, 3) := by decide +kernel
theorem dX10_doors_24 : decode cX10_doors 24 = .ok (.iload_n 1, 1) := by decide +kernel
theorem dX10_doors_25 : decode cX10_doors 25 = .ok (.invokevirtual 115, 3) := by decide +kernel
theorem dX10_doors_28 : decode cX10_doors 28 = .ok (.goto 4, 3) := by decide +kernel
theorem dX10_doors_31 : decode cX10_doors 31 = .ok (.iconst (-1), 1) := by decide +kernel
theorem dX10_doors_32 : decode cX10_doors 32 = .ok (.ireturn, 1) := by decide +kernel
set_option maxRecDepth 20000 in
theorem ggX10_count_X1_openCount : GoodIn wsX10_count wsX1_openCount := goodIn_r _ [19, 20, 21, 22, 18, 23, 24, 25, 26, 27, 28, 29, 30, 31, 32, 33, 34, 35, 36, 37, 38, 126, 127, 128, 129, 130, 131, 132, 133, 144] (by decide +kernel) (by decide +kernel)
set_option maxRecDepth 20000 in
theorem gX10_count_X1_openCount : GoodIn wsX10_count (wsV RX10 157 RX1 yX1_openCount wsX1_openCount) := goodIn_app (goodIn_of _ (by decide +kernel)) ggX10_count_X1_openCount
set_option maxRecDepth 20000 in
theorem ggX10_count_X9_findParts : GoodIn wsX10_count wsX9_findParts := goodIn_r _ [43, 44, 45, 46, 47, 48, 49, 50, 29, 51, 31, 52, 53, 54, 55, 56, 57, 58, 59, 60, 61, 62, 27, 28, 30, 63, 64, 65, 66, 42, 67, 68, 69, 70, 71, 72, 73, 74, 75, 76, 77, 78, 79, 18, 80, 24, 25, 26, 81, 82, 83, 84, 85, 145, 146, 147, 148, 149, 150, 151, 126, 127, 144, 134, 135, 136, 137, 138, 139, 128, 129, 130, 131, 132, 133] (by decide +kernel) (by decide +kernel)
set_option maxRecDepth 20000 in
theorem gX10_count_X9_findParts : GoodIn wsX10_count (wsV RX10 161 RX9 yX9_findParts wsX9_findParts) := goodIn_app (goodIn_of _ (by decide +kernel)) ggX10_count_X9_findParts
set_option maxRecDepth 20000 in
theorem ggX10_count_X9_loopCount : GoodIn wsX10_count wsX9_loopCount := goodIn_r _ [89, 45, 90, 91, 16, 17, 18, 19, 20, 21, 22, 23, 24, 25, 26, 27, 28, 29, 30, 31, 32, 33, 34, 35, 36, 37, 38, 92, 40, 41, 42, 43, 44, 46, 47, 48, 49, 50, 51, 52, 53, 54, 55, 56, 57, 58, 59, 60, 61, 62, 63, 64, 65, 66, 67, 68, 69, 70, 71, 72, 73, 74, 75, 76, 77, 78, 79, 80, 81, 82, 83, 84, 85, 126, 127, 134, 135, 136, 137, 138, 139, 128, 129, 130, 131, 132, 133, 144, 145, 146, 147, 148, 149, 150, 151] (by decide +kernel) (by decide +kernel)
set_option maxRecDepth 20000 in
theorem gX10_count_X9_loopCount : GoodIn wsX10_count (wsV RX10 165 RX9 yX9_loopCount wsX9_loopCount) := goodIn_app (goodIn_of _ (by decide +kernel)) ggX10_count_X9_loopCount
set_option maxRecDepth 20000 in
theorem ggX10_count_X9_isSingle : GoodIn wsX10_count wsX9_isSingle := goodIn_r _ [96, 97, 87, 88, 42, 89, 45, 90, 91, 16, 17, 18, 19, 20, 21, 22, 23, 24, 25, 26, 27, 28, 29, 30, 31, 32, 33, 34, 35, 36, 37, 38, 92, 40, 41, 43, 44, 46, 47, 48, 49, 50, 51, 52, 53, 54, 55, 56, 57, 58, 59, 60, 61, 62, 63, 64, 65, 66, 67, 68, 69, 70, 71, 72, 73, 74, 75, 76, 77, 78, 79, 80, 81, 82, 83, 84, 85, 126, 127, 134, 135, 136, 137, 138, 139, 128, 129, 130, 131, 132, 133, 144, 145, 146, 147, 148, 149, 150, 151] (by decide +kernel) (by decide +kernel)
set_option maxRecDepth 20000 in
theorem gX10_count_X9_isSingle : GoodIn wsX10_count (wsV RX10 168 RX9 yX9_isSingle wsX9_isSingle) := goodIn_app (goodIn_of _ (by decide +kernel)) ggX10_count_X9_isSingle
set_option maxRecDepth 20000 in
theorem ggX10_count_X1_roomsWithDoors : GoodIn wsX10_count wsX1_roomsWithDoors := goodIn_r _ [101, 20, 21, 22, 18, 23, 24, 25, 26, 27, 28, 29, 30, 31, 32, 33, 34, 35, 36, 37, 38, 126, 127, 128, 129, 130, 131, 132, 133, 144] (by decide +kernel) (by decide +kernel)
set_option maxRecDepth 20000 in
theorem gX10_count_X1_roomsWithDoors : GoodIn wsX10_count (wsV RX10 172 RX1 yX1_roomsWithDoors wsX1_roomsWithDoors) := goodIn_app (goodIn_of _ (by decide +kernel)) ggX10_count_X1_roomsWithDoors
set_option maxRecDepth 20000 in
theorem ggX10_count_X1_signCount : GoodIn wsX10_count wsX1_signCount := goodIn_r _ [105, 106, 107, 108, 18, 109, 110, 111, 112, 113, 24, 114, 26, 27, 28, 29, 30, 31, 115, 116, 117, 118, 20, 21, 22, 23, 25, 32, 33, 34, 35, 36, 37, 38, 126, 127, 128, 129, 130, 131, 132, 133, 144] (by decide +kernel) (by decide +kernel)
set_option maxRecDepth 20000 in
theorem gX10_count_X1_signCount : GoodIn wsX10_count (wsV RX10 182 RX1 yX1_signCount wsX1_signCount) := goodIn_app (goodIn_of _ (by decide +kernel)) ggX10_count_X1_signCount
theorem dX10_count_0 : decode cX10_count 0 = .ok (.iload_n 1, 1) := by decide +kernel
theorem dX10_count_1 : decode cX10_count 1 = .ok (.tableswitch 251 0 15 #[79, 90, 101, 112, 123, 131, 143, 155, 175, 185, 195, 206, 217, 226, 235, 243], 79) := by decide +kernel
theorem dX10_count_80 : decode cX10_count 80 = .ok (.aload_n 0, 1) := by decide +kernel
theorem dX10_count_81 : decode cX10_count 81 = .ok (.getfield 12, 3) := by decide +kernel
theorem dX10_count_84 : decode cX10_count 84 = .ok (.getfield 58, 3) := by decide +kernel
theorem dX10_count_87 : decode cX10_count 87 = .ok (.getfield 74, 3) := by decide +kernel
theorem dX10_count_90 : decode cX10_count 90 = .ok (.ireturn, 1) := by decide +kernel
theorem dX10_count_91 : decode cX10_count 91 = .ok (.aload_n 0, 1) := by decide +kernel
theorem dX10_count_92 : decode cX10_count 92 = .ok (.getfield 12, 3) := by decide +kernel
theorem dX10_count_95 : decode cX10_count 95 = .ok (.getfield 99, 3) := by decide +kernel
theorem dX10_count_98 : decode cX10_count 98 = .ok (.getfield 151, 3) := by decide +kernel
theorem dX10_count_101 : decode cX10_count 101 = .ok (.ireturn, 1) := by decide +kernel
theorem dX10_count_102 : decode cX10_count 102 = .ok (.aload_n 0, 1) := by decide +kernel
theorem dX10_count_103 : decode cX10_count 103 = .ok (.getfield 12, 3) := by decide +kernel
theorem dX10_count_106 : decode cX10_count 106 = .ok (.getfield 99, 3) := by decide +kernel
theorem dX10_count_109 : decode cX10_count 109 = .ok (.getfield 103, 3) := by decide +kernel
theorem dX10_count_112 : decode cX10_count 112 = .ok (.ireturn, 1) := by decide +kernel
theorem dX10_count_113 : decode cX10_count 113 = .ok (.aload_n 0, 1) := by decide +kernel
theorem dX10_count_114 : decode cX10_count 114 = .ok (.getfield 12, 3) := by decide +kernel
theorem dX10_count_117 : decode cX10_count 117 = .ok (.getfield 99, 3) := by decide +kernel
theorem dX10_count_120 : decode cX10_count 120 = .ok (.getfield 154, 3) := by decide +kernel
theorem dX10_count_123 : decode cX10_count 123 = .ok (.ireturn, 1) := by decide +kernel
theorem dX10_count_124 : decode cX10_count 124 = .ok (.aload_n 0, 1) := by decide +kernel
theorem dX10_count_125 : decode cX10_count 125 = .ok (.getfield 12, 3) := by decide +kernel
theorem dX10_count_128 : decode cX10_count 128 = .ok (.invokevirtual 157, 3) := by decide +kernel
theorem dX10_count_131 : decode cX10_count 131 = .ok (.ireturn, 1) := by decide +kernel
theorem dX10_count_132 : decode cX10_count 132 = .ok (.aload_n 0, 1) := by decide +kernel
theorem dX10_count_133 : decode cX10_count 133 = .ok (.getfield 33, 3) := by decide +kernel
theorem dX10_count_136 : decode cX10_count 136 = .ok (.aload_n 0, 1) := by decide +kernel
theorem dX10_count_137 : decode cX10_count 137 = .ok (.getfield 12, 3) := by decide +kernel
theorem dX10_count_140 : decode cX10_count 140 = .ok (.invokevirtual 161, 3) := by decide +kernel
theorem dX10_count_143 : decode cX10_count 143 = .ok (.ireturn, 1) := by decide +kernel
theorem dX10_count_144 : decode cX10_count 144 = .ok (.aload_n 0, 1) := by decide +kernel
theorem dX10_count_145 : decode cX10_count 145 = .ok (.getfield 33, 3) := by decide +kernel
theorem dX10_count_148 : decode cX10_count 148 = .ok (.aload_n 0, 1) := by decide +kernel
theorem dX10_count_149 : decode cX10_count 149 = .ok (.getfield 12, 3) := by decide +kernel
theorem dX10_count_152 : decode cX10_count 152 = .ok (.invokevirtual 165, 3) := by decide +kernel
theorem dX10_count_155 : decode cX10_count 155 = .ok (.ireturn, 1) := by decide +kernel
theorem dX10_count_156 : decode cX10_count 156 = .ok (.aload_n 0, 1) := by decide +kernel
theorem dX10_count_157 : decode cX10_count 157 = .ok (.getfield 33, 3) := by decide +kernel
theorem dX10_count_160 : decode cX10_count 160 = .ok (.aload_n 0, 1) := by decide +kernel
theorem dX10_count_161 : decode cX10_count 161 = .ok (.getfield 12, 3) := by decide +kernel
theorem dX10_count_164 : decode cX10_count 164 = .ok (.invokevirtual 168, 3) := by decide +kernel
theorem dX10_count_167 : decode cX10_count 167 = .ok (.ifCond .eq 7, 3) := by decide +kernel
theorem dX10_count_170 : decode cX10_count 170 = .ok (.iconst 1, 1) := by decide +kernel
theorem dX10_count_171 : decode cX10_count 171 = .ok (.goto 4, 3) := by decide +kernel
theorem dX10_count_174 : decode cX10_count 174 = .ok (.iconst 0, 1) := by decide +kernel
theorem dX10_count_175 : decode cX10_count 175 = .ok (.ireturn, 1) := by decide +kernel
theorem dX10_count_176 : decode cX10_count 176 = .ok (.aload_n 0, 1) := by decide +kernel
theorem dX10_count_177 : decode cX10_count 177 = .ok (.getfield 12, 3) := by decide +kernel
theorem dX10_count_180 : decode cX10_count 180 = .ok (.iconst 1, 1) := by decide +kernel
theorem dX10_count_181 : decode cX10_count 181 = .ok (.iconst 1, 1) := by decide +kernel
theorem dX10_count_182 : decode cX10_count 182 = .ok (.invokevirtual 172, 3) := by decide +kernel
theorem dX10_count_185 : decode cX10_count 185 = .ok (.ireturn, 1) := by decide +kernel
theorem dX10_count_186 : decode cX10_count 186 = .ok (.aload_n 0, 1) := by decide +kernel
theorem dX10_count_187 : decode cX10_count 187 = .ok (.getfield 12, 3) := by decide +kernel
theorem dX10_count_190 : decode cX10_count 190 = .ok (.iconst 3, 1) := by decide +kernel
theorem dX10_count_191 : decode cX10_count 191 = .ok (.iconst 4, 1) := by decide +kernel
theorem dX10_count_192 : decode cX10_count 192 = .ok (.invokevirtual 172, 3) := by decide +kernel
theorem dX10_count_195 : decode cX10_count 195 = .ok (.ireturn, 1) := by decide +kernel
theorem dX10_count_196 : decode cX10_count 196 = .ok (.aload_n 0, 1) := by decide +kernel
theorem dX10_count_197 : decode cX10_count 197 = .ok (.getfield 12, 3) := by decide +kernel
theorem dX10_count_200 : decode cX10_count 200 = .ok (.getfield 58, 3) := by decide +kernel
theorem dX10_count_203 : decode cX10_count 203 = .ok (.getfield 176, 3) := by decide +kernel
theorem dX10_count_206 : decode cX10_count 206 = .ok (.ireturn, 1) := by decide +kernel
theorem dX10_count_207 : decode cX10_count 207 = .ok (.aload_n 0, 1) := by decide +kernel
theorem dX10_count_208 : decode cX10_count 208 = .ok (.getfield 12, 3) := by decide +kernel
theorem dX10_count_211 : decode cX10_count 211 = .ok (.getfield 58, 3) := by decide +kernel
theorem dX10_count_214 : decode cX10_count 214 = .ok (.getfield 179, 3) := by decide +kernel
theorem dX10_count_217 : decode cX10_count 217 = .ok (.ireturn, 1) := by decide +kernel
theorem dX10_count_218 : decode cX10_count 218 = .ok (.aload_n 0, 1) := by decide +kernel
theorem dX10_count_219 : decode cX10_count 219 = .ok (.getfield 12, 3) := by decide +kernel
theorem dX10_count_222 : decode cX10_count 222 = .ok (.iconst 0, 1) := by decide +kernel
theorem dX10_count_223 : decode cX10_count 223 = .ok (.invokevirtual 182, 3) := by decide +kernel
theorem dX10_count_226 : decode cX10_count 226 = .ok (.ireturn, 1) := by decide +kernel
theorem dX10_count_227 : decode cX10_count 227 = .ok (.aload_n 0, 1) := by decide +kernel
theorem dX10_count_228 : decode cX10_count 228 = .ok (.getfield 12, 3) := by decide +kernel
theorem dX10_count_231 : decode cX10_count 231 = .ok (.iconst 1, 1) := by decide +kernel
theorem dX10_count_232 : decode cX10_count 232 = .ok (.invokevirtual 182, 3) := by decide +kernel
theorem dX10_count_235 : decode cX10_count 235 = .ok (.ireturn, 1) := by decide +kernel
theorem dX10_count_236 : decode cX10_count 236 = .ok (.aload_n 0, 1) := by decide +kernel
theorem dX10_count_237 : decode cX10_count 237 = .ok (.getfield 19, 3) := by decide +kernel
theorem dX10_count_240 : decode cX10_count 240 = .ok (.getfield 186, 3) := by decide +kernel
theorem dX10_count_243 : decode cX10_count 243 = .ok (.ireturn, 1) := by decide +kernel
theorem dX10_count_244 : decode cX10_count 244 = .ok (.aload_n 0, 1) := by decide +kernel
theorem dX10_count_245 : decode cX10_count 245 = .ok (.getfield 47, 3) := by decide +kernel
theorem dX10_count_248 : decode cX10_count 248 = .ok (.getfield 96, 3) := by decide +kernel
theorem dX10_count_251 : decode cX10_count 251 = .ok (.ireturn, 1) := by decide +kernel
theorem dX10_count_252 : decode cX10_count 252 = .ok (.iconst (-1), 1) := by decide +kernel
theorem dX10_count_253 : decode cX10_count 253 = .ok (.ireturn, 1) := by decide +kernel
set_option maxRecDepth 20000 in
theorem ggX10_part_X5_holds : GoodIn wsX10_part wsX5_holds := goodIn_r _ [9, 10, 11, 12, 13, 14, 15, 16, 79, 80, 81, 82, 83, 84, 85] (by decide +kernel) (by decide +kernel)
set_option maxRecDepth 20000 in
theorem gX10_part_X5_holds : GoodIn wsX10_part (wsV RX10 108 RX5 yX5_holds wsX5_holds) := goodIn_app (goodIn_of _ (by decide +kernel)) ggX10_part_X5_holds
set_option maxRecDepth 20000 in
theorem ggX10_part_X9_findParts : GoodIn wsX10_part wsX9_findParts := goodIn_r _ [21, 22, 23, 24, 25, 26, 27, 28, 14, 29, 16, 30, 31, 32, 33, 34, 6, 7, 8, 9, 10, 11, 12, 13, 15, 35, 36, 37, 38, 20, 39, 40, 41, 42, 43, 44, 45, 46, 47, 48, 49, 50, 51, 52, 53, 54, 55, 56, 57, 58, 59, 60, 61, 72, 73, 74, 75, 76, 77, 78, 70, 71, 85, 79, 80, 81, 82, 83, 84, 86, 87, 88, 89, 90, 91] (by decide +kernel) (by decide +kernel)
set_option maxRecDepth 20000 in
theorem gX10_part_X9_findParts : GoodIn wsX10_part (wsV RX10 161 RX9 yX9_findParts wsX9_findParts) := goodIn_app (goodIn_of _ (by decide +kernel)) ggX10_part_X9_findParts
set_option maxRecDepth 20000 in
theorem ggX10_part_X4_at : GoodIn wsX10_part wsX4_at := goodIn_r _ [15, 16, 85] (by decide +kernel) (by decide +kernel)
set_option maxRecDepth 20000 in
theorem gX10_part_X4_at : GoodIn wsX10_part (wsV RX10 115 RX4 yX4_at wsX4_at) := goodIn_app (goodIn_of _ (by decide +kernel)) ggX10_part_X4_at
theorem dX10_part_0 : decode cX10_part 0 = .ok (.aload_n 0, 1) := by decide +kernel
theorem dX10_part_1 : decode cX10_part 1 = .ok (.getfield 12, 3) := by decide +kernel
theorem dX10_part_4 : decode cX10_part 4 = .ok (.getfield 99, 3) := by decide +kernel
theorem dX10_part_7 : decode cX10_part 7 = .ok (.iload_n 1, 1) := by decide +kernel
theorem dX10_part_8 : decode cX10_part 8 = .ok (.invokevirtual 108, 3) := by decide +kernel
theorem dX10_part_11 : decode cX10_part 11 = .ok (.ifCond .ne 5, 3) := by decide +kernel
theorem dX10_part_14 : decode cX10_part 14 = .ok (.iconst (-1), 1) := by decide +kernel
theorem dX10_part_15 : decode cX10_part 15 = .ok (.ireturn, 1) := by decide +kernel
theorem dX10_part_16 : decode cX10_part 16 = .ok (.aload_n 0, 1) := by decide +kernel
theorem dX10_part_17 : decode cX10_part 17 = .ok (.getfield 33, 3) := by decide +kernel
theorem dX10_part_20 : decode cX10_part 20 = .ok (.aload_n 0, 1) := by decide +kernel
theorem dX10_part_21 : decode cX10_part 21 = .ok (.getfield 12, 3) := by decide +kernel
theorem dX10_part_24 : decode cX10_part 24 = .ok (.invokevirtual 161, 3) := by decide +kernel
theorem dX10_part_27 : decode cX10_part 27 = .ok (.pop, 1) := by decide +kernel
theorem dX10_part_28 : decode cX10_part 28 = .ok (.aload_n 0, 1) := by decide +kernel
theorem dX10_part_29 : decode cX10_part 29 = .ok (.getfield 33, 3) := by decide +kernel
theorem dX10_part_32 : decode cX10_part 32 = .ok (.getfield 187, 3) := by decide +kernel
theorem dX10_part_35 : decode cX10_part 35 = .ok (.iload_n 1, 1) := by decide +kernel
theorem dX10_part_36 : decode cX10_part 36 = .ok (.invokevirtual 115, 3) := by decide +kernel
theorem dX10_part_39 : decode cX10_part 39 = .ok (.ireturn, 1) := by decide +kernel
set_option maxRecDepth 20000 in
theorem ggX10_start_X5_holds : GoodIn wsX10_start wsX5_holds := goodIn_r _ [10, 11, 12, 13, 14, 15, 16, 17, 71, 72, 73, 74, 75, 76, 77] (by decide +kernel) (by decide +kernel)
set_option maxRecDepth 20000 in
theorem gX10_start_X5_holds : GoodIn wsX10_start (wsV RX10 108 RX5 yX5_holds wsX5_holds) := goodIn_app (goodIn_of _ (by decide +kernel)) ggX10_start_X5_holds
set_option maxRecDepth 20000 in
theorem ggX10_start_X0_keep : GoodIn wsX10_start wsX0_keep := goodIn_r _ [22, 23, 24, 25, 26, 27, 21, 28, 29, 30, 31, 32, 33, 34, 35, 36, 37, 38, 39, 40, 41, 42, 43, 44, 45, 46, 15, 47, 17, 48, 49, 50, 51, 52, 53, 54, 55, 78, 79, 65, 66, 67, 68, 69, 70, 77] (by decide +kernel) (by decide +kernel)
set_option maxRecDepth 20000 in
theorem gX10_start_X0_keep : GoodIn wsX10_start (wsV RX10 85 RX0 yX0_keep wsX0_keep) := goodIn_app (goodIn_of _ (by decide +kernel)) ggX10_start_X0_keep
theorem dX10_start_0 : decode cX10_start 0 = .ok (.aload_n 0, 1) := by decide +kernel
theorem dX10_start_1 : decode cX10_start 1 = .ok (.getfield 12, 3) := by decide +kernel
theorem dX10_start_4 : decode cX10_start 4 = .ok (.getfield 99, 3) := by decide +kernel
theorem dX10_start_7 : decode cX10_start 7 = .ok (.iload_n 1, 1) := by decide +kernel
theorem dX10_start_8 : decode cX10_start 8 = .ok (.invokevirtual 108, 3) := by decide +kernel
theorem dX10_start_11 : decode cX10_start 11 = .ok (.ifCond .ne 5, 3) := by decide +kernel
theorem dX10_start_14 : decode cX10_start 14 = .ok (.iconst (-1), 1) := by decide +kernel
theorem dX10_start_15 : decode cX10_start 15 = .ok (.ireturn, 1) := by decide +kernel
theorem dX10_start_16 : decode cX10_start 16 = .ok (.aload_n 0, 1) := by decide +kernel
theorem dX10_start_17 : decode cX10_start 17 = .ok (.getfield 19, 3) := by decide +kernel
theorem dX10_start_20 : decode cX10_start 20 = .ok (.aload_n 0, 1) := by decide +kernel
theorem dX10_start_21 : decode cX10_start 21 = .ok (.getfield 12, 3) := by decide +kernel
theorem dX10_start_24 : decode cX10_start 24 = .ok (.getfield 58, 3) := by decide +kernel
theorem dX10_start_27 : decode cX10_start 27 = .ok (.invokevirtual 85, 3) := by decide +kernel
theorem dX10_start_30 : decode cX10_start 30 = .ok (.aload_n 0, 1) := by decide +kernel
theorem dX10_start_31 : decode cX10_start 31 = .ok (.getfield 12, 3) := by decide +kernel
theorem dX10_start_34 : decode cX10_start 34 = .ok (.getfield 58, 3) := by decide +kernel
theorem dX10_start_37 : decode cX10_start 37 = .ok (.getfield 176, 3) := by decide +kernel
theorem dX10_start_40 : decode cX10_start 40 = .ok (.istore_n 2, 1) := by decide +kernel
theorem dX10_start_41 : decode cX10_start 41 = .ok (.aload_n 0, 1) := by decide +kernel
theorem dX10_start_42 : decode cX10_start 42 = .ok (.getfield 12, 3) := by decide +kernel
theorem dX10_start_45 : decode cX10_start 45 = .ok (.getfield 58, 3) := by decide +kernel
theorem dX10_start_48 : decode cX10_start 48 = .ok (.iload_n 1, 1) := by decide +kernel
theorem dX10_start_49 : decode cX10_start 49 = .ok (.putfield 176, 3) := by decide +kernel
theorem dX10_start_52 : decode cX10_start 52 = .ok (.iload_n 2, 1) := by decide +kernel
theorem dX10_start_53 : decode cX10_start 53 = .ok (.ireturn, 1) := by decide +kernel
set_option maxRecDepth 20000 in
theorem ggX10_goal_X5_holds : GoodIn wsX10_goal wsX5_holds := goodIn_r _ [10, 11, 12, 13, 14, 15, 16, 17, 71, 72, 73, 74, 75, 76, 77] (by decide +kernel) (by decide +kernel)
set_option maxRecDepth 20000 in
theorem gX10_goal_X5_holds : GoodIn wsX10_goal (wsV RX10 108 RX5 yX5_holds wsX5_holds) := goodIn_app (goodIn_of _ (by decide +kernel)) ggX10_goal_X5_holds
set_option maxRecDepth 20000 in
theorem ggX10_goal_X0_keep : GoodIn wsX10_goal wsX0_keep := goodIn_r _ [22, 23, 24, 25, 26, 27, 21, 28, 29, 30, 31, 32, 33, 34, 35, 36, 37, 38, 39, 40, 41, 42, 43, 44, 45, 46, 15, 47, 17, 48, 49, 50, 51, 52, 53, 54, 55, 78, 79, 65, 66, 67, 68, 69, 70, 77] (by decide +kernel) (by decide +kernel)
set_option maxRecDepth 20000 in
theorem gX10_goal_X0_keep : GoodIn wsX10_goal (wsV RX10 85 RX0 yX0_keep wsX0_keep) := goodIn_app (goodIn_of _ (by decide +kernel)) ggX10_goal_X0_keep
theorem dX10_goal_0 : decode cX10_goal 0 = .ok (.aload_n 0, 1) := by decide +kernel
theorem dX10_goal_1 : decode cX10_goal 1 = .ok (.getfield 12, 3) := by decide +kernel
theorem dX10_goal_4 : decode cX10_goal 4 = .ok (.getfield 99, 3) := by decide +kernel
theorem dX10_goal_7 : decode cX10_goal 7 = .ok (.iload_n 1, 1) := by decide +kernel
theorem dX10_goal_8 : decode cX10_goal 8 = .ok (.invokevirtual 108, 3) := by decide +kernel
theorem dX10_goal_11 : decode cX10_goal 11 = .ok (.ifCond .ne 5, 3) := by decide +kernel
theorem dX10_goal_14 : decode cX10_goal 14 = .ok (.iconst (-1), 1) := by decide +kernel
theorem dX10_goal_15 : decode cX10_goal 15 = .ok (.ireturn, 1) := by decide +kernel
theorem dX10_goal_16 : decode cX10_goal 16 = .ok (.aload_n 0, 1) := by decide +kernel
theorem dX10_goal_17 : decode cX10_goal 17 = .ok (.getfield 19, 3) := by decide +kernel
theorem dX10_goal_20 : decode cX10_goal 20 = .ok (.aload_n 0, 1) := by decide +kernel
theorem dX10_goal_21 : decode cX10_goal 21 = .ok (.getfield 12, 3) := by decide +kernel
theorem dX10_goal_24 : decode cX10_goal 24 = .ok (.getfield 58, 3) := by decide +kernel
theorem dX10_goal_27 : decode cX10_goal 27 = .ok (.invokevirtual 85, 3) := by decide +kernel
theorem dX10_goal_30 : decode cX10_goal 30 = .ok (.aload_n 0, 1) := by decide +kernel
theorem dX10_goal_31 : decode cX10_goal 31 = .ok (.getfield 12, 3) := by decide +kernel
theorem dX10_goal_34 : decode cX10_goal 34 = .ok (.getfield 58, 3) := by decide +kernel
theorem dX10_goal_37 : decode cX10_goal 37 = .ok (.getfield 179, 3) := by decide +kernel
theorem dX10_goal_40 : decode cX10_goal 40 = .ok (.istore_n 2, 1) := by decide +kernel
theorem dX10_goal_41 : decode cX10_goal 41 = .ok (.aload_n 0, 1) := by decide +kernel
theorem dX10_goal_42 : decode cX10_goal 42 = .ok (.getfield 12, 3) := by decide +kernel
theorem dX10_goal_45 : decode cX10_goal 45 = .ok (.getfield 58, 3) := by decide +kernel
theorem dX10_goal_48 : decode cX10_goal 48 = .ok (.iload_n 1, 1) := by decide +kernel
theorem dX10_goal_49 : decode cX10_goal 49 = .ok (.putfield 179, 3) := by decide +kernel
theorem dX10_goal_52 : decode cX10_goal 52 = .ok (.iload_n 2, 1) := by decide +kernel
theorem dX10_goal_53 : decode cX10_goal 53 = .ok (.ireturn, 1) := by decide +kernel
set_option maxRecDepth 20000 in
theorem ggX10_distance_X5_holds : GoodIn wsX10_distance wsX5_holds := goodIn_r _ [9, 10, 11, 12, 13, 14, 15, 16, 73, 74, 75, 76, 77, 78, 79] (by decide +kernel) (by decide +kernel)
set_option maxRecDepth 20000 in
theorem gX10_distance_X5_holds : GoodIn wsX10_distance (wsV RX10 108 RX5 yX5_holds wsX5_holds) := goodIn_app (goodIn_of _ (by decide +kernel)) ggX10_distance_X5_holds
set_option maxRecDepth 20000 in
theorem ggX10_distance_X9_spread : GoodIn wsX10_distance wsX9_spread := goodIn_r _ [21, 22, 23, 24, 25, 26, 27, 28, 14, 29, 16, 30, 31, 32, 33, 34, 35, 36, 20, 37, 38, 12, 13, 15, 39, 40, 41, 42, 43, 44, 45, 46, 47, 48, 49, 50, 51, 52, 53, 8, 54, 55, 66, 67, 68, 69, 70, 71, 72, 64, 65, 79, 80, 81, 82, 83, 84, 85, 73, 74, 75, 76, 77, 78] (by decide +kernel) (by decide +kernel)
set_option maxRecDepth 20000 in
theorem gX10_distance_X9_spread : GoodIn wsX10_distance (wsV RX10 190 RX9 yX9_spread wsX9_spread) := goodIn_app (goodIn_of _ (by decide +kernel)) ggX10_distance_X9_spread
set_option maxRecDepth 20000 in
theorem ggX10_distance_X4_at : GoodIn wsX10_distance wsX4_at := goodIn_r _ [15, 16, 79] (by decide +kernel) (by decide +kernel)
set_option maxRecDepth 20000 in
theorem gX10_distance_X4_at : GoodIn wsX10_distance (wsV RX10 115 RX4 yX4_at wsX4_at) := goodIn_app (goodIn_of _ (by decide +kernel)) ggX10_distance_X4_at
theorem dX10_distance_0 : decode cX10_distance 0 = .ok (.aload_n 0, 1) := by decide +kernel
theorem dX10_distance_1 : decode cX10_distance 1 = .ok (.getfield 12, 3) := by decide +kernel
theorem dX10_distance_4 : decode cX10_distance 4 = .ok (.getfield 99, 3) := by decide +kernel
theorem dX10_distance_7 : decode cX10_distance 7 = .ok (.iload_n 1, 1) := by decide +kernel
theorem dX10_distance_8 : decode cX10_distance 8 = .ok (.invokevirtual 108, 3) := by decide +kernel
theorem dX10_distance_11 : decode cX10_distance 11 = .ok (.ifCond .eq 17, 3) := by decide +kernel
theorem dX10_distance_14 : decode cX10_distance 14 = .ok (.aload_n 0, 1) := by decide +kernel
theorem dX10_distance_15 : decode cX10_distance 15 = .ok (.getfield 12, 3) := by decide +kernel
theorem dX10_distance_18 : decode cX10_distance 18 = .ok (.getfield 99, 3) := by decide +kernel
theorem dX10_distance_21 : decode cX10_distance 21 = .ok (.iload_n 2, 1) := by decide +kernel
theorem dX10_distance_22 : decode cX10_distance 22 = .ok (.invokevirtual 108, 3) := by decide +kernel
theorem dX10_distance_25 : decode cX10_distance 25 = .ok (.ifCond .ne 5, 3) := by decide +kernel
theorem dX10_distance_28 : decode cX10_distance 28 = .ok (.iconst (-1), 1) := by decide +kernel
theorem dX10_distance_29 : decode cX10_distance 29 = .ok (.ireturn, 1) := by decide +kernel
theorem dX10_distance_30 : decode cX10_distance 30 = .ok (.aload_n 0, 1) := by decide +kernel
theorem dX10_distance_31 : decode cX10_distance 31 = .ok (.getfield 33, 3) := by decide +kernel
theorem dX10_distance_34 : decode cX10_distance 34 = .ok (.aload_n 0, 1) := by decide +kernel
theorem dX10_distance_35 : decode cX10_distance 35 = .ok (.getfield 12, 3) := by decide +kernel
theorem dX10_distance_38 : decode cX10_distance 38 = .ok (.iload_n 2, 1) := by decide +kernel
theorem dX10_distance_39 : decode cX10_distance 39 = .ok (.invokevirtual 190, 3) := by decide +kernel
theorem dX10_distance_42 : decode cX10_distance 42 = .ok (.aload_n 0, 1) := by decide +kernel
theorem dX10_distance_43 : decode cX10_distance 43 = .ok (.getfield 33, 3) := by decide +kernel
theorem dX10_distance_46 : decode cX10_distance 46 = .ok (.getfield 194, 3) := by decide +kernel
theorem dX10_distance_49 : decode cX10_distance 49 = .ok (.iload_n 1, 1) := by decide +kernel
theorem dX10_distance_50 : decode cX10_distance 50 = .ok (.invokevirtual 115, 3) := by decide +kernel
theorem dX10_distance_53 : decode cX10_distance 53 = .ok (.istore_n 3, 1) := by decide +kernel
theorem dX10_distance_54 : decode cX10_distance 54 = .ok (.iload_n 3, 1) := by decide +kernel
theorem dX10_distance_55 : decode cX10_distance 55 = .ok (.iconst (-1), 1) := by decide +kernel
theorem dX10_distance_56 : decode cX10_distance 56 = .ok (.if_icmp .ne 8, 3) := by decide +kernel
theorem dX10_distance_59 : decode cX10_distance 59 = .ok (.bipush (-4), 2) := by decide +kernel
theorem dX10_distance_61 : decode cX10_distance 61 = .ok (.goto 4, 3) := by decide +kernel
theorem dX10_distance_64 : decode cX10_distance 64 = .ok (.iload_n 3, 1) := by decide +kernel
theorem dX10_distance_65 : decode cX10_distance 65 = .ok (.ireturn, 1) := by decide +kernel
set_option maxRecDepth 20000 in
theorem ggX10_again_X5_holds : GoodIn wsX10_again wsX5_holds := goodIn_r _ [10, 11, 12, 13, 14, 15, 16, 17, 110, 111, 112, 113, 114, 115, 123] (by decide +kernel) (by decide +kernel)
set_option maxRecDepth 20000 in
theorem gX10_again_X5_holds : GoodIn wsX10_again (wsV RX10 108 RX5 yX5_holds wsX5_holds) := goodIn_app (goodIn_of _ (by decide +kernel)) ggX10_again_X5_holds
set_option maxRecDepth 20000 in
theorem ggX10_again_X9_isSingle : GoodIn wsX10_again wsX9_isSingle := goodIn_r _ [22, 23, 24, 25, 21, 26, 27, 28, 29, 30, 31, 32, 33, 34, 35, 36, 37, 38, 39, 40, 13, 14, 15, 16, 17, 41, 42, 43, 44, 45, 46, 47, 48, 49, 50, 51, 52, 53, 54, 55, 56, 57, 58, 59, 60, 61, 62, 63, 7, 8, 9, 10, 11, 12, 64, 65, 66, 67, 68, 69, 70, 71, 72, 73, 74, 75, 76, 77, 78, 79, 80, 81, 82, 83, 84, 85, 86, 108, 109, 110, 111, 112, 113, 114, 115, 124, 125, 126, 127, 128, 129, 123, 116, 117, 118, 119, 120, 121, 122] (by decide +kernel) (by decide +kernel)
set_option maxRecDepth 20000 in
theorem gX10_again_X9_isSingle : GoodIn wsX10_again (wsV RX10 168 RX9 yX9_isSingle wsX9_isSingle) := goodIn_app (goodIn_of _ (by decide +kernel)) ggX10_again_X9_isSingle
set_option maxRecDepth 20000 in
theorem ggX10_again_X9_spread : GoodIn wsX10_again wsX9_spread := goodIn_r _ [68, 69, 53, 54, 27, 55, 56, 57, 15, 58, 17, 59, 60, 61, 62, 70, 71, 72, 21, 73, 64, 13, 14, 16, 74, 75, 76, 77, 78, 79, 80, 32, 81, 38, 39, 40, 82, 83, 84, 9, 85, 86, 116, 117, 118, 119, 120, 121, 122, 108, 109, 123, 124, 125, 126, 127, 128, 129, 110, 111, 112, 113, 114, 115] (by decide +kernel) (by decide +kernel)
set_option maxRecDepth 20000 in
theorem gX10_again_X9_spread : GoodIn wsX10_again (wsV RX10 190 RX9 yX9_spread wsX9_spread) := goodIn_app (goodIn_of _ (by decide +kernel)) ggX10_again_X9_spread
set_option maxRecDepth 20000 in
theorem ggX10_again_X9_meeting : GoodIn wsX10_again wsX9_meeting := goodIn_r _ [91, 69, 64, 13, 14, 15, 16, 17, 92, 93, 94, 21, 95, 27, 96, 97, 98, 99, 78, 79, 80, 32, 81, 38, 39, 40, 82, 83, 84, 9, 85, 86, 116, 117, 118, 119, 120, 121, 122, 123, 108, 109, 124, 125, 126, 127, 128, 129, 110, 111, 112, 113, 114, 115] (by decide +kernel) (by decide +kernel)
set_option maxRecDepth 20000 in
theorem gX10_again_X9_meeting : GoodIn wsX10_again (wsV RX10 200 RX9 yX9_meeting wsX9_meeting) := goodIn_app (goodIn_of _ (by decide +kernel)) ggX10_again_X9_meeting
set_option maxRecDepth 20000 in
theorem ggX10_again_X4_at : GoodIn wsX10_again wsX4_at := goodIn_r _ [16, 17, 123] (by decide +kernel) (by decide +kernel)
set_option maxRecDepth 20000 in
theorem gX10_again_X4_at : GoodIn wsX10_again (wsV RX10 115 RX4 yX4_at wsX4_at) := goodIn_app (goodIn_of _ (by decide +kernel)) ggX10_again_X4_at
theorem dX10_again_0 : decode cX10_again 0 = .ok (.aload_n 0, 1) := by decide +kernel
theorem dX10_again_1 : decode cX10_again 1 = .ok (.getfield 12, 3) := by decide +kernel
theorem dX10_again_4 : decode cX10_again 4 = .ok (.getfield 99, 3) := by decide +kernel
theorem dX10_again_7 : decode cX10_again 7 = .ok (.iload_n 1, 1) := by decide +kernel
theorem dX10_again_8 : decode cX10_again 8 = .ok (.invokevirtual 108, 3) := by decide +kernel
theorem dX10_again_11 : decode cX10_again 11 = .ok (.ifCond .eq 17, 3) := by decide +kernel
theorem dX10_again_14 : decode cX10_again 14 = .ok (.aload_n 0, 1) := by decide +kernel
theorem dX10_again_15 : decode cX10_again 15 = .ok (.getfield 12, 3) := by decide +kernel
theorem dX10_again_18 : decode cX10_again 18 = .ok (.getfield 99, 3) := by decide +kernel
theorem dX10_again_21 : decode cX10_again 21 = .ok (.iload_n 2, 1) := by decide +kernel
theorem dX10_again_22 : decode cX10_again 22 = .ok (.invokevirtual 108, 3) := by decide +kernel
theorem dX10_again_25 : decode cX10_again 25 = .ok (.ifCond .ne 5, 3) := by decide +kernel
theorem dX10_again_28 : decode cX10_again 28 = .ok (.iconst (-1), 1) := by decide +kernel
theorem dX10_again_29 : decode cX10_again 29 = .ok (.ireturn, 1) := by decide +kernel
theorem dX10_again_30 : decode cX10_again 30 = .ok (.aload_n 0, 1) := by decide +kernel
theorem dX10_again_31 : decode cX10_again 31 = .ok (.getfield 33, 3) := by decide +kernel
theorem dX10_again_34 : decode cX10_again 34 = .ok (.aload_n 0, 1) := by decide +kernel
theorem dX10_again_35 : decode cX10_again 35 = .ok (.getfield 12, 3) := by decide +kernel
theorem dX10_again_38 : decode cX10_again 38 = .ok (.invokevirtual 168, 3) := by decide +kernel
theorem dX10_again_41 : decode cX10_again 41 = .ok (.ifCond .ne 6, 3) := by decide +kernel
theorem dX10_again_44 : decode cX10_again 44 = .ok (.bipush (-2), 2) := by decide +kernel
theorem dX10_again_46 : decode cX10_again 46 = .ok (.ireturn, 1) := by decide +kernel
theorem dX10_again_47 : decode cX10_again 47 = .ok (.aload_n 0, 1) := by decide +kernel
theorem dX10_again_48 : decode cX10_again 48 = .ok (.getfield 33, 3) := by decide +kernel
theorem dX10_again_51 : decode cX10_again 51 = .ok (.aload_n 0, 1) := by decide +kernel
theorem dX10_again_52 : decode cX10_again 52 = .ok (.getfield 12, 3) := by decide +kernel
theorem dX10_again_55 : decode cX10_again 55 = .ok (.aload_n 0, 1) := by decide +kernel
theorem dX10_again_56 : decode cX10_again 56 = .ok (.getfield 12, 3) := by decide +kernel
theorem dX10_again_59 : decode cX10_again 59 = .ok (.getfield 99, 3) := by decide +kernel
theorem dX10_again_62 : decode cX10_again 62 = .ok (.getfield 197, 3) := by decide +kernel
theorem dX10_again_65 : decode cX10_again 65 = .ok (.invokevirtual 190, 3) := by decide +kernel
theorem dX10_again_68 : decode cX10_again 68 = .ok (.aload_n 0, 1) := by decide +kernel
theorem dX10_again_69 : decode cX10_again 69 = .ok (.getfield 33, 3) := by decide +kernel
theorem dX10_again_72 : decode cX10_again 72 = .ok (.aload_n 0, 1) := by decide +kernel
theorem dX10_again_73 : decode cX10_again 73 = .ok (.getfield 12, 3) := by decide +kernel
theorem dX10_again_76 : decode cX10_again 76 = .ok (.iload_n 1, 1) := by decide +kernel
theorem dX10_again_77 : decode cX10_again 77 = .ok (.iload_n 2, 1) := by decide +kernel
theorem dX10_again_78 : decode cX10_again 78 = .ok (.invokevirtual 200, 3) := by decide +kernel
theorem dX10_again_81 : decode cX10_again 81 = .ok (.istore_n 3, 1) := by decide +kernel
theorem dX10_again_82 : decode cX10_again 82 = .ok (.aload_n 0, 1) := by decide +kernel
theorem dX10_again_83 : decode cX10_again 83 = .ok (.getfield 33, 3) := by decide +kernel
theorem dX10_again_86 : decode cX10_again 86 = .ok (.getfield 194, 3) := by decide +kernel
theorem dX10_again_89 : decode cX10_again 89 = .ok (.iload_n 1, 1) := by decide +kernel
theorem dX10_again_90 : decode cX10_again 90 = .ok (.invokevirtual 115, 3) := by decide +kernel
theorem dX10_again_93 : decode cX10_again 93 = .ok (.aload_n 0, 1) := by decide +kernel
theorem dX10_again_94 : decode cX10_again 94 = .ok (.getfield 33, 3) := by decide +kernel
theorem dX10_again_97 : decode cX10_again 97 = .ok (.getfield 194, 3) := by decide +kernel
theorem dX10_again_100 : decode cX10_again 100 = .ok (.iload_n 2, 1) := by decide +kernel
theorem dX10_again_101 : decode cX10_again 101 = .ok (.invokevirtual 115, 3) := by decide +kernel
theorem dX10_again_104 : decode cX10_again 104 = .ok (.iadd, 1) := by decide +kernel
theorem dX10_again_105 : decode cX10_again 105 = .ok (.iconst 2, 1) := by decide +kernel
theorem dX10_again_106 : decode cX10_again 106 = .ok (.aload_n 0, 1) := by decide +kernel
theorem dX10_again_107 : decode cX10_again 107 = .ok (.getfield 33, 3) := by decide +kernel
theorem dX10_again_110 : decode cX10_again 110 = .ok (.getfield 194, 3) := by decide +kernel
theorem dX10_again_113 : decode cX10_again 113 = .ok (.iload_n 3, 1) := by decide +kernel
theorem dX10_again_114 : decode cX10_again 114 = .ok (.invokevirtual 115, 3) := by decide +kernel
theorem dX10_again_117 : decode cX10_again 117 = .ok (.imul, 1) := by decide +kernel
theorem dX10_again_118 : decode cX10_again 118 = .ok (.isub, 1) := by decide +kernel
theorem dX10_again_119 : decode cX10_again 119 = .ok (.ireturn, 1) := by decide +kernel
set_option maxRecDepth 20000 in
theorem ggX10_way_X5_holds : GoodIn wsX10_way wsX5_holds := goodIn_r _ [9, 10, 11, 12, 13, 14, 15, 16, 85, 86, 87, 88, 89, 90, 91] (by decide +kernel) (by decide +kernel)
set_option maxRecDepth 20000 in
theorem gX10_way_X5_holds : GoodIn wsX10_way (wsV RX10 108 RX5 yX5_holds wsX5_holds) := goodIn_app (goodIn_of _ (by decide +kernel)) ggX10_way_X5_holds
set_option maxRecDepth 20000 in
theorem ggX10_way_X9_spread : GoodIn wsX10_way wsX9_spread := goodIn_r _ [21, 22, 23, 24, 25, 26, 27, 28, 14, 29, 16, 30, 31, 32, 33, 34, 35, 36, 20, 37, 38, 12, 13, 15, 39, 40, 41, 42, 43, 44, 45, 46, 47, 48, 49, 50, 51, 52, 53, 8, 54, 55, 78, 79, 80, 81, 82, 83, 84, 76, 77, 91, 92, 93, 94, 95, 96, 97, 85, 86, 87, 88, 89, 90] (by decide +kernel) (by decide +kernel)
set_option maxRecDepth 20000 in
theorem gX10_way_X9_spread : GoodIn wsX10_way (wsV RX10 190 RX9 yX9_spread wsX9_spread) := goodIn_app (goodIn_of _ (by decide +kernel)) ggX10_way_X9_spread
set_option maxRecDepth 20000 in
theorem ggX10_way_X4_at : GoodIn wsX10_way wsX4_at := goodIn_r _ [15, 16, 91] (by decide +kernel) (by decide +kernel)
set_option maxRecDepth 20000 in
theorem gX10_way_X4_at : GoodIn wsX10_way (wsV RX10 115 RX4 yX4_at wsX4_at) := goodIn_app (goodIn_of _ (by decide +kernel)) ggX10_way_X4_at
set_option maxRecDepth 20000 in
theorem ggX10_way_X9_roomAhead : GoodIn wsX10_way wsX9_roomAhead := goodIn_r _ [60, 61, 62, 63, 20, 64, 25, 65, 66, 67, 68, 22, 38, 12, 13, 14, 15, 16, 43, 44, 45, 46, 47, 48, 49, 50, 51, 52, 53, 8, 54, 55, 76, 77, 78, 79, 80, 81, 82, 83, 84, 91, 92, 93, 94, 95, 96, 97, 85, 86, 87, 88, 89, 90] (by decide +kernel) (by decide +kernel)
set_option maxRecDepth 20000 in
theorem gX10_way_X9_roomAhead : GoodIn wsX10_way (wsV RX10 204 RX9 yX9_roomAhead wsX9_roomAhead) := goodIn_app (goodIn_of _ (by decide +kernel)) ggX10_way_X9_roomAhead
theorem dX10_way_0 : decode cX10_way 0 = .ok (.aload_n 0, 1) := by decide +kernel
theorem dX10_way_1 : decode cX10_way 1 = .ok (.getfield 12, 3) := by decide +kernel
theorem dX10_way_4 : decode cX10_way 4 = .ok (.getfield 99, 3) := by decide +kernel
theorem dX10_way_7 : decode cX10_way 7 = .ok (.iload_n 1, 1) := by decide +kernel
theorem dX10_way_8 : decode cX10_way 8 = .ok (.invokevirtual 108, 3) := by decide +kernel
theorem dX10_way_11 : decode cX10_way 11 = .ok (.ifCond .eq 21, 3) := by decide +kernel
theorem dX10_way_14 : decode cX10_way 14 = .ok (.aload_n 0, 1) := by decide +kernel
theorem dX10_way_15 : decode cX10_way 15 = .ok (.getfield 12, 3) := by decide +kernel
theorem dX10_way_18 : decode cX10_way 18 = .ok (.getfield 99, 3) := by decide +kernel
theorem dX10_way_21 : decode cX10_way 21 = .ok (.iload_n 2, 1) := by decide +kernel
theorem dX10_way_22 : decode cX10_way 22 = .ok (.invokevirtual 108, 3) := by decide +kernel
theorem dX10_way_25 : decode cX10_way 25 = .ok (.ifCond .eq 7, 3) := by decide +kernel
theorem dX10_way_28 : decode cX10_way 28 = .ok (.iload_n 3, 1) := by decide +kernel
theorem dX10_way_29 : decode cX10_way 29 = .ok (.ifCond .ge 5, 3) := by decide +kernel
theorem dX10_way_32 : decode cX10_way 32 = .ok (.iconst (-1), 1) := by decide +kernel
theorem dX10_way_33 : decode cX10_way 33 = .ok (.ireturn, 1) := by decide +kernel
theorem dX10_way_34 : decode cX10_way 34 = .ok (.aload_n 0, 1) := by decide +kernel
theorem dX10_way_35 : decode cX10_way 35 = .ok (.getfield 33, 3) := by decide +kernel
theorem dX10_way_38 : decode cX10_way 38 = .ok (.aload_n 0, 1) := by decide +kernel
theorem dX10_way_39 : decode cX10_way 39 = .ok (.getfield 12, 3) := by decide +kernel
theorem dX10_way_42 : decode cX10_way 42 = .ok (.iload_n 2, 1) := by decide +kernel
theorem dX10_way_43 : decode cX10_way 43 = .ok (.invokevirtual 190, 3) := by decide +kernel
theorem dX10_way_46 : decode cX10_way 46 = .ok (.iload_n 3, 1) := by decide +kernel
theorem dX10_way_47 : decode cX10_way 47 = .ok (.aload_n 0, 1) := by decide +kernel
theorem dX10_way_48 : decode cX10_way 48 = .ok (.getfield 33, 3) := by decide +kernel
theorem dX10_way_51 : decode cX10_way 51 = .ok (.getfield 194, 3) := by decide +kernel
theorem dX10_way_54 : decode cX10_way 54 = .ok (.iload_n 1, 1) := by decide +kernel
theorem dX10_way_55 : decode cX10_way 55 = .ok (.invokevirtual 115, 3) := by decide +kernel
theorem dX10_way_58 : decode cX10_way 58 = .ok (.if_icmp .le 6, 3) := by decide +kernel
theorem dX10_way_61 : decode cX10_way 61 = .ok (.bipush (-4), 2) := by decide +kernel
theorem dX10_way_63 : decode cX10_way 63 = .ok (.ireturn, 1) := by decide +kernel
theorem dX10_way_64 : decode cX10_way 64 = .ok (.aload_n 0, 1) := by decide +kernel
theorem dX10_way_65 : decode cX10_way 65 = .ok (.getfield 33, 3) := by decide +kernel
theorem dX10_way_68 : decode cX10_way 68 = .ok (.aload_n 0, 1) := by decide +kernel
theorem dX10_way_69 : decode cX10_way 69 = .ok (.getfield 12, 3) := by decide +kernel
theorem dX10_way_72 : decode cX10_way 72 = .ok (.iload_n 1, 1) := by decide +kernel
theorem dX10_way_73 : decode cX10_way 73 = .ok (.iload_n 3, 1) := by decide +kernel
theorem dX10_way_74 : decode cX10_way 74 = .ok (.invokevirtual 204, 3) := by decide +kernel
theorem dX10_way_77 : decode cX10_way 77 = .ok (.ireturn, 1) := by decide +kernel
set_option maxRecDepth 20000 in
theorem ggX10_farthest_X5_holds : GoodIn wsX10_farthest wsX5_holds := goodIn_r _ [9, 10, 11, 12, 13, 14, 15, 16, 78, 79, 80, 81, 82, 83, 84] (by decide +kernel) (by decide +kernel)
set_option maxRecDepth 20000 in
theorem gX10_farthest_X5_holds : GoodIn wsX10_farthest (wsV RX10 108 RX5 yX5_holds wsX5_holds) := goodIn_app (goodIn_of _ (by decide +kernel)) ggX10_farthest_X5_holds
set_option maxRecDepth 20000 in
theorem ggX10_farthest_X9_spread : GoodIn wsX10_farthest wsX9_spread := goodIn_r _ [21, 22, 23, 24, 25, 26, 27, 28, 14, 29, 16, 30, 31, 32, 33, 34, 35, 36, 20, 37, 38, 12, 13, 15, 39, 40, 41, 42, 43, 44, 45, 46, 47, 48, 49, 50, 51, 52, 53, 8, 54, 55, 71, 72, 73, 74, 75, 76, 77, 69, 70, 84, 85, 86, 87, 88, 89, 90, 78, 79, 80, 81, 82, 83] (by decide +kernel) (by decide +kernel)
set_option maxRecDepth 20000 in
theorem gX10_farthest_X9_spread : GoodIn wsX10_farthest (wsV RX10 190 RX9 yX9_spread wsX9_spread) := goodIn_app (goodIn_of _ (by decide +kernel)) ggX10_farthest_X9_spread
set_option maxRecDepth 20000 in
theorem ggX10_farthest_X9_farthestRoom : GoodIn wsX10_farthest wsX9_farthestRoom := goodIn_r _ [59, 25, 22, 60, 6, 7, 8, 9, 10, 11, 12, 13, 14, 15, 16, 38, 69, 70, 71, 72, 73, 74, 75, 76, 77, 78, 79, 80, 81, 82, 83, 84] (by decide +kernel) (by decide +kernel)
set_option maxRecDepth 20000 in
theorem gX10_farthest_X9_farthestRoom : GoodIn wsX10_farthest (wsV RX10 207 RX9 yX9_farthestRoom wsX9_farthestRoom) := goodIn_app (goodIn_of _ (by decide +kernel)) ggX10_farthest_X9_farthestRoom
set_option maxRecDepth 20000 in
theorem ggX10_farthest_X4_at : GoodIn wsX10_farthest wsX4_at := goodIn_r _ [15, 16, 84] (by decide +kernel) (by decide +kernel)
set_option maxRecDepth 20000 in
theorem gX10_farthest_X4_at : GoodIn wsX10_farthest (wsV RX10 115 RX4 yX4_at wsX4_at) := goodIn_app (goodIn_of _ (by decide +kernel)) ggX10_farthest_X4_at
theorem dX10_farthest_0 : decode cX10_farthest 0 = .ok (.aload_n 0, 1) := by decide +kernel
theorem dX10_farthest_1 : decode cX10_farthest 1 = .ok (.getfield 12, 3) := by decide +kernel
theorem dX10_farthest_4 : decode cX10_farthest 4 = .ok (.getfield 99, 3) := by decide +kernel
theorem dX10_farthest_7 : decode cX10_farthest 7 = .ok (.iload_n 1, 1) := by decide +kernel
theorem dX10_farthest_8 : decode cX10_farthest 8 = .ok (.invokevirtual 108, 3) := by decide +kernel
theorem dX10_farthest_11 : decode cX10_farthest 11 = .ok (.ifCond .eq 12, 3) := by decide +kernel
theorem dX10_farthest_14 : decode cX10_farthest 14 = .ok (.iload_n 2, 1) := by decide +kernel
theorem dX10_farthest_15 : decode cX10_farthest 15 = .ok (.ifCond .lt 8, 3) := by decide +kernel
theorem dX10_farthest_18 : decode cX10_farthest 18 = .ok (.iload_n 2, 1) := by decide +kernel
theorem dX10_farthest_19 : decode cX10_farthest 19 = .ok (.iconst 1, 1) := by decide +kernel
theorem dX10_farthest_20 : decode cX10_farthest 20 = .ok (.if_icmp .le 5, 3) := by decide +kernel
theorem dX10_farthest_23 : decode cX10_farthest 23 = .ok (.iconst (-1), 1) := by decide +kernel
theorem dX10_farthest_24 : decode cX10_farthest 24 = .ok (.ireturn, 1) := by decide +kernel
theorem dX10_farthest_25 : decode cX10_farthest 25 = .ok (.aload_n 0, 1) := by decide +kernel
theorem dX10_farthest_26 : decode cX10_farthest 26 = .ok (.getfield 33, 3) := by decide +kernel
theorem dX10_farthest_29 : decode cX10_farthest 29 = .ok (.aload_n 0, 1) := by decide +kernel
theorem dX10_farthest_30 : decode cX10_farthest 30 = .ok (.getfield 12, 3) := by decide +kernel
theorem dX10_farthest_33 : decode cX10_farthest 33 = .ok (.iload_n 1, 1) := by decide +kernel
theorem dX10_farthest_34 : decode cX10_farthest 34 = .ok (.invokevirtual 190, 3) := by decide +kernel
theorem dX10_farthest_37 : decode cX10_farthest 37 = .ok (.aload_n 0, 1) := by decide +kernel
theorem dX10_farthest_38 : decode cX10_farthest 38 = .ok (.getfield 33, 3) := by decide +kernel
theorem dX10_farthest_41 : decode cX10_farthest 41 = .ok (.aload_n 0, 1) := by decide +kernel
theorem dX10_farthest_42 : decode cX10_farthest 42 = .ok (.getfield 12, 3) := by decide +kernel
theorem dX10_farthest_45 : decode cX10_farthest 45 = .ok (.invokevirtual 207, 3) := by decide +kernel
theorem dX10_farthest_48 : decode cX10_farthest 48 = .ok (.istore_n 3, 1) := by decide +kernel
theorem dX10_farthest_49 : decode cX10_farthest 49 = .ok (.iload_n 2, 1) := by decide +kernel
theorem dX10_farthest_50 : decode cX10_farthest 50 = .ok (.ifCond .ne 7, 3) := by decide +kernel
theorem dX10_farthest_53 : decode cX10_farthest 53 = .ok (.iload_n 3, 1) := by decide +kernel
theorem dX10_farthest_54 : decode cX10_farthest 54 = .ok (.goto 14, 3) := by decide +kernel
theorem dX10_farthest_57 : decode cX10_farthest 57 = .ok (.aload_n 0, 1) := by decide +kernel
theorem dX10_farthest_58 : decode cX10_farthest 58 = .ok (.getfield 33, 3) := by decide +kernel
theorem dX10_farthest_61 : decode cX10_farthest 61 = .ok (.getfield 194, 3) := by decide +kernel
theorem dX10_farthest_64 : decode cX10_farthest 64 = .ok (.iload_n 3, 1) := by decide +kernel
theorem dX10_farthest_65 : decode cX10_farthest 65 = .ok (.invokevirtual 115, 3) := by decide +kernel
theorem dX10_farthest_68 : decode cX10_farthest 68 = .ok (.ireturn, 1) := by decide +kernel
set_option maxRecDepth 20000 in
theorem ggX10_longest_X9_findLongest : GoodIn wsX10_longest wsX9_findLongest := goodIn_r _ [10, 11, 12, 13, 14, 15, 16, 17, 18, 19, 20, 21, 22, 23, 24, 25, 26, 27, 28, 29, 30, 9, 31, 32, 33, 34, 35, 36, 37, 38, 39, 40, 41, 42, 43, 44, 45, 46, 47, 48, 49, 50, 51, 52, 53, 54, 55, 56, 57, 58, 59, 60, 61, 62, 63, 64, 65, 66, 67, 75, 76, 77, 78, 79, 80, 81, 82, 83, 84, 85, 86, 87, 88, 89, 90, 91, 92, 93, 94, 95, 96] (by decide +kernel) (by decide +kernel)
set_option maxRecDepth 20000 in
theorem gX10_longest_X9_findLongest : GoodIn wsX10_longest (wsV RX10 210 RX9 yX9_findLongest wsX9_findLongest) := goodIn_app (goodIn_of _ (by decide +kernel)) ggX10_longest_X9_findLongest
theorem dX10_longest_0 : decode cX10_longest 0 = .ok (.iload_n 1, 1) := by decide +kernel
theorem dX10_longest_1 : decode cX10_longest 1 = .ok (.ifCond .lt 8, 3) := by decide +kernel
theorem dX10_longest_4 : decode cX10_longest 4 = .ok (.iload_n 1, 1) := by decide +kernel
theorem dX10_longest_5 : decode cX10_longest 5 = .ok (.iconst 2, 1) := by decide +kernel
theorem dX10_longest_6 : decode cX10_longest 6 = .ok (.if_icmp .le 5, 3) := by decide +kernel
theorem dX10_longest_9 : decode cX10_longest 9 = .ok (.iconst (-1), 1) := by decide +kernel
theorem dX10_longest_10 : decode cX10_longest 10 = .ok (.ireturn, 1) := by decide +kernel
theorem dX10_longest_11 : decode cX10_longest 11 = .ok (.aload_n 0, 1) := by decide +kernel
theorem dX10_longest_12 : decode cX10_longest 12 = .ok (.getfield 33, 3) := by decide +kernel
theorem dX10_longest_15 : decode cX10_longest 15 = .ok (.aload_n 0, 1) := by decide +kernel
theorem dX10_longest_16 : decode cX10_longest 16 = .ok (.getfield 12, 3) := by decide +kernel
theorem dX10_longest_19 : decode cX10_longest 19 = .ok (.invokevirtual 210, 3) := by decide +kernel
theorem dX10_longest_22 : decode cX10_longest 22 = .ok (.iload_n 1, 1) := by decide +kernel
theorem dX10_longest_23 : decode cX10_longest 23 = .ok (.lookupswitch 41 #[(0, 25), (1, 33)], 25) := by decide +kernel
theorem dX10_longest_48 : decode cX10_longest 48 = .ok (.aload_n 0, 1) := by decide +kernel
theorem dX10_longest_49 : decode cX10_longest 49 = .ok (.getfield 33, 3) := by decide +kernel
theorem dX10_longest_52 : decode cX10_longest 52 = .ok (.getfield 214, 3) := by decide +kernel
theorem dX10_longest_55 : decode cX10_longest 55 = .ok (.ireturn, 1) := by decide +kernel
theorem dX10_longest_56 : decode cX10_longest 56 = .ok (.aload_n 0, 1) := by decide +kernel
theorem dX10_longest_57 : decode cX10_longest 57 = .ok (.getfield 33, 3) := by decide +kernel
theorem dX10_longest_60 : decode cX10_longest 60 = .ok (.getfield 217, 3) := by decide +kernel
theorem dX10_longest_63 : decode cX10_longest 63 = .ok (.ireturn, 1) := by decide +kernel
theorem dX10_longest_64 : decode cX10_longest 64 = .ok (.aload_n 0, 1) := by decide +kernel
theorem dX10_longest_65 : decode cX10_longest 65 = .ok (.getfield 33, 3) := by decide +kernel
theorem dX10_longest_68 : decode cX10_longest 68 = .ok (.getfield 220, 3) := by decide +kernel
theorem dX10_longest_71 : decode cX10_longest 71 = .ok (.ireturn, 1) := by decide +kernel
set_option maxRecDepth 20000 in
theorem ggX10_grade_X9_spread : GoodIn wsX10_grade wsX9_spread := goodIn_r _ [16, 17, 18, 19, 20, 21, 22, 23, 24, 25, 26, 27, 28, 29, 30, 31, 32, 33, 15, 34, 35, 36, 37, 38, 39, 40, 41, 42, 43, 44, 45, 46, 47, 48, 49, 50, 51, 52, 53, 54, 55, 56, 100, 101, 102, 103, 104, 105, 106, 92, 93, 107, 94, 95, 96, 97, 98, 99, 108, 109, 110, 111, 112, 113] (by decide +kernel) (by decide +kernel)
set_option maxRecDepth 20000 in
theorem gX10_grade_X9_spread : GoodIn wsX10_grade (wsV RX10 190 RX9 yX9_spread wsX9_spread) := goodIn_app (goodIn_of _ (by decide +kernel)) ggX10_grade_X9_spread
set_option maxRecDepth 20000 in
theorem ggX10_grade_X4_at : GoodIn wsX10_grade wsX4_at := goodIn_r _ [38, 26, 107] (by decide +kernel) (by decide +kernel)
set_option maxRecDepth 20000 in
theorem gX10_grade_X4_at : GoodIn wsX10_grade (wsV RX10 115 RX4 yX4_at wsX4_at) := goodIn_app (goodIn_of _ (by decide +kernel)) ggX10_grade_X4_at
set_option maxRecDepth 20000 in
theorem ggX10_grade_X9_forksAhead : GoodIn wsX10_grade wsX9_forksAhead := goodIn_r _ [61, 17, 35, 36, 37, 24, 38, 26, 62, 63, 64, 46, 65, 66, 67, 68, 69, 48, 49, 50, 70, 71, 72, 73, 74, 75, 76, 77, 78, 79, 15, 80, 20, 81, 82, 83, 84, 43, 44, 45, 47, 51, 52, 53, 54, 55, 56, 100, 101, 102, 103, 104, 105, 106, 107, 92, 93, 94, 95, 96, 97, 98, 99, 108, 109, 110, 111, 112, 113] (by decide +kernel) (by decide +kernel)
set_option maxRecDepth 20000 in
theorem gX10_grade_X9_forksAhead : GoodIn wsX10_grade (wsV RX10 223 RX9 yX9_forksAhead wsX9_forksAhead) := goodIn_app (goodIn_of _ (by decide +kernel)) ggX10_grade_X9_forksAhead
theorem dX10_grade_0 : decode cX10_grade 0 = .ok (.aload_n 0, 1) := by decide +kernel
theorem dX10_grade_1 : decode cX10_grade 1 = .ok (.getfield 33, 3) := by decide +kernel
theorem dX10_grade_4 : decode cX10_grade 4 = .ok (.aload_n 0, 1) := by decide +kernel
theorem dX10_grade_5 : decode cX10_grade 5 = .ok (.getfield 12, 3) := by decide +kernel
theorem dX10_grade_8 : decode cX10_grade 8 = .ok (.aload_n 0, 1) := by decide +kernel
theorem dX10_grade_9 : decode cX10_grade 9 = .ok (.getfield 12, 3) := by decide +kernel
theorem dX10_grade_12 : decode cX10_grade 12 = .ok (.getfield 58, 3) := by decide +kernel
theorem dX10_grade_15 : decode cX10_grade 15 = .ok (.getfield 179, 3) := by decide +kernel
theorem dX10_grade_18 : decode cX10_grade 18 = .ok (.invokevirtual 190, 3) := by decide +kernel
theorem dX10_grade_21 : decode cX10_grade 21 = .ok (.aload_n 0, 1) := by decide +kernel
theorem dX10_grade_22 : decode cX10_grade 22 = .ok (.getfield 33, 3) := by decide +kernel
theorem dX10_grade_25 : decode cX10_grade 25 = .ok (.getfield 194, 3) := by decide +kernel
theorem dX10_grade_28 : decode cX10_grade 28 = .ok (.aload_n 0, 1) := by decide +kernel
theorem dX10_grade_29 : decode cX10_grade 29 = .ok (.getfield 12, 3) := by decide +kernel
theorem dX10_grade_32 : decode cX10_grade 32 = .ok (.getfield 58, 3) := by decide +kernel
theorem dX10_grade_35 : decode cX10_grade 35 = .ok (.getfield 176, 3) := by decide +kernel
theorem dX10_grade_38 : decode cX10_grade 38 = .ok (.invokevirtual 115, 3) := by decide +kernel
theorem dX10_grade_41 : decode cX10_grade 41 = .ok (.istore_n 1, 1) := by decide +kernel
theorem dX10_grade_42 : decode cX10_grade 42 = .ok (.iload_n 1, 1) := by decide +kernel
theorem dX10_grade_43 : decode cX10_grade 43 = .ok (.iconst (-1), 1) := by decide +kernel
theorem dX10_grade_44 : decode cX10_grade 44 = .ok (.if_icmp .ne 6, 3) := by decide +kernel
theorem dX10_grade_47 : decode cX10_grade 47 = .ok (.bipush (-4), 2) := by decide +kernel
theorem dX10_grade_49 : decode cX10_grade 49 = .ok (.ireturn, 1) := by decide +kernel
theorem dX10_grade_50 : decode cX10_grade 50 = .ok (.aload_n 0, 1) := by decide +kernel
theorem dX10_grade_51 : decode cX10_grade 51 = .ok (.getfield 33, 3) := by decide +kernel
theorem dX10_grade_54 : decode cX10_grade 54 = .ok (.aload_n 0, 1) := by decide +kernel
theorem dX10_grade_55 : decode cX10_grade 55 = .ok (.getfield 12, 3) := by decide +kernel
theorem dX10_grade_58 : decode cX10_grade 58 = .ok (.aload_n 0, 1) := by decide +kernel
theorem dX10_grade_59 : decode cX10_grade 59 = .ok (.getfield 12, 3) := by decide +kernel
theorem dX10_grade_62 : decode cX10_grade 62 = .ok (.getfield 58, 3) := by decide +kernel
theorem dX10_grade_65 : decode cX10_grade 65 = .ok (.getfield 176, 3) := by decide +kernel
theorem dX10_grade_68 : decode cX10_grade 68 = .ok (.invokevirtual 223, 3) := by decide +kernel
theorem dX10_grade_71 : decode cX10_grade 71 = .ok (.istore_n 2, 1) := by decide +kernel
theorem dX10_grade_72 : decode cX10_grade 72 = .ok (.aload_n 0, 1) := by decide +kernel
theorem dX10_grade_73 : decode cX10_grade 73 = .ok (.getfield 33, 3) := by decide +kernel
theorem dX10_grade_76 : decode cX10_grade 76 = .ok (.getfield 226, 3) := by decide +kernel
theorem dX10_grade_79 : decode cX10_grade 79 = .ok (.iload_n 1, 1) := by decide +kernel
theorem dX10_grade_80 : decode cX10_grade 80 = .ok (.iconst 1, 1) := by decide +kernel
theorem dX10_grade_81 : decode cX10_grade 81 = .ok (.iadd, 1) := by decide +kernel
theorem dX10_grade_82 : decode cX10_grade 82 = .ok (.isub, 1) := by decide +kernel
theorem dX10_grade_83 : decode cX10_grade 83 = .ok (.istore_n 3, 1) := by decide +kernel
theorem dX10_grade_84 : decode cX10_grade 84 = .ok (.iload_n 1, 1) := by decide +kernel
theorem dX10_grade_85 : decode cX10_grade 85 = .ok (.iconst 4, 1) := by decide +kernel
theorem dX10_grade_86 : decode cX10_grade 86 = .ok (.iload_n 2, 1) := by decide +kernel
theorem dX10_grade_87 : decode cX10_grade 87 = .ok (.imul, 1) := by decide +kernel
theorem dX10_grade_88 : decode cX10_grade 88 = .ok (.iadd, 1) := by decide +kernel
theorem dX10_grade_89 : decode cX10_grade 89 = .ok (.iload_n 3, 1) := by decide +kernel
theorem dX10_grade_90 : decode cX10_grade 90 = .ok (.iconst 2, 1) := by decide +kernel
theorem dX10_grade_91 : decode cX10_grade 91 = .ok (.idiv, 1) := by decide +kernel
theorem dX10_grade_92 : decode cX10_grade 92 = .ok (.iadd, 1) := by decide +kernel
theorem dX10_grade_93 : decode cX10_grade 93 = .ok (.bipush 10, 2) := by decide +kernel
theorem dX10_grade_95 : decode cX10_grade 95 = .ok (.idiv, 1) := by decide +kernel
theorem dX10_grade_96 : decode cX10_grade 96 = .ok (.bipush 9, 2) := by decide +kernel
theorem dX10_grade_98 : decode cX10_grade 98 = .ok (.invokestatic 229, 3) := by decide +kernel
theorem dX10_grade_101 : decode cX10_grade 101 = .ok (.ireturn, 1) := by decide +kernel
set_option maxRecDepth 20000 in
theorem ggX10_sign_X5_holds : GoodIn wsX10_sign wsX5_holds := goodIn_r _ [9, 10, 11, 12, 13, 14, 15, 16, 112, 113, 114, 115, 116, 117, 118] (by decide +kernel) (by decide +kernel)
set_option maxRecDepth 20000 in
theorem gX10_sign_X5_holds : GoodIn wsX10_sign (wsV RX10 108 RX5 yX5_holds wsX5_holds) := goodIn_app (goodIn_of _ (by decide +kernel)) ggX10_sign_X5_holds
set_option maxRecDepth 20000 in
theorem ggX10_sign_X10_isSign : GoodIn wsX10_sign wsX10_isSign := goodIn_r _ [20, 21, 22, 19, 23] (by decide +kernel) (by decide +kernel)
set_option maxRecDepth 20000 in
theorem gX10_sign_X10_isSign : GoodIn wsX10_sign (va_wsS RX10 234 yX10_isSign wsX10_isSign) := goodIn_app (goodIn_of _ (by decide +kernel)) ggX10_sign_X10_isSign
set_option maxRecDepth 20000 in
theorem ggX10_sign_X1_hasSign : GoodIn wsX10_sign wsX1_hasSign := goodIn_r _ [28, 29, 30, 31, 12, 13, 14, 15, 16, 110, 111, 119, 120, 121, 122, 123, 124, 118] (by decide +kernel) (by decide +kernel)
set_option maxRecDepth 20000 in
theorem gX10_sign_X1_hasSign : GoodIn wsX10_sign (wsV RX10 237 RX1 yX1_hasSign wsX1_hasSign) := goodIn_app (goodIn_of _ (by decide +kernel)) ggX10_sign_X1_hasSign
set_option maxRecDepth 20000 in
theorem ggX10_sign_X1_signCount : GoodIn wsX10_sign wsX1_signCount := goodIn_r _ [35, 36, 37, 38, 27, 39, 40, 25, 26, 28, 29, 30, 31, 12, 13, 14, 15, 16, 41, 42, 43, 44, 45, 46, 47, 48, 49, 50, 51, 52, 53, 54, 55, 56, 110, 111, 119, 120, 121, 122, 123, 124, 118] (by decide +kernel) (by decide +kernel)
set_option maxRecDepth 20000 in
theorem gX10_sign_X1_signCount : GoodIn wsX10_sign (wsV RX10 182 RX1 yX1_signCount wsX1_signCount) := goodIn_app (goodIn_of _ (by decide +kernel)) ggX10_sign_X1_signCount
set_option maxRecDepth 20000 in
theorem ggX10_sign_X0_keep : GoodIn wsX10_sign wsX0_keep := goodIn_r _ [61, 62, 63, 64, 65, 66, 60, 67, 68, 69, 70, 71, 72, 73, 74, 75, 76, 77, 78, 79, 80, 81, 82, 83, 84, 85, 14, 86, 16, 87, 88, 89, 90, 91, 92, 93, 94, 125, 126, 119, 120, 121, 122, 123, 124, 118] (by decide +kernel) (by decide +kernel)
set_option maxRecDepth 20000 in
theorem gX10_sign_X0_keep : GoodIn wsX10_sign (wsV RX10 85 RX0 yX0_keep wsX0_keep) := goodIn_app (goodIn_of _ (by decide +kernel)) ggX10_sign_X0_keep
set_option maxRecDepth 20000 in
theorem ggX10_sign_X1_putSign : GoodIn wsX10_sign wsX1_putSign := goodIn_r _ [98, 29, 30, 99, 100, 101, 14, 102, 16, 110, 111, 119, 120, 121, 122, 123, 124, 118] (by decide +kernel) (by decide +kernel)
set_option maxRecDepth 20000 in
theorem gX10_sign_X1_putSign : GoodIn wsX10_sign (wsV RX10 240 RX1 yX1_putSign wsX1_putSign) := goodIn_app (goodIn_of _ (by decide +kernel)) ggX10_sign_X1_putSign
theorem dX10_sign_0 : decode cX10_sign 0 = .ok (.aload_n 0, 1) := by decide +kernel
theorem dX10_sign_1 : decode cX10_sign 1 = .ok (.getfield 12, 3) := by decide +kernel
theorem dX10_sign_4 : decode cX10_sign 4 = .ok (.getfield 99, 3) := by decide +kernel
theorem dX10_sign_7 : decode cX10_sign 7 = .ok (.iload_n 1, 1) := by decide +kernel
theorem dX10_sign_8 : decode cX10_sign 8 = .ok (.invokevirtual 108, 3) := by decide +kernel
theorem dX10_sign_11 : decode cX10_sign 11 = .ok (.ifCond .eq 11, 3) := by decide +kernel
theorem dX10_sign_14 : decode cX10_sign 14 = .ok (.iload_n 2, 1) := by decide +kernel
theorem dX10_sign_15 : decode cX10_sign 15 = .ok (.iload_n 3, 1) := by decide +kernel
theorem dX10_sign_16 : decode cX10_sign 16 = .ok (.invokestatic 234, 3) := by decide +kernel
theorem dX10_sign_19 : decode cX10_sign 19 = .ok (.ifCond .ne 5, 3) := by decide +kernel
theorem dX10_sign_22 : decode cX10_sign 22 = .ok (.iconst (-1), 1) := by decide +kernel
theorem dX10_sign_23 : decode cX10_sign 23 = .ok (.ireturn, 1) := by decide +kernel
theorem dX10_sign_24 : decode cX10_sign 24 = .ok (.aload_n 0, 1) := by decide +kernel
theorem dX10_sign_25 : decode cX10_sign 25 = .ok (.getfield 12, 3) := by decide +kernel
theorem dX10_sign_28 : decode cX10_sign 28 = .ok (.iload_n 1, 1) := by decide +kernel
theorem dX10_sign_29 : decode cX10_sign 29 = .ok (.invokevirtual 237, 3) := by decide +kernel
theorem dX10_sign_32 : decode cX10_sign 32 = .ok (.ifCond .ne 19, 3) := by decide +kernel
theorem dX10_sign_35 : decode cX10_sign 35 = .ok (.aload_n 0, 1) := by decide +kernel
theorem dX10_sign_36 : decode cX10_sign 36 = .ok (.getfield 12, 3) := by decide +kernel
theorem dX10_sign_39 : decode cX10_sign 39 = .ok (.iconst 0, 1) := by decide +kernel
theorem dX10_sign_40 : decode cX10_sign 40 = .ok (.invokevirtual 182, 3) := by decide +kernel
theorem dX10_sign_43 : decode cX10_sign 43 = .ok (.bipush 20, 2) := by decide +kernel
theorem dX10_sign_45 : decode cX10_sign 45 = .ok (.if_icmp .lt 6, 3) := by decide +kernel
theorem dX10_sign_48 : decode cX10_sign 48 = .ok (.bipush (-3), 2) := by decide +kernel
theorem dX10_sign_50 : decode cX10_sign 50 = .ok (.ireturn, 1) := by decide +kernel
theorem dX10_sign_51 : decode cX10_sign 51 = .ok (.aload_n 0, 1) := by decide +kernel
theorem dX10_sign_52 : decode cX10_sign 52 = .ok (.getfield 19, 3) := by decide +kernel
theorem dX10_sign_55 : decode cX10_sign 55 = .ok (.aload_n 0, 1) := by decide +kernel
theorem dX10_sign_56 : decode cX10_sign 56 = .ok (.getfield 12, 3) := by decide +kernel
theorem dX10_sign_59 : decode cX10_sign 59 = .ok (.getfield 58, 3) := by decide +kernel
theorem dX10_sign_62 : decode cX10_sign 62 = .ok (.invokevirtual 85, 3) := by decide +kernel
theorem dX10_sign_65 : decode cX10_sign 65 = .ok (.aload_n 0, 1) := by decide +kernel
theorem dX10_sign_66 : decode cX10_sign 66 = .ok (.getfield 12, 3) := by decide +kernel
theorem dX10_sign_69 : decode cX10_sign 69 = .ok (.iload_n 1, 1) := by decide +kernel
theorem dX10_sign_70 : decode cX10_sign 70 = .ok (.iload_n 2, 1) := by decide +kernel
theorem dX10_sign_71 : decode cX10_sign 71 = .ok (.iload_n 3, 1) := by decide +kernel
theorem dX10_sign_72 : decode cX10_sign 72 = .ok (.invokevirtual 240, 3) := by decide +kernel
theorem dX10_sign_75 : decode cX10_sign 75 = .ok (.aload_n 0, 1) := by decide +kernel
theorem dX10_sign_76 : decode cX10_sign 76 = .ok (.getfield 12, 3) := by decide +kernel
theorem dX10_sign_79 : decode cX10_sign 79 = .ok (.iconst 0, 1) := by decide +kernel
theorem dX10_sign_80 : decode cX10_sign 80 = .ok (.invokevirtual 182, 3) := by decide +kernel
theorem dX10_sign_83 : decode cX10_sign 83 = .ok (.ireturn, 1) := by decide +kernel
set_option maxRecDepth 20000 in
theorem ggX10_unsign_X5_holds : GoodIn wsX10_unsign wsX5_holds := goodIn_r _ [9, 10, 11, 12, 13, 14, 15, 16, 84, 85, 86, 87, 88, 89, 90] (by decide +kernel) (by decide +kernel)
set_option maxRecDepth 20000 in
theorem gX10_unsign_X5_holds : GoodIn wsX10_unsign (wsV RX10 108 RX5 yX5_holds wsX5_holds) := goodIn_app (goodIn_of _ (by decide +kernel)) ggX10_unsign_X5_holds
set_option maxRecDepth 20000 in
theorem ggX10_unsign_X1_hasSign : GoodIn wsX10_unsign wsX1_hasSign := goodIn_r _ [21, 22, 23, 24, 12, 13, 14, 15, 16, 82, 83, 91, 92, 93, 94, 95, 96, 90] (by decide +kernel) (by decide +kernel)
set_option maxRecDepth 20000 in
theorem gX10_unsign_X1_hasSign : GoodIn wsX10_unsign (wsV RX10 237 RX1 yX1_hasSign wsX1_hasSign) := goodIn_app (goodIn_of _ (by decide +kernel)) ggX10_unsign_X1_hasSign
set_option maxRecDepth 20000 in
theorem ggX10_unsign_X0_keep : GoodIn wsX10_unsign wsX0_keep := goodIn_r _ [29, 30, 31, 32, 33, 34, 28, 35, 36, 37, 38, 39, 40, 41, 42, 43, 44, 45, 46, 47, 48, 49, 50, 51, 52, 53, 14, 54, 16, 55, 56, 57, 58, 59, 60, 61, 62, 97, 98, 91, 92, 93, 94, 95, 96, 90] (by decide +kernel) (by decide +kernel)
set_option maxRecDepth 20000 in
theorem gX10_unsign_X0_keep : GoodIn wsX10_unsign (wsV RX10 85 RX0 yX0_keep wsX0_keep) := goodIn_app (goodIn_of _ (by decide +kernel)) ggX10_unsign_X0_keep
set_option maxRecDepth 20000 in
theorem ggX10_unsign_X1_signKind : GoodIn wsX10_unsign wsX1_signKind := goodIn_r _ [66, 22, 23, 24, 12, 13, 14, 15, 16, 82, 83, 91, 92, 93, 94, 95, 96, 90] (by decide +kernel) (by decide +kernel)
set_option maxRecDepth 20000 in
theorem gX10_unsign_X1_signKind : GoodIn wsX10_unsign (wsV RX10 244 RX1 yX1_signKind wsX1_signKind) := goodIn_app (goodIn_of _ (by decide +kernel)) ggX10_unsign_X1_signKind
set_option maxRecDepth 20000 in
theorem ggX10_unsign_X1_removeSign : GoodIn wsX10_unsign wsX1_removeSign := goodIn_r _ [70, 22, 23, 71, 72, 73, 14, 74, 16, 82, 83, 91, 92, 93, 94, 95, 96, 90] (by decide +kernel) (by decide +kernel)
set_option maxRecDepth 20000 in
theorem gX10_unsign_X1_removeSign : GoodIn wsX10_unsign (wsV RX10 247 RX1 yX1_removeSign wsX1_removeSign) := goodIn_app (goodIn_of _ (by decide +kernel)) ggX10_unsign_X1_removeSign
theorem dX10_unsign_0 : decode cX10_unsign 0 = .ok (.aload_n 0, 1) := by decide +kernel
theorem dX10_unsign_1 : decode cX10_unsign 1 = .ok (.getfield 12, 3) := by decide +kernel
theorem dX10_unsign_4 : decode cX10_unsign 4 = .ok (.getfield 99, 3) := by decide +kernel
theorem dX10_unsign_7 : decode cX10_unsign 7 = .ok (.iload_n 1, 1) := by decide +kernel
theorem dX10_unsign_8 : decode cX10_unsign 8 = .ok (.invokevirtual 108, 3) := by decide +kernel
theorem dX10_unsign_11 : decode cX10_unsign 11 = .ok (.ifCond .ne 5, 3) := by decide +kernel
theorem dX10_unsign_14 : decode cX10_unsign 14 = .ok (.iconst (-1), 1) := by decide +kernel
theorem dX10_unsign_15 : decode cX10_unsign 15 = .ok (.ireturn, 1) := by decide +kernel
theorem dX10_unsign_16 : decode cX10_unsign 16 = .ok (.aload_n 0, 1) := by decide +kernel
theorem dX10_unsign_17 : decode cX10_unsign 17 = .ok (.getfield 12, 3) := by decide +kernel
theorem dX10_unsign_20 : decode cX10_unsign 20 = .ok (.iload_n 1, 1) := by decide +kernel
theorem dX10_unsign_21 : decode cX10_unsign 21 = .ok (.invokevirtual 237, 3) := by decide +kernel
theorem dX10_unsign_24 : decode cX10_unsign 24 = .ok (.ifCond .ne 6, 3) := by decide +kernel
theorem dX10_unsign_27 : decode cX10_unsign 27 = .ok (.bipush (-4), 2) := by decide +kernel
theorem dX10_unsign_29 : decode cX10_unsign 29 = .ok (.ireturn, 1) := by decide +kernel
theorem dX10_unsign_30 : decode cX10_unsign 30 = .ok (.aload_n 0, 1) := by decide +kernel
theorem dX10_unsign_31 : decode cX10_unsign 31 = .ok (.getfield 19, 3) := by decide +kernel
theorem dX10_unsign_34 : decode cX10_unsign 34 = .ok (.aload_n 0, 1) := by decide +kernel
theorem dX10_unsign_35 : decode cX10_unsign 35 = .ok (.getfield 12, 3) := by decide +kernel
theorem dX10_unsign_38 : decode cX10_unsign 38 = .ok (.getfield 58, 3) := by decide +kernel
theorem dX10_unsign_41 : decode cX10_unsign 41 = .ok (.invokevirtual 85, 3) := by decide +kernel
theorem dX10_unsign_44 : decode cX10_unsign 44 = .ok (.aload_n 0, 1) := by decide +kernel
theorem dX10_unsign_45 : decode cX10_unsign 45 = .ok (.getfield 12, 3) := by decide +kernel
theorem dX10_unsign_48 : decode cX10_unsign 48 = .ok (.iload_n 1, 1) := by decide +kernel
theorem dX10_unsign_49 : decode cX10_unsign 49 = .ok (.invokevirtual 244, 3) := by decide +kernel
theorem dX10_unsign_52 : decode cX10_unsign 52 = .ok (.istore_n 2, 1) := by decide +kernel
theorem dX10_unsign_53 : decode cX10_unsign 53 = .ok (.aload_n 0, 1) := by decide +kernel
theorem dX10_unsign_54 : decode cX10_unsign 54 = .ok (.getfield 12, 3) := by decide +kernel
theorem dX10_unsign_57 : decode cX10_unsign 57 = .ok (.iload_n 1, 1) := by decide +kernel
theorem dX10_unsign_58 : decode cX10_unsign 58 = .ok (.invokevirtual 247, 3) := by decide +kernel
theorem dX10_unsign_61 : decode cX10_unsign 61 = .ok (.iload_n 2, 1) := by decide +kernel
theorem dX10_unsign_62 : decode cX10_unsign 62 = .ok (.ireturn, 1) := by decide +kernel
set_option maxRecDepth 20000 in
theorem ggX10_points_X5_holds : GoodIn wsX10_points wsX5_holds := goodIn_r _ [10, 11, 12, 13, 14, 15, 16, 17, 116, 117, 118, 119, 120, 121, 122] (by decide +kernel) (by decide +kernel)
set_option maxRecDepth 20000 in
theorem gX10_points_X5_holds : GoodIn wsX10_points (wsV RX10 108 RX5 yX5_holds wsX5_holds) := goodIn_app (goodIn_of _ (by decide +kernel)) ggX10_points_X5_holds
set_option maxRecDepth 20000 in
theorem ggX10_points_X1_signCounts : GoodIn wsX10_points wsX1_signCounts := goodIn_r _ [22, 23, 24, 25, 21, 26, 27, 28, 29, 13, 14, 15, 16, 17, 30, 31, 32, 33, 34, 35, 36, 37, 38, 39, 40, 41, 42, 43, 44, 45, 108, 109, 110, 111, 112, 113, 114, 115, 122] (by decide +kernel) (by decide +kernel)
set_option maxRecDepth 20000 in
theorem gX10_points_X1_signCounts : GoodIn wsX10_points (wsV RX10 251 RX1 yX1_signCounts wsX1_signCounts) := goodIn_app (goodIn_of _ (by decide +kernel)) ggX10_points_X1_signCounts
set_option maxRecDepth 20000 in
theorem ggX10_points_X9_spread : GoodIn wsX10_points wsX9_spread := goodIn_r _ [50, 51, 52, 53, 54, 55, 56, 57, 15, 58, 17, 59, 60, 61, 62, 63, 64, 65, 49, 66, 67, 13, 14, 16, 68, 69, 70, 71, 72, 73, 74, 21, 75, 27, 38, 29, 76, 77, 78, 9, 79, 80, 123, 124, 125, 126, 127, 128, 129, 108, 109, 122, 110, 111, 112, 113, 114, 115, 116, 117, 118, 119, 120, 121] (by decide +kernel) (by decide +kernel)
set_option maxRecDepth 20000 in
theorem gX10_points_X9_spread : GoodIn wsX10_points (wsV RX10 190 RX9 yX9_spread wsX9_spread) := goodIn_app (goodIn_of _ (by decide +kernel)) ggX10_points_X9_spread
set_option maxRecDepth 20000 in
theorem ggX10_points_X9_signDirection : GoodIn wsX10_points wsX9_signDirection := goodIn_r _ [84, 85, 86, 87, 21, 88, 27, 28, 29, 13, 14, 15, 16, 17, 89, 90, 91, 92, 72, 73, 74, 75, 38, 93, 94, 95, 49, 96, 51, 54, 67, 76, 77, 78, 9, 79, 80, 97, 98, 99, 100, 108, 109, 110, 111, 112, 113, 114, 115, 122, 123, 124, 125, 126, 127, 128, 129, 116, 117, 118, 119, 120, 121] (by decide +kernel) (by decide +kernel)
set_option maxRecDepth 20000 in
theorem gX10_points_X9_signDirection : GoodIn wsX10_points (wsV RX10 254 RX9 yX9_signDirection wsX9_signDirection) := goodIn_app (goodIn_of _ (by decide +kernel)) ggX10_points_X9_signDirection
theorem dX10_points_0 : decode cX10_points 0 = .ok (.aload_n 0, 1) := by decide +kernel
theorem dX10_points_1 : decode cX10_points 1 = .ok (.getfield 12, 3) := by decide +kernel
theorem dX10_points_4 : decode cX10_points 4 = .ok (.getfield 99, 3) := by decide +kernel
theorem dX10_points_7 : decode cX10_points 7 = .ok (.iload_n 1, 1) := by decide +kernel
theorem dX10_points_8 : decode cX10_points 8 = .ok (.invokevirtual 108, 3) := by decide +kernel
theorem dX10_points_11 : decode cX10_points 11 = .ok (.ifCond .ne 5, 3) := by decide +kernel
theorem dX10_points_14 : decode cX10_points 14 = .ok (.iconst (-1), 1) := by decide +kernel
theorem dX10_points_15 : decode cX10_points 15 = .ok (.ireturn, 1) := by decide +kernel
theorem dX10_points_16 : decode cX10_points 16 = .ok (.aload_n 0, 1) := by decide +kernel
theorem dX10_points_17 : decode cX10_points 17 = .ok (.getfield 12, 3) := by decide +kernel
theorem dX10_points_20 : decode cX10_points 20 = .ok (.iload_n 1, 1) := by decide +kernel
theorem dX10_points_21 : decode cX10_points 21 = .ok (.invokevirtual 251, 3) := by decide +kernel
theorem dX10_points_24 : decode cX10_points 24 = .ok (.ifCond .ne 6, 3) := by decide +kernel
theorem dX10_points_27 : decode cX10_points 27 = .ok (.bipush (-2), 2) := by decide +kernel
theorem dX10_points_29 : decode cX10_points 29 = .ok (.ireturn, 1) := by decide +kernel
theorem dX10_points_30 : decode cX10_points 30 = .ok (.aload_n 0, 1) := by decide +kernel
theorem dX10_points_31 : decode cX10_points 31 = .ok (.getfield 33, 3) := by decide +kernel
theorem dX10_points_34 : decode cX10_points 34 = .ok (.aload_n 0, 1) := by decide +kernel
theorem dX10_points_35 : decode cX10_points 35 = .ok (.getfield 12, 3) := by decide +kernel
theorem dX10_points_38 : decode cX10_points 38 = .ok (.aload_n 0, 1) := by decide +kernel
theorem dX10_points_39 : decode cX10_points 39 = .ok (.getfield 12, 3) := by decide +kernel
theorem dX10_points_42 : decode cX10_points 42 = .ok (.getfield 58, 3) := by decide +kernel
theorem dX10_points_45 : decode cX10_points 45 = .ok (.getfield 179, 3) := by decide +kernel
theorem dX10_points_48 : decode cX10_points 48 = .ok (.invokevirtual 190, 3) := by decide +kernel
theorem dX10_points_51 : decode cX10_points 51 = .ok (.aload_n 0, 1) := by decide +kernel
theorem dX10_points_52 : decode cX10_points 52 = .ok (.getfield 33, 3) := by decide +kernel
theorem dX10_points_55 : decode cX10_points 55 = .ok (.aload_n 0, 1) := by decide +kernel
theorem dX10_points_56 : decode cX10_points 56 = .ok (.getfield 12, 3) := by decide +kernel
theorem dX10_points_59 : decode cX10_points 59 = .ok (.iload_n 1, 1) := by decide +kernel
theorem dX10_points_60 : decode cX10_points 60 = .ok (.invokevirtual 254, 3) := by decide +kernel
theorem dX10_points_63 : decode cX10_points 63 = .ok (.istore_n 2, 1) := by decide +kernel
theorem dX10_points_64 : decode cX10_points 64 = .ok (.iload_n 2, 1) := by decide +kernel
theorem dX10_points_65 : decode cX10_points 65 = .ok (.iconst (-1), 1) := by decide +kernel
theorem dX10_points_66 : decode cX10_points 66 = .ok (.if_icmp .ne 8, 3) := by decide +kernel
theorem dX10_points_69 : decode cX10_points 69 = .ok (.bipush (-4), 2) := by decide +kernel
theorem dX10_points_71 : decode cX10_points 71 = .ok (.goto 4, 3) := by decide +kernel
theorem dX10_points_74 : decode cX10_points 74 = .ok (.iload_n 2, 1) := by decide +kernel
theorem dX10_points_75 : decode cX10_points 75 = .ok (.ireturn, 1) := by decide +kernel
set_option maxRecDepth 20000 in
theorem ggX10_walk_X8_go : GoodIn wsX10_walk wsX8_go := goodIn_r _ [11, 12, 13, 14, 15, 16, 17, 18, 19, 20, 21, 22, 23, 24, 25, 26, 27, 28, 29, 30, 31, 32, 33, 34, 35, 36, 37, 38, 39, 40, 41, 42, 43, 44, 45, 46, 47, 48, 49, 50, 51, 52, 53, 54, 55, 56, 57, 58, 59, 60, 61, 62, 63, 64, 65, 66, 67, 68, 69, 10, 70, 71, 72, 73, 74, 75, 76, 77, 78, 79, 80, 81, 82, 83, 84, 85, 86, 87, 88, 89, 90, 91, 92, 93, 94, 95, 96, 97, 98, 99, 100, 101, 102, 103, 104, 105, 106, 107, 108, 109, 110, 111, 112, 113, 114, 115, 116, 117, 118, 119, 120, 121, 122, 123, 124, 125, 126, 127, 128, 129, 142, 143, 144, 145, 146, 147, 148, 149, 137, 138, 139, 140, 141, 150, 151, 152, 153, 154, 155, 156, 157, 158, 159, 160, 161, 162, 163] (by decide +kernel) (by decide +kernel)
set_option maxRecDepth 20000 in
theorem gX10_walk_X8_go : GoodIn wsX10_walk (wsV RX10 257 RX8 yX8_go wsX8_go) := goodIn_app (goodIn_of _ (by decide +kernel)) ggX10_walk_X8_go
theorem dX10_walk_0 : decode cX10_walk 0 = .ok (.iload_n 1, 1) := by decide +kernel
theorem dX10_walk_1 : decode cX10_walk 1 = .ok (.ifCond .lt 19, 3) := by decide +kernel
theorem dX10_walk_4 : decode cX10_walk 4 = .ok (.iload_n 1, 1) := by decide +kernel
theorem dX10_walk_5 : decode cX10_walk 5 = .ok (.sipush 2000, 3) := by decide +kernel
theorem dX10_walk_8 : decode cX10_walk 8 = .ok (.if_icmp .gt 12, 3) := by decide +kernel
theorem dX10_walk_11 : decode cX10_walk 11 = .ok (.iload_n 2, 1) := by decide +kernel
theorem dX10_walk_12 : decode cX10_walk 12 = .ok (.ifCond .lt 8, 3) := by decide +kernel
theorem dX10_walk_15 : decode cX10_walk 15 = .ok (.iload_n 2, 1) := by decide +kernel
theorem dX10_walk_16 : decode cX10_walk 16 = .ok (.iconst 2, 1) := by decide +kernel
theorem dX10_walk_17 : decode cX10_walk 17 = .ok (.if_icmp .le 5, 3) := by decide +kernel
theorem dX10_walk_20 : decode cX10_walk 20 = .ok (.iconst (-1), 1) := by decide +kernel
theorem dX10_walk_21 : decode cX10_walk 21 = .ok (.ireturn, 1) := by decide +kernel
theorem dX10_walk_22 : decode cX10_walk 22 = .ok (.aload_n 0, 1) := by decide +kernel
theorem dX10_walk_23 : decode cX10_walk 23 = .ok (.getfield 40, 3) := by decide +kernel
theorem dX10_walk_26 : decode cX10_walk 26 = .ok (.aload_n 0, 1) := by decide +kernel
theorem dX10_walk_27 : decode cX10_walk 27 = .ok (.getfield 12, 3) := by decide +kernel
theorem dX10_walk_30 : decode cX10_walk 30 = .ok (.aload_n 0, 1) := by decide +kernel
theorem dX10_walk_31 : decode cX10_walk 31 = .ok (.getfield 33, 3) := by decide +kernel
theorem dX10_walk_34 : decode cX10_walk 34 = .ok (.iload_n 1, 1) := by decide +kernel
theorem dX10_walk_35 : decode cX10_walk 35 = .ok (.invokevirtual 257, 3) := by decide +kernel
theorem dX10_walk_38 : decode cX10_walk 38 = .ok (.iload_n 2, 1) := by decide +kernel
theorem dX10_walk_39 : decode cX10_walk 39 = .ok (.lookupswitch 41 #[(0, 25), (1, 33)], 25) := by decide +kernel
theorem dX10_walk_64 : decode cX10_walk 64 = .ok (.aload_n 0, 1) := by decide +kernel
theorem dX10_walk_65 : decode cX10_walk 65 = .ok (.getfield 40, 3) := by decide +kernel
theorem dX10_walk_68 : decode cX10_walk 68 = .ok (.getfield 261, 3) := by decide +kernel
theorem dX10_walk_71 : decode cX10_walk 71 = .ok (.ireturn, 1) := by decide +kernel
theorem dX10_walk_72 : decode cX10_walk 72 = .ok (.aload_n 0, 1) := by decide +kernel
theorem dX10_walk_73 : decode cX10_walk 73 = .ok (.getfield 40, 3) := by decide +kernel
theorem dX10_walk_76 : decode cX10_walk 76 = .ok (.getfield 264, 3) := by decide +kernel
theorem dX10_walk_79 : decode cX10_walk 79 = .ok (.ireturn, 1) := by decide +kernel
theorem dX10_walk_80 : decode cX10_walk 80 = .ok (.aload_n 0, 1) := by decide +kernel
theorem dX10_walk_81 : decode cX10_walk 81 = .ok (.getfield 40, 3) := by decide +kernel
theorem dX10_walk_84 : decode cX10_walk 84 = .ok (.getfield 267, 3) := by decide +kernel
theorem dX10_walk_87 : decode cX10_walk 87 = .ok (.ireturn, 1) := by decide +kernel
set_option maxRecDepth 20000 in
theorem ggX10_walked_X8_go : GoodIn wsX10_walked wsX8_go := goodIn_r _ [12, 13, 14, 15, 16, 17, 18, 19, 20, 21, 22, 23, 24, 25, 26, 27, 28, 29, 30, 31, 32, 33, 34, 35, 36, 37, 38, 39, 40, 41, 42, 43, 44, 45, 46, 47, 48, 49, 50, 51, 52, 53, 54, 55, 56, 57, 58, 59, 60, 61, 62, 63, 64, 65, 66, 67, 68, 69, 70, 11, 71, 72, 73, 74, 75, 76, 77, 78, 79, 80, 81, 82, 83, 84, 85, 86, 87, 88, 89, 90, 91, 92, 93, 94, 95, 96, 97, 98, 99, 100, 101, 102, 103, 104, 105, 106, 107, 108, 109, 110, 111, 112, 113, 114, 115, 116, 117, 118, 119, 120, 121, 122, 123, 124, 125, 126, 127, 128, 129, 130, 143, 144, 145, 146, 147, 148, 149, 150, 138, 139, 140, 141, 142, 151, 152, 153, 154, 155, 156, 157, 158, 159, 160, 161, 162, 163, 164] (by decide +kernel) (by decide +kernel)
set_option maxRecDepth 20000 in
theorem gX10_walked_X8_go : GoodIn wsX10_walked (wsV RX10 257 RX8 yX8_go wsX8_go) := goodIn_app (goodIn_of _ (by decide +kernel)) ggX10_walked_X8_go
theorem dX10_walked_0 : decode cX10_walked 0 = .ok (.aload_n 0, 1) := by decide +kernel
theorem dX10_walked_1 : decode cX10_walked 1 = .ok (.getfield 40, 3) := by decide +kernel
theorem dX10_walked_4 : decode cX10_walked 4 = .ok (.aload_n 0, 1) := by decide +kernel
theorem dX10_walked_5 : decode cX10_walked 5 = .ok (.getfield 12, 3) := by decide +kernel
theorem dX10_walked_8 : decode cX10_walked 8 = .ok (.aload_n 0, 1) := by decide +kernel
theorem dX10_walked_9 : decode cX10_walked 9 = .ok (.getfield 33, 3) := by decide +kernel
theorem dX10_walked_12 : decode cX10_walked 12 = .ok (.sipush 2000, 3) := by decide +kernel
theorem dX10_walked_15 : decode cX10_walked 15 = .ok (.invokevirtual 257, 3) := by decide +kernel
theorem dX10_walked_18 : decode cX10_walked 18 = .ok (.aload_n 0, 1) := by decide +kernel
theorem dX10_walked_19 : decode cX10_walked 19 = .ok (.getfield 40, 3) := by decide +kernel
theorem dX10_walked_22 : decode cX10_walked 22 = .ok (.getfield 261, 3) := by decide +kernel
theorem dX10_walked_25 : decode cX10_walked 25 = .ok (.aload_n 0, 1) := by decide +kernel
theorem dX10_walked_26 : decode cX10_walked 26 = .ok (.getfield 12, 3) := by decide +kernel
theorem dX10_walked_29 : decode cX10_walked 29 = .ok (.getfield 58, 3) := by decide +kernel
theorem dX10_walked_32 : decode cX10_walked 32 = .ok (.getfield 179, 3) := by decide +kernel
theorem dX10_walked_35 : decode cX10_walked 35 = .ok (.if_icmp .ne 13, 3) := by decide +kernel
theorem dX10_walked_38 : decode cX10_walked 38 = .ok (.aload_n 0, 1) := by decide +kernel
theorem dX10_walked_39 : decode cX10_walked 39 = .ok (.getfield 40, 3) := by decide +kernel
theorem dX10_walked_42 : decode cX10_walked 42 = .ok (.getfield 264, 3) := by decide +kernel
theorem dX10_walked_45 : decode cX10_walked 45 = .ok (.goto 5, 3) := by decide +kernel
theorem dX10_walked_48 : decode cX10_walked 48 = .ok (.bipush (-4), 2) := by decide +kernel
theorem dX10_walked_50 : decode cX10_walked 50 = .ok (.ireturn, 1) := by decide +kernel
set_option maxRecDepth 20000 in
theorem ggX10_undo_X0_restore : GoodIn wsX10_undo wsX0_restore := goodIn_r _ [10, 11, 12, 13, 14, 9, 15, 16, 17, 18, 19, 20, 21, 22, 23, 24, 25, 26, 27, 28, 29, 30, 31, 32, 33, 34, 35, 36, 37, 38, 39, 40, 41, 195, 196, 199, 200, 201, 202, 203, 204, 205] (by decide +kernel) (by decide +kernel)
set_option maxRecDepth 20000 in
theorem gX10_undo_X0_restore : GoodIn wsX10_undo (wsV RX10 270 RX0 yX0_restore wsX0_restore) := goodIn_app (goodIn_of _ (by decide +kernel)) ggX10_undo_X0_restore
set_option maxRecDepth 20000 in
theorem ggX10_undo_X5_build : GoodIn wsX10_undo wsX5_build := goodIn_r _ [46, 47, 48, 49, 50, 51, 52, 53, 54, 31, 55, 33, 56, 57, 58, 59, 60, 61, 62, 63, 64, 65, 66, 45, 67, 68, 69, 70, 71, 72, 73, 74, 75, 76, 77, 78, 79, 80, 81, 82, 83, 84, 85, 86, 87, 88, 89, 90, 91, 92, 93, 94, 95, 96, 97, 98, 99, 100, 36, 101, 102, 35, 37, 103, 104, 105, 106, 107, 108, 109, 110, 111, 112, 113, 114, 115, 116, 117, 118, 119, 120, 121, 122, 123, 124, 125, 126, 127, 128, 129, 130, 131, 132, 133, 134, 135, 136, 137, 138, 139, 140, 141, 142, 143, 144, 145, 146, 147, 148, 149, 150, 151, 152, 153, 154, 155, 156, 157, 158, 159, 160, 161, 162, 163, 164, 165, 166, 167, 168, 169, 170, 171, 172, 173, 174, 175, 176, 177, 178, 179, 180, 181, 182, 183, 184, 185, 186, 187, 199, 200, 201, 202, 203, 204, 206, 207, 208, 209, 210, 211, 205] (by decide +kernel) (by decide +kernel)
set_option maxRecDepth 20000 in
theorem gX10_undo_X5_build : GoodIn wsX10_undo (wsV RX10 273 RX5 yX5_build wsX5_build) := goodIn_app (goodIn_of _ (by decide +kernel)) ggX10_undo_X5_build
theorem dX10_undo_0 : decode cX10_undo 0 = .ok (.aload_n 0, 1) := by decide +kernel
theorem dX10_undo_1 : decode cX10_undo 1 = .ok (.getfield 19, 3) := by decide +kernel
theorem dX10_undo_4 : decode cX10_undo 4 = .ok (.getfield 186, 3) := by decide +kernel
theorem dX10_undo_7 : decode cX10_undo 7 = .ok (.ifCond .ne 6, 3) := by decide +kernel
theorem dX10_undo_10 : decode cX10_undo 10 = .ok (.bipush (-2), 2) := by decide +kernel
theorem dX10_undo_12 : decode cX10_undo 12 = .ok (.ireturn, 1) := by decide +kernel
theorem dX10_undo_13 : decode cX10_undo 13 = .ok (.aload_n 0, 1) := by decide +kernel
theorem dX10_undo_14 : decode cX10_undo 14 = .ok (.getfield 19, 3) := by decide +kernel
theorem dX10_undo_17 : decode cX10_undo 17 = .ok (.aload_n 0, 1) := by decide +kernel
theorem dX10_undo_18 : decode cX10_undo 18 = .ok (.getfield 12, 3) := by decide +kernel
theorem dX10_undo_21 : decode cX10_undo 21 = .ok (.getfield 58, 3) := by decide +kernel
theorem dX10_undo_24 : decode cX10_undo 24 = .ok (.invokevirtual 270, 3) := by decide +kernel
theorem dX10_undo_27 : decode cX10_undo 27 = .ok (.aload_n 0, 1) := by decide +kernel
theorem dX10_undo_28 : decode cX10_undo 28 = .ok (.getfield 12, 3) := by decide +kernel
theorem dX10_undo_31 : decode cX10_undo 31 = .ok (.getfield 99, 3) := by decide +kernel
theorem dX10_undo_34 : decode cX10_undo 34 = .ok (.aload_n 0, 1) := by decide +kernel
theorem dX10_undo_35 : decode cX10_undo 35 = .ok (.getfield 12, 3) := by decide +kernel
theorem dX10_undo_38 : decode cX10_undo 38 = .ok (.getfield 58, 3) := by decide +kernel
theorem dX10_undo_41 : decode cX10_undo 41 = .ok (.invokevirtual 273, 3) := by decide +kernel
theorem dX10_undo_44 : decode cX10_undo 44 = .ok (.aload_n 0, 1) := by decide +kernel
theorem dX10_undo_45 : decode cX10_undo 45 = .ok (.getfield 19, 3) := by decide +kernel
theorem dX10_undo_48 : decode cX10_undo 48 = .ok (.getfield 186, 3) := by decide +kernel
theorem dX10_undo_51 : decode cX10_undo 51 = .ok (.ireturn, 1) := by decide +kernel
set_option maxRecDepth 20000 in
theorem ggX10_type_X4_put : GoodIn wsX10_type wsX4_put := goodIn_r _ [8, 9, 19] (by decide +kernel) (by decide +kernel)
set_option maxRecDepth 20000 in
theorem gX10_type_X4_put : GoodIn wsX10_type (wsV RX10 68 RX4 yX4_put wsX4_put) := goodIn_app (goodIn_of _ (by decide +kernel)) ggX10_type_X4_put
theorem dX10_type_0 : decode cX10_type 0 = .ok (.iload_n 1, 1) := by decide +kernel
theorem dX10_type_1 : decode cX10_type 1 = .ok (.bipush 32, 2) := by decide +kernel
theorem dX10_type_3 : decode cX10_type 3 = .ok (.if_icmp .lt 9, 3) := by decide +kernel
theorem dX10_type_6 : decode cX10_type 6 = .ok (.iload_n 1, 1) := by decide +kernel
theorem dX10_type_7 : decode cX10_type 7 = .ok (.bipush 126, 2) := by decide +kernel
theorem dX10_type_9 : decode cX10_type 9 = .ok (.if_icmp .le 5, 3) := by decide +kernel
theorem dX10_type_12 : decode cX10_type 12 = .ok (.iconst (-1), 1) := by decide +kernel
theorem dX10_type_13 : decode cX10_type 13 = .ok (.ireturn, 1) := by decide +kernel
theorem dX10_type_14 : decode cX10_type 14 = .ok (.aload_n 0, 1) := by decide +kernel
theorem dX10_type_15 : decode cX10_type 15 = .ok (.getfield 47, 3) := by decide +kernel
theorem dX10_type_18 : decode cX10_type 18 = .ok (.getfield 96, 3) := by decide +kernel
theorem dX10_type_21 : decode cX10_type 21 = .ok (.sipush 200, 3) := by decide +kernel
theorem dX10_type_24 : decode cX10_type 24 = .ok (.if_icmp .lt 6, 3) := by decide +kernel
theorem dX10_type_27 : decode cX10_type 27 = .ok (.bipush (-3), 2) := by decide +kernel
theorem dX10_type_29 : decode cX10_type 29 = .ok (.ireturn, 1) := by decide +kernel
theorem dX10_type_30 : decode cX10_type 30 = .ok (.aload_n 0, 1) := by decide +kernel
theorem dX10_type_31 : decode cX10_type 31 = .ok (.getfield 47, 3) := by decide +kernel
theorem dX10_type_34 : decode cX10_type 34 = .ok (.getfield 89, 3) := by decide +kernel
theorem dX10_type_37 : decode cX10_type 37 = .ok (.aload_n 0, 1) := by decide +kernel
theorem dX10_type_38 : decode cX10_type 38 = .ok (.getfield 47, 3) := by decide +kernel
theorem dX10_type_41 : decode cX10_type 41 = .ok (.getfield 96, 3) := by decide +kernel
theorem dX10_type_44 : decode cX10_type 44 = .ok (.iload_n 1, 1) := by decide +kernel
theorem dX10_type_45 : decode cX10_type 45 = .ok (.invokevirtual 68, 3) := by decide +kernel
theorem dX10_type_48 : decode cX10_type 48 = .ok (.aload_n 0, 1) := by decide +kernel
theorem dX10_type_49 : decode cX10_type 49 = .ok (.getfield 47, 3) := by decide +kernel
theorem dX10_type_52 : decode cX10_type 52 = .ok (.dup, 1) := by decide +kernel
theorem dX10_type_53 : decode cX10_type 53 = .ok (.getfield 96, 3) := by decide +kernel
theorem dX10_type_56 : decode cX10_type 56 = .ok (.iconst 1, 1) := by decide +kernel
theorem dX10_type_57 : decode cX10_type 57 = .ok (.iadd, 1) := by decide +kernel
theorem dX10_type_58 : decode cX10_type 58 = .ok (.putfield 96, 3) := by decide +kernel
theorem dX10_type_61 : decode cX10_type 61 = .ok (.aload_n 0, 1) := by decide +kernel
theorem dX10_type_62 : decode cX10_type 62 = .ok (.getfield 47, 3) := by decide +kernel
theorem dX10_type_65 : decode cX10_type 65 = .ok (.getfield 96, 3) := by decide +kernel
theorem dX10_type_68 : decode cX10_type 68 = .ok (.ireturn, 1) := by decide +kernel
theorem dX10_clearText_0 : decode cX10_clearText 0 = .ok (.aload_n 0, 1) := by decide +kernel
theorem dX10_clearText_1 : decode cX10_clearText 1 = .ok (.getfield 47, 3) := by decide +kernel
theorem dX10_clearText_4 : decode cX10_clearText 4 = .ok (.getfield 96, 3) := by decide +kernel
theorem dX10_clearText_7 : decode cX10_clearText 7 = .ok (.istore_n 1, 1) := by decide +kernel
theorem dX10_clearText_8 : decode cX10_clearText 8 = .ok (.aload_n 0, 1) := by decide +kernel
theorem dX10_clearText_9 : decode cX10_clearText 9 = .ok (.getfield 47, 3) := by decide +kernel
theorem dX10_clearText_12 : decode cX10_clearText 12 = .ok (.iconst 0, 1) := by decide +kernel
theorem dX10_clearText_13 : decode cX10_clearText 13 = .ok (.putfield 96, 3) := by decide +kernel
theorem dX10_clearText_16 : decode cX10_clearText 16 = .ok (.iload_n 1, 1) := by decide +kernel
theorem dX10_clearText_17 : decode cX10_clearText 17 = .ok (.ireturn, 1) := by decide +kernel
set_option maxRecDepth 20000 in
theorem ggX10_fault_X2_read : GoodIn wsX10_fault wsX2_read := goodIn_r _ [10, 11, 12, 13, 14, 15, 16, 17, 18, 19, 20, 21, 22, 23, 24, 25, 26, 27, 28, 29, 30, 31, 32, 33, 34, 35, 36, 37, 38, 39, 40, 41, 42, 43, 44, 45, 46, 47, 48, 49, 50, 51, 52, 53, 54, 55, 56, 57, 58, 59, 60, 61, 62, 63, 64, 65, 66, 67, 68, 69, 70, 71, 72, 73, 74, 75, 76, 77, 78, 79, 80, 81, 82, 83, 84, 85, 86, 87, 88, 89, 90, 91, 92, 93, 94, 95, 96, 97, 98, 99, 100, 101, 102, 103, 104, 105, 106, 107, 108, 109, 110, 111, 112, 113, 114, 115, 116, 117, 9, 118, 119, 120, 121, 122, 123, 124, 125, 126, 127, 128, 129, 130, 131, 132, 133, 134, 135, 136, 137, 138, 139, 140, 141, 142, 143, 144, 145, 146, 147, 158, 159, 160, 161, 162, 163, 164, 165, 155, 156, 157, 166, 167, 168, 169, 170, 171, 172, 173, 174] (by decide +kernel) (by decide +kernel)
set_option maxRecDepth 20000 in
theorem gX10_fault_X2_read : GoodIn wsX10_fault (wsV RX10 276 RX2 yX2_read wsX2_read) := goodIn_app (goodIn_of _ (by decide +kernel)) ggX10_fault_X2_read
theorem dX10_fault_0 : decode cX10_fault 0 = .ok (.iload_n 1, 1) := by decide +kernel
theorem dX10_fault_1 : decode cX10_fault 1 = .ok (.ifCond .lt 8, 3) := by decide +kernel
theorem dX10_fault_4 : decode cX10_fault 4 = .ok (.iload_n 1, 1) := by decide +kernel
theorem dX10_fault_5 : decode cX10_fault 5 = .ok (.iconst 1, 1) := by decide +kernel
theorem dX10_fault_6 : decode cX10_fault 6 = .ok (.if_icmp .le 5, 3) := by decide +kernel
theorem dX10_fault_9 : decode cX10_fault 9 = .ok (.iconst (-1), 1) := by decide +kernel
theorem dX10_fault_10 : decode cX10_fault 10 = .ok (.ireturn, 1) := by decide +kernel
theorem dX10_fault_11 : decode cX10_fault 11 = .ok (.aload_n 0, 1) := by decide +kernel
theorem dX10_fault_12 : decode cX10_fault 12 = .ok (.getfield 54, 3) := by decide +kernel
theorem dX10_fault_15 : decode cX10_fault 15 = .ok (.aload_n 0, 1) := by decide +kernel
theorem dX10_fault_16 : decode cX10_fault 16 = .ok (.getfield 12, 3) := by decide +kernel
theorem dX10_fault_19 : decode cX10_fault 19 = .ok (.aload_n 0, 1) := by decide +kernel
theorem dX10_fault_20 : decode cX10_fault 20 = .ok (.getfield 47, 3) := by decide +kernel
theorem dX10_fault_23 : decode cX10_fault 23 = .ok (.invokevirtual 276, 3) := by decide +kernel
theorem dX10_fault_26 : decode cX10_fault 26 = .ok (.aload_n 0, 1) := by decide +kernel
theorem dX10_fault_27 : decode cX10_fault 27 = .ok (.getfield 54, 3) := by decide +kernel
theorem dX10_fault_30 : decode cX10_fault 30 = .ok (.getfield 280, 3) := by decide +kernel
theorem dX10_fault_33 : decode cX10_fault 33 = .ok (.ifCond .ne 6, 3) := by decide +kernel
theorem dX10_fault_36 : decode cX10_fault 36 = .ok (.bipush (-4), 2) := by decide +kernel
theorem dX10_fault_38 : decode cX10_fault 38 = .ok (.ireturn, 1) := by decide +kernel
theorem dX10_fault_39 : decode cX10_fault 39 = .ok (.iload_n 1, 1) := by decide +kernel
theorem dX10_fault_40 : decode cX10_fault 40 = .ok (.ifCond .ne 13, 3) := by decide +kernel
theorem dX10_fault_43 : decode cX10_fault 43 = .ok (.aload_n 0, 1) := by decide +kernel
theorem dX10_fault_44 : decode cX10_fault 44 = .ok (.getfield 54, 3) := by decide +kernel
theorem dX10_fault_47 : decode cX10_fault 47 = .ok (.getfield 283, 3) := by decide +kernel
theorem dX10_fault_50 : decode cX10_fault 50 = .ok (.goto 10, 3) := by decide +kernel
theorem dX10_fault_53 : decode cX10_fault 53 = .ok (.aload_n 0, 1) := by decide +kernel
theorem dX10_fault_54 : decode cX10_fault 54 = .ok (.getfield 54, 3) := by decide +kernel
theorem dX10_fault_57 : decode cX10_fault 57 = .ok (.getfield 280, 3) := by decide +kernel
theorem dX10_fault_60 : decode cX10_fault 60 = .ok (.ireturn, 1) := by decide +kernel
theorem dX10_isDirection_0 : decode cX10_isDirection 0 = .ok (.iload_n 0, 1) := by decide +kernel
theorem dX10_isDirection_1 : decode cX10_isDirection 1 = .ok (.ifCond .lt 12, 3) := by decide +kernel
theorem dX10_isDirection_4 : decode cX10_isDirection 4 = .ok (.iload_n 0, 1) := by decide +kernel
theorem dX10_isDirection_5 : decode cX10_isDirection 5 = .ok (.iconst 4, 1) := by decide +kernel
theorem dX10_isDirection_6 : decode cX10_isDirection 6 = .ok (.if_icmp .ge 7, 3) := by decide +kernel
theorem dX10_isDirection_9 : decode cX10_isDirection 9 = .ok (.iconst 1, 1) := by decide +kernel
theorem dX10_isDirection_10 : decode cX10_isDirection 10 = .ok (.goto 4, 3) := by decide +kernel
theorem dX10_isDirection_13 : decode cX10_isDirection 13 = .ok (.iconst 0, 1) := by decide +kernel
theorem dX10_isDirection_14 : decode cX10_isDirection 14 = .ok (.ireturn, 1) := by decide +kernel
set_option maxRecDepth 20000 in
theorem ggX10_isSign_X10_isDirection : GoodIn wsX10_isSign wsX10_isDirection := goodIn_r _ [4] (by decide +kernel) (by decide +kernel)
set_option maxRecDepth 20000 in
theorem gX10_isSign_X10_isDirection : GoodIn wsX10_isSign (va_wsS RX10 134 yX10_isDirection wsX10_isDirection) := goodIn_app (goodIn_of _ (by decide +kernel)) ggX10_isSign_X10_isDirection
theorem dX10_isSign_0 : decode cX10_isSign 0 = .ok (.iload_n 0, 1) := by decide +kernel
theorem dX10_isSign_1 : decode cX10_isSign 1 = .ok (.iconst 2, 1) := by decide +kernel
theorem dX10_isSign_2 : decode cX10_isSign 2 = .ok (.if_icmp .ne 8, 3) := by decide +kernel
theorem dX10_isSign_5 : decode cX10_isSign 5 = .ok (.iload_n 1, 1) := by decide +kernel
theorem dX10_isSign_6 : decode cX10_isSign 6 = .ok (.invokestatic 134, 3) := by decide +kernel
theorem dX10_isSign_9 : decode cX10_isSign 9 = .ok (.ireturn, 1) := by decide +kernel
theorem dX10_isSign_10 : decode cX10_isSign 10 = .ok (.iload_n 0, 1) := by decide +kernel
theorem dX10_isSign_11 : decode cX10_isSign 11 = .ok (.ifCond .lt 16, 3) := by decide +kernel
theorem dX10_isSign_14 : decode cX10_isSign 14 = .ok (.iload_n 0, 1) := by decide +kernel
theorem dX10_isSign_15 : decode cX10_isSign 15 = .ok (.iconst 2, 1) := by decide +kernel
theorem dX10_isSign_16 : decode cX10_isSign 16 = .ok (.if_icmp .ge 11, 3) := by decide +kernel
theorem dX10_isSign_19 : decode cX10_isSign 19 = .ok (.iload_n 1, 1) := by decide +kernel
theorem dX10_isSign_20 : decode cX10_isSign 20 = .ok (.ifCond .ne 7, 3) := by decide +kernel
theorem dX10_isSign_23 : decode cX10_isSign 23 = .ok (.iconst 1, 1) := by decide +kernel
theorem dX10_isSign_24 : decode cX10_isSign 24 = .ok (.goto 4, 3) := by decide +kernel
theorem dX10_isSign_27 : decode cX10_isSign 27 = .ok (.iconst 0, 1) := by decide +kernel
theorem dX10_isSign_28 : decode cX10_isSign 28 = .ok (.ireturn, 1) := by decide +kernel
theorem dX10_opposite_0 : decode cX10_opposite 0 = .ok (.iload_n 0, 1) := by decide +kernel
theorem dX10_opposite_1 : decode cX10_opposite 1 = .ok (.iconst 2, 1) := by decide +kernel
theorem dX10_opposite_2 : decode cX10_opposite 2 = .ok (.iadd, 1) := by decide +kernel
theorem dX10_opposite_3 : decode cX10_opposite 3 = .ok (.iconst 4, 1) := by decide +kernel
theorem dX10_opposite_4 : decode cX10_opposite 4 = .ok (.irem, 1) := by decide +kernel
theorem dX10_opposite_5 : decode cX10_opposite 5 = .ok (.ireturn, 1) := by decide +kernel
theorem dJ11_isValidCodePoint_9a6ad_0 : decode cJ11_isValidCodePoint_9a6ad 0 = .ok (.iload_n 0, 1) := by decide +kernel
theorem dJ11_isValidCodePoint_9a6ad_1 : decode cJ11_isValidCodePoint_9a6ad 1 = .ok (.bipush 16, 2) := by decide +kernel
theorem dJ11_isValidCodePoint_9a6ad_3 : decode cJ11_isValidCodePoint_9a6ad 3 = .ok (.iushr, 1) := by decide +kernel
theorem dJ11_isValidCodePoint_9a6ad_4 : decode cJ11_isValidCodePoint_9a6ad 4 = .ok (.istore_n 1, 1) := by decide +kernel
theorem dJ11_isValidCodePoint_9a6ad_5 : decode cJ11_isValidCodePoint_9a6ad 5 = .ok (.iload_n 1, 1) := by decide +kernel
theorem dJ11_isValidCodePoint_9a6ad_6 : decode cJ11_isValidCodePoint_9a6ad 6 = .ok (.bipush 17, 2) := by decide +kernel
theorem dJ11_isValidCodePoint_9a6ad_8 : decode cJ11_isValidCodePoint_9a6ad 8 = .ok (.if_icmp .ge 7, 3) := by decide +kernel
theorem dJ11_isValidCodePoint_9a6ad_11 : decode cJ11_isValidCodePoint_9a6ad 11 = .ok (.iconst 1, 1) := by decide +kernel
theorem dJ11_isValidCodePoint_9a6ad_12 : decode cJ11_isValidCodePoint_9a6ad 12 = .ok (.goto 4, 3) := by decide +kernel
theorem dJ11_isValidCodePoint_9a6ad_15 : decode cJ11_isValidCodePoint_9a6ad 15 = .ok (.iconst 0, 1) := by decide +kernel
theorem dJ11_isValidCodePoint_9a6ad_16 : decode cJ11_isValidCodePoint_9a6ad 16 = .ok (.ireturn, 1) := by decide +kernel
theorem dJ11_highSurrogate_5068e_0 : decode cJ11_highSurrogate_5068e 0 = .ok (.iload_n 0, 1) := by decide +kernel
theorem dJ11_highSurrogate_5068e_1 : decode cJ11_highSurrogate_5068e 1 = .ok (.bipush 10, 2) := by decide +kernel
theorem dJ11_highSurrogate_5068e_3 : decode cJ11_highSurrogate_5068e 3 = .ok (.iushr, 1) := by decide +kernel
theorem dJ11_highSurrogate_5068e_4 : decode cJ11_highSurrogate_5068e 4 = .ok (.ldc 110, 2) := by decide +kernel
theorem dJ11_highSurrogate_5068e_6 : decode cJ11_highSurrogate_5068e 6 = .ok (.iadd, 1) := by decide +kernel
theorem dJ11_highSurrogate_5068e_7 : decode cJ11_highSurrogate_5068e 7 = .ok (.i2c, 1) := by decide +kernel
theorem dJ11_highSurrogate_5068e_8 : decode cJ11_highSurrogate_5068e 8 = .ok (.ireturn, 1) := by decide +kernel
theorem dJ11_lowSurrogate_5068e_0 : decode cJ11_lowSurrogate_5068e 0 = .ok (.iload_n 0, 1) := by decide +kernel
theorem dJ11_lowSurrogate_5068e_1 : decode cJ11_lowSurrogate_5068e 1 = .ok (.sipush 1023, 3) := by decide +kernel
theorem dJ11_lowSurrogate_5068e_4 : decode cJ11_lowSurrogate_5068e 4 = .ok (.iand, 1) := by decide +kernel
theorem dJ11_lowSurrogate_5068e_5 : decode cJ11_lowSurrogate_5068e 5 = .ok (.ldc 76, 2) := by decide +kernel
theorem dJ11_lowSurrogate_5068e_7 : decode cJ11_lowSurrogate_5068e 7 = .ok (.iadd, 1) := by decide +kernel
theorem dJ11_lowSurrogate_5068e_8 : decode cJ11_lowSurrogate_5068e 8 = .ok (.i2c, 1) := by decide +kernel
theorem dJ11_lowSurrogate_5068e_9 : decode cJ11_lowSurrogate_5068e 9 = .ok (.ireturn, 1) := by decide +kernel
theorem dJ6_bitCount_0f7a4_0 : decode cJ6_bitCount_0f7a4 0 = .ok (.iload_n 0, 1) := by decide +kernel
theorem dJ6_bitCount_0f7a4_1 : decode cJ6_bitCount_0f7a4 1 = .ok (.iload_n 0, 1) := by decide +kernel
theorem dJ6_bitCount_0f7a4_2 : decode cJ6_bitCount_0f7a4 2 = .ok (.iconst 1, 1) := by decide +kernel
theorem dJ6_bitCount_0f7a4_3 : decode cJ6_bitCount_0f7a4 3 = .ok (.iushr, 1) := by decide +kernel
theorem dJ6_bitCount_0f7a4_4 : decode cJ6_bitCount_0f7a4 4 = .ok (.ldc_w 265, 3) := by decide +kernel
theorem dJ6_bitCount_0f7a4_7 : decode cJ6_bitCount_0f7a4 7 = .ok (.iand, 1) := by decide +kernel
theorem dJ6_bitCount_0f7a4_8 : decode cJ6_bitCount_0f7a4 8 = .ok (.isub, 1) := by decide +kernel
theorem dJ6_bitCount_0f7a4_9 : decode cJ6_bitCount_0f7a4 9 = .ok (.istore_n 0, 1) := by decide +kernel
theorem dJ6_bitCount_0f7a4_10 : decode cJ6_bitCount_0f7a4 10 = .ok (.iload_n 0, 1) := by decide +kernel
theorem dJ6_bitCount_0f7a4_11 : decode cJ6_bitCount_0f7a4 11 = .ok (.ldc_w 266, 3) := by decide +kernel
theorem dJ6_bitCount_0f7a4_14 : decode cJ6_bitCount_0f7a4 14 = .ok (.iand, 1) := by decide +kernel
theorem dJ6_bitCount_0f7a4_15 : decode cJ6_bitCount_0f7a4 15 = .ok (.iload_n 0, 1) := by decide +kernel
theorem dJ6_bitCount_0f7a4_16 : decode cJ6_bitCount_0f7a4 16 = .ok (.iconst 2, 1) := by decide +kernel
theorem dJ6_bitCount_0f7a4_17 : decode cJ6_bitCount_0f7a4 17 = .ok (.iushr, 1) := by decide +kernel
theorem dJ6_bitCount_0f7a4_18 : decode cJ6_bitCount_0f7a4 18 = .ok (.ldc_w 266, 3) := by decide +kernel
theorem dJ6_bitCount_0f7a4_21 : decode cJ6_bitCount_0f7a4 21 = .ok (.iand, 1) := by decide +kernel
theorem dJ6_bitCount_0f7a4_22 : decode cJ6_bitCount_0f7a4 22 = .ok (.iadd, 1) := by decide +kernel
theorem dJ6_bitCount_0f7a4_23 : decode cJ6_bitCount_0f7a4 23 = .ok (.istore_n 0, 1) := by decide +kernel
theorem dJ6_bitCount_0f7a4_24 : decode cJ6_bitCount_0f7a4 24 = .ok (.iload_n 0, 1) := by decide +kernel
theorem dJ6_bitCount_0f7a4_25 : decode cJ6_bitCount_0f7a4 25 = .ok (.iload_n 0, 1) := by decide +kernel
theorem dJ6_bitCount_0f7a4_26 : decode cJ6_bitCount_0f7a4 26 = .ok (.iconst 4, 1) := by decide +kernel
theorem dJ6_bitCount_0f7a4_27 : decode cJ6_bitCount_0f7a4 27 = .ok (.iushr, 1) := by decide +kernel
theorem dJ6_bitCount_0f7a4_28 : decode cJ6_bitCount_0f7a4 28 = .ok (.iadd, 1) := by decide +kernel
theorem dJ6_bitCount_0f7a4_29 : decode cJ6_bitCount_0f7a4 29 = .ok (.ldc_w 267, 3) := by decide +kernel
theorem dJ6_bitCount_0f7a4_32 : decode cJ6_bitCount_0f7a4 32 = .ok (.iand, 1) := by decide +kernel
theorem dJ6_bitCount_0f7a4_33 : decode cJ6_bitCount_0f7a4 33 = .ok (.istore_n 0, 1) := by decide +kernel
theorem dJ6_bitCount_0f7a4_34 : decode cJ6_bitCount_0f7a4 34 = .ok (.iload_n 0, 1) := by decide +kernel
theorem dJ6_bitCount_0f7a4_35 : decode cJ6_bitCount_0f7a4 35 = .ok (.iload_n 0, 1) := by decide +kernel
theorem dJ6_bitCount_0f7a4_36 : decode cJ6_bitCount_0f7a4 36 = .ok (.bipush 8, 2) := by decide +kernel
theorem dJ6_bitCount_0f7a4_38 : decode cJ6_bitCount_0f7a4 38 = .ok (.iushr, 1) := by decide +kernel
theorem dJ6_bitCount_0f7a4_39 : decode cJ6_bitCount_0f7a4 39 = .ok (.iadd, 1) := by decide +kernel
theorem dJ6_bitCount_0f7a4_40 : decode cJ6_bitCount_0f7a4 40 = .ok (.istore_n 0, 1) := by decide +kernel
theorem dJ6_bitCount_0f7a4_41 : decode cJ6_bitCount_0f7a4 41 = .ok (.iload_n 0, 1) := by decide +kernel
theorem dJ6_bitCount_0f7a4_42 : decode cJ6_bitCount_0f7a4 42 = .ok (.iload_n 0, 1) := by decide +kernel
theorem dJ6_bitCount_0f7a4_43 : decode cJ6_bitCount_0f7a4 43 = .ok (.bipush 16, 2) := by decide +kernel
theorem dJ6_bitCount_0f7a4_45 : decode cJ6_bitCount_0f7a4 45 = .ok (.iushr, 1) := by decide +kernel
theorem dJ6_bitCount_0f7a4_46 : decode cJ6_bitCount_0f7a4 46 = .ok (.iadd, 1) := by decide +kernel
theorem dJ6_bitCount_0f7a4_47 : decode cJ6_bitCount_0f7a4 47 = .ok (.istore_n 0, 1) := by decide +kernel
theorem dJ6_bitCount_0f7a4_48 : decode cJ6_bitCount_0f7a4 48 = .ok (.iload_n 0, 1) := by decide +kernel
theorem dJ6_bitCount_0f7a4_49 : decode cJ6_bitCount_0f7a4 49 = .ok (.bipush 63, 2) := by decide +kernel
theorem dJ6_bitCount_0f7a4_51 : decode cJ6_bitCount_0f7a4 51 = .ok (.iand, 1) := by decide +kernel
theorem dJ6_bitCount_0f7a4_52 : decode cJ6_bitCount_0f7a4 52 = .ok (.ireturn, 1) := by decide +kernel
theorem dJ9_max_7cf53_0 : decode cJ9_max_7cf53 0 = .ok (.iload_n 0, 1) := by decide +kernel
theorem dJ9_max_7cf53_1 : decode cJ9_max_7cf53 1 = .ok (.iload_n 1, 1) := by decide +kernel
theorem dJ9_max_7cf53_2 : decode cJ9_max_7cf53 2 = .ok (.if_icmp .lt 7, 3) := by decide +kernel
theorem dJ9_max_7cf53_5 : decode cJ9_max_7cf53 5 = .ok (.iload_n 0, 1) := by decide +kernel
theorem dJ9_max_7cf53_6 : decode cJ9_max_7cf53 6 = .ok (.goto 4, 3) := by decide +kernel
theorem dJ9_max_7cf53_9 : decode cJ9_max_7cf53 9 = .ok (.iload_n 1, 1) := by decide +kernel
theorem dJ9_max_7cf53_10 : decode cJ9_max_7cf53 10 = .ok (.ireturn, 1) := by decide +kernel
theorem dJ9_min_7cf53_0 : decode cJ9_min_7cf53 0 = .ok (.iload_n 0, 1) := by decide +kernel
theorem dJ9_min_7cf53_1 : decode cJ9_min_7cf53 1 = .ok (.iload_n 1, 1) := by decide +kernel
theorem dJ9_min_7cf53_2 : decode cJ9_min_7cf53 2 = .ok (.if_icmp .gt 7, 3) := by decide +kernel
theorem dJ9_min_7cf53_5 : decode cJ9_min_7cf53 5 = .ok (.iload_n 0, 1) := by decide +kernel
theorem dJ9_min_7cf53_6 : decode cJ9_min_7cf53 6 = .ok (.goto 4, 3) := by decide +kernel
theorem dJ9_min_7cf53_9 : decode cJ9_min_7cf53 9 = .ok (.iload_n 1, 1) := by decide +kernel
theorem dJ9_min_7cf53_10 : decode cJ9_min_7cf53 10 = .ok (.ireturn, 1) := by decide +kernel
set_option maxRecDepth 20000 in
theorem ggJ0_length_8abf5_J0_coder_7d493 : GoodIn wsJ0_length_8abf5 wsJ0_coder_7d493 := goodIn_r _ [6, 7, 8] (by decide +kernel) (by decide +kernel)
set_option maxRecDepth 20000 in
theorem gJ0_length_8abf5_J0_coder_7d493 : GoodIn wsJ0_length_8abf5 (wsV RJ0 335 RJ0 yJ0_coder_7d493 wsJ0_coder_7d493) := goodIn_app (goodIn_of _ (by decide +kernel)) ggJ0_length_8abf5_J0_coder_7d493
theorem dJ0_length_8abf5_0 : decode cJ0_length_8abf5 0 = .ok (.aload_n 0, 1) := by decide +kernel
theorem dJ0_length_8abf5_1 : decode cJ0_length_8abf5 1 = .ok (.getfield 9, 3) := by decide +kernel
theorem dJ0_length_8abf5_4 : decode cJ0_length_8abf5 4 = .ok (.arraylength, 1) := by decide +kernel
theorem dJ0_length_8abf5_5 : decode cJ0_length_8abf5 5 = .ok (.aload_n 0, 1) := by decide +kernel
theorem dJ0_length_8abf5_6 : decode cJ0_length_8abf5 6 = .ok (.invokevirtual 335, 3) := by decide +kernel
theorem dJ0_length_8abf5_9 : decode cJ0_length_8abf5 9 = .ok (.ishr, 1) := by decide +kernel
theorem dJ0_length_8abf5_10 : decode cJ0_length_8abf5 10 = .ok (.ireturn, 1) := by decide +kernel
set_option maxRecDepth 20000 in
theorem ggJ0_indexOf_0f7a4_J0_indexOf_7cf53 : GoodIn wsJ0_indexOf_0f7a4 wsJ0_indexOf_7cf53 := goodIn_r _ [5, 6, 7, 8, 9, 4, 10, 11, 12, 13, 14, 15, 16, 17, 18, 19, 20, 21, 22, 23, 24, 25, 26, 27, 28, 29, 30, 31, 32, 33, 34, 35, 36, 37, 38, 39, 40, 41, 42, 43, 44, 45, 46, 47, 48, 49, 50, 51, 52, 53, 54, 55, 56, 57, 58, 59, 60, 61, 62, 63, 64, 65, 66, 67, 68, 69, 70, 71, 72, 73, 74, 75, 76, 77, 78, 79, 80, 81, 82, 83, 84, 85] (by decide +kernel) (by decide +kernel)
set_option maxRecDepth 20000 in
theorem gJ0_indexOf_0f7a4_J0_indexOf_7cf53 : GoodIn wsJ0_indexOf_0f7a4 (wsV RJ0 633 RJ0 yJ0_indexOf_7cf53 wsJ0_indexOf_7cf53) := goodIn_app (goodIn_of _ (by decide +kernel)) ggJ0_indexOf_0f7a4_J0_indexOf_7cf53
theorem dJ0_indexOf_0f7a4_0 : decode cJ0_indexOf_0f7a4 0 = .ok (.aload_n 0, 1) := by decide +kernel
theorem dJ0_indexOf_0f7a4_1 : decode cJ0_indexOf_0f7a4 1 = .ok (.iload_n 1, 1) := by decide +kernel
theorem dJ0_indexOf_0f7a4_2 : decode cJ0_indexOf_0f7a4 2 = .ok (.iconst 0, 1) := by decide +kernel
theorem dJ0_indexOf_0f7a4_3 : decode cJ0_indexOf_0f7a4 3 = .ok (.invokevirtual 633, 3) := by decide +kernel
theorem dJ0_indexOf_0f7a4_6 : decode cJ0_indexOf_0f7a4 6 = .ok (.ireturn, 1) := by decide +kernel
set_option maxRecDepth 20000 in
theorem ggJ0_indexOf_7cf53_J0_isLatin1_aae02 : GoodIn wsJ0_indexOf_7cf53 wsJ0_isLatin1_aae02 := goodIn_r _ [6, 7, 8] (by decide +kernel) (by decide +kernel)
set_option maxRecDepth 20000 in
theorem gJ0_indexOf_7cf53_J0_isLatin1_aae02 : GoodIn wsJ0_indexOf_7cf53 (wsV RJ0 492 RJ0 yJ0_isLatin1_aae02 wsJ0_isLatin1_aae02) := goodIn_app (goodIn_of _ (by decide +kernel)) ggJ0_indexOf_7cf53_J0_isLatin1_aae02
set_option maxRecDepth 20000 in
theorem ggJ0_indexOf_7cf53_J0_length_8abf5 : GoodIn wsJ0_indexOf_7cf53 wsJ0_length_8abf5 := goodIn_r _ [12, 1, 13, 14, 15, 5, 16, 7, 8] (by decide +kernel) (by decide +kernel)
set_option maxRecDepth 20000 in
theorem gJ0_indexOf_7cf53_J0_length_8abf5 : GoodIn wsJ0_indexOf_7cf53 (wsV RJ0 505 RJ0 yJ0_length_8abf5 wsJ0_length_8abf5) := goodIn_app (goodIn_of _ (by decide +kernel)) ggJ0_indexOf_7cf53_J0_length_8abf5
set_option maxRecDepth 20000 in
theorem ggJ0_indexOf_7cf53_J1_indexOf_4cfef : GoodIn wsJ0_indexOf_7cf53 wsJ1_indexOf_4cfef := goodIn_r _ [20, 21, 22, 23, 24, 25, 26, 27, 28, 29, 19, 30, 31, 32, 33] (by decide +kernel) (by decide +kernel)
set_option maxRecDepth 20000 in
theorem gJ0_indexOf_7cf53_J1_indexOf_4cfef : GoodIn wsJ0_indexOf_7cf53 (va_wsS RJ0 637 yJ1_indexOf_4cfef wsJ1_indexOf_4cfef) := goodIn_app (goodIn_of _ (by decide +kernel)) ggJ0_indexOf_7cf53_J1_indexOf_4cfef
set_option maxRecDepth 20000 in
theorem ggJ0_indexOf_7cf53_J2_indexOf_4cfef : GoodIn wsJ0_indexOf_7cf53 wsJ2_indexOf_4cfef := goodIn_r _ [37, 38, 22, 23, 24, 39, 26, 27, 40, 41, 42, 36, 43, 44, 45, 46, 47, 48, 49, 50, 51, 5, 52, 53, 54, 55, 56, 57, 58, 59, 60, 61, 62, 63, 64, 65, 66, 67, 68, 69, 70, 71, 72, 73, 74, 75, 76, 77, 78, 79, 80, 81] (by decide +kernel) (by decide +kernel)
set_option maxRecDepth 20000 in
theorem gJ0_indexOf_7cf53_J2_indexOf_4cfef : GoodIn wsJ0_indexOf_7cf53 (va_wsS RJ0 640 yJ2_indexOf_4cfef wsJ2_indexOf_4cfef) := goodIn_app (goodIn_of _ (by decide +kernel)) ggJ0_indexOf_7cf53_J2_indexOf_4cfef
theorem dJ0_indexOf_7cf53_0 : decode cJ0_indexOf_7cf53 0 = .ok (.aload_n 0, 1) := by decide +kernel
theorem dJ0_indexOf_7cf53_1 : decode cJ0_indexOf_7cf53 1 = .ok (.invokevirtual 492, 3) := by decide +kernel
theorem dJ0_indexOf_7cf53_4 : decode cJ0_indexOf_7cf53 4 = .ok (.ifCond .eq 19, 3) := by decide +kernel
theorem dJ0_indexOf_7cf53_7 : decode cJ0_indexOf_7cf53 7 = .ok (.aload_n 0, 1) := by decide +kernel
theorem dJ0_indexOf_7cf53_8 : decode cJ0_indexOf_7cf53 8 = .ok (.getfield 9, 3) := by decide +kernel
theorem dJ0_indexOf_7cf53_11 : decode cJ0_indexOf_7cf53 11 = .ok (.iload_n 1, 1) := by decide +kernel
theorem dJ0_indexOf_7cf53_12 : decode cJ0_indexOf_7cf53 12 = .ok (.iload_n 2, 1) := by decide +kernel
theorem dJ0_indexOf_7cf53_13 : decode cJ0_indexOf_7cf53 13 = .ok (.aload_n 0, 1) := by decide +kernel
theorem dJ0_indexOf_7cf53_14 : decode cJ0_indexOf_7cf53 14 = .ok (.invokevirtual 505, 3) := by decide +kernel
theorem dJ0_indexOf_7cf53_17 : decode cJ0_indexOf_7cf53 17 = .ok (.invokestatic 637, 3) := by decide +kernel
theorem dJ0_indexOf_7cf53_20 : decode cJ0_indexOf_7cf53 20 = .ok (.goto 16, 3) := by decide +kernel
theorem dJ0_indexOf_7cf53_23 : decode cJ0_indexOf_7cf53 23 = .ok (.aload_n 0, 1) := by decide +kernel
theorem dJ0_indexOf_7cf53_24 : decode cJ0_indexOf_7cf53 24 = .ok (.getfield 9, 3) := by decide +kernel
theorem dJ0_indexOf_7cf53_27 : decode cJ0_indexOf_7cf53 27 = .ok (.iload_n 1, 1) := by decide +kernel
theorem dJ0_indexOf_7cf53_28 : decode cJ0_indexOf_7cf53 28 = .ok (.iload_n 2, 1) := by decide +kernel
theorem dJ0_indexOf_7cf53_29 : decode cJ0_indexOf_7cf53 29 = .ok (.aload_n 0, 1) := by decide +kernel
theorem dJ0_indexOf_7cf53_30 : decode cJ0_indexOf_7cf53 30 = .ok (.invokevirtual 505, 3) := by decide +kernel
theorem dJ0_indexOf_7cf53_33 : decode cJ0_indexOf_7cf53 33 = .ok (.invokestatic 640, 3) := by decide +kernel
theorem dJ0_indexOf_7cf53_36 : decode cJ0_indexOf_7cf53 36 = .ok (.ireturn, 1) := by decide +kernel
theorem dJ0_coder_7d493_0 : decode cJ0_coder_7d493 0 = .ok (.getstatic 38, 3) := by decide +kernel
theorem dJ0_coder_7d493_3 : decode cJ0_coder_7d493 3 = .ok (.ifCond .eq 10, 3) := by decide +kernel
theorem dJ0_coder_7d493_6 : decode cJ0_coder_7d493 6 = .ok (.aload_n 0, 1) := by decide +kernel
theorem dJ0_coder_7d493_7 : decode cJ0_coder_7d493 7 = .ok (.getfield 15, 3) := by decide +kernel
theorem dJ0_coder_7d493_10 : decode cJ0_coder_7d493 10 = .ok (.goto 4, 3) := by decide +kernel
theorem dJ0_coder_7d493_13 : decode cJ0_coder_7d493 13 = .ok (.iconst 1, 1) := by decide +kernel
theorem dJ0_coder_7d493_14 : decode cJ0_coder_7d493 14 = .ok (.ireturn, 1) := by decide +kernel
theorem dJ0_isLatin1_aae02_0 : decode cJ0_isLatin1_aae02 0 = .ok (.getstatic 38, 3) := by decide +kernel
theorem dJ0_isLatin1_aae02_3 : decode cJ0_isLatin1_aae02 3 = .ok (.ifCond .eq 14, 3) := by decide +kernel
theorem dJ0_isLatin1_aae02_6 : decode cJ0_isLatin1_aae02 6 = .ok (.aload_n 0, 1) := by decide +kernel
theorem dJ0_isLatin1_aae02_7 : decode cJ0_isLatin1_aae02 7 = .ok (.getfield 15, 3) := by decide +kernel
theorem dJ0_isLatin1_aae02_10 : decode cJ0_isLatin1_aae02 10 = .ok (.ifCond .ne 7, 3) := by decide +kernel
theorem dJ0_isLatin1_aae02_13 : decode cJ0_isLatin1_aae02 13 = .ok (.iconst 1, 1) := by decide +kernel
theorem dJ0_isLatin1_aae02_14 : decode cJ0_isLatin1_aae02 14 = .ok (.goto 4, 3) := by decide +kernel
theorem dJ0_isLatin1_aae02_17 : decode cJ0_isLatin1_aae02 17 = .ok (.iconst 0, 1) := by decide +kernel
theorem dJ0_isLatin1_aae02_18 : decode cJ0_isLatin1_aae02 18 = .ok (.ireturn, 1) := by decide +kernel
set_option maxRecDepth 20000 in
theorem ggJ0_checkBoundsBeginEnd_23922_J3_checkFromToIndex_8c36e : GoodIn wsJ0_checkBoundsBeginEnd_23922 wsJ3_checkFromToIndex_8c36e := goodIn_r _ [5] (by decide +kernel) (by decide +kernel)
set_option maxRecDepth 20000 in
theorem gJ0_checkBoundsBeginEnd_23922_J3_checkFromToIndex_8c36e : GoodIn wsJ0_checkBoundsBeginEnd_23922 (va_wsS RJ0 1062 yJ3_checkFromToIndex_8c36e wsJ3_checkFromToIndex_8c36e) := goodIn_app (goodIn_of _ (by decide +kernel)) ggJ0_checkBoundsBeginEnd_23922_J3_checkFromToIndex_8c36e
theorem dJ0_checkBoundsBeginEnd_23922_0 : decode cJ0_checkBoundsBeginEnd_23922 0 = .ok (.iload_n 0, 1) := by decide +kernel
theorem dJ0_checkBoundsBeginEnd_23922_1 : decode cJ0_checkBoundsBeginEnd_23922 1 = .ok (.iload_n 1, 1) := by decide +kernel
theorem dJ0_checkBoundsBeginEnd_23922_2 : decode cJ0_checkBoundsBeginEnd_23922 2 = .ok (.iload_n 2, 1) := by decide +kernel
theorem dJ0_checkBoundsBeginEnd_23922_3 : decode cJ0_checkBoundsBeginEnd_23922 3 = .ok (.getstatic 1053, 3) := by decide +kernel
theorem dJ0_checkBoundsBeginEnd_23922_6 : decode cJ0_checkBoundsBeginEnd_23922 6 = .ok (.invokestatic 1062, 3) := by decide +kernel
theorem dJ0_checkBoundsBeginEnd_23922_9 : decode cJ0_checkBoundsBeginEnd_23922 9 = .ok (.pop, 1) := by decide +kernel
theorem dJ0_checkBoundsBeginEnd_23922_10 : decode cJ0_checkBoundsBeginEnd_23922 10 = .ok (.return_, 1) := by decide +kernel
theorem dJ1_canEncode_9a6ad_0 : decode cJ1_canEncode_9a6ad 0 = .ok (.iload_n 0, 1) := by decide +kernel
theorem dJ1_canEncode_9a6ad_1 : decode cJ1_canEncode_9a6ad 1 = .ok (.ifCond .lt 14, 3) := by decide +kernel
theorem dJ1_canEncode_9a6ad_4 : decode cJ1_canEncode_9a6ad 4 = .ok (.iload_n 0, 1) := by decide +kernel
theorem dJ1_canEncode_9a6ad_5 : decode cJ1_canEncode_9a6ad 5 = .ok (.sipush 255, 3) := by decide +kernel
theorem dJ1_canEncode_9a6ad_8 : decode cJ1_canEncode_9a6ad 8 = .ok (.if_icmp .gt 7, 3) := by decide +kernel
theorem dJ1_canEncode_9a6ad_11 : decode cJ1_canEncode_9a6ad 11 = .ok (.iconst 1, 1) := by decide +kernel
theorem dJ1_canEncode_9a6ad_12 : decode cJ1_canEncode_9a6ad 12 = .ok (.goto 4, 3) := by decide +kernel
theorem dJ1_canEncode_9a6ad_15 : decode cJ1_canEncode_9a6ad 15 = .ok (.iconst 0, 1) := by decide +kernel
theorem dJ1_canEncode_9a6ad_16 : decode cJ1_canEncode_9a6ad 16 = .ok (.ireturn, 1) := by decide +kernel
set_option maxRecDepth 20000 in
theorem ggJ1_indexOf_4cfef_J1_canEncode_9a6ad : GoodIn wsJ1_indexOf_4cfef wsJ1_canEncode_9a6ad := goodIn_r _ [11] (by decide +kernel) (by decide +kernel)
set_option maxRecDepth 20000 in
theorem gJ1_indexOf_4cfef_J1_canEncode_9a6ad : GoodIn wsJ1_indexOf_4cfef (va_wsS RJ1 88 yJ1_canEncode_9a6ad wsJ1_canEncode_9a6ad) := goodIn_app (goodIn_of _ (by decide +kernel)) ggJ1_indexOf_4cfef_J1_canEncode_9a6ad
set_option maxRecDepth 20000 in
theorem ggJ1_indexOf_4cfef_J1_indexOfChar_4cfef : GoodIn wsJ1_indexOf_4cfef wsJ1_indexOfChar_4cfef := goodIn_r _ [14] (by decide +kernel) (by decide +kernel)
set_option maxRecDepth 20000 in
theorem gJ1_indexOf_4cfef_J1_indexOfChar_4cfef : GoodIn wsJ1_indexOf_4cfef (va_wsS RJ1 95 yJ1_indexOfChar_4cfef wsJ1_indexOfChar_4cfef) := goodIn_app (goodIn_of _ (by decide +kernel)) ggJ1_indexOf_4cfef_J1_indexOfChar_4cfef
theorem dJ1_indexOf_4cfef_0 : decode cJ1_indexOf_4cfef 0 = .ok (.iload_n 1, 1) := by decide +kernel
theorem dJ1_indexOf_4cfef_1 : decode cJ1_indexOf_4cfef 1 = .ok (.invokestatic 88, 3) := by decide +kernel
theorem dJ1_indexOf_4cfef_4 : decode cJ1_indexOf_4cfef 4 = .ok (.ifCond .ne 5, 3) := by decide +kernel
theorem dJ1_indexOf_4cfef_7 : decode cJ1_indexOf_4cfef 7 = .ok (.iconst (-1), 1) := by decide +kernel
theorem dJ1_indexOf_4cfef_8 : decode cJ1_indexOf_4cfef 8 = .ok (.ireturn, 1) := by decide +kernel
theorem dJ1_indexOf_4cfef_9 : decode cJ1_indexOf_4cfef 9 = .ok (.iload_n 2, 1) := by decide +kernel
theorem dJ1_indexOf_4cfef_10 : decode cJ1_indexOf_4cfef 10 = .ok (.iconst 0, 1) := by decide +kernel
theorem dJ1_indexOf_4cfef_11 : decode cJ1_indexOf_4cfef 11 = .ok (.invokestatic 92, 3) := by decide +kernel
theorem dJ1_indexOf_4cfef_14 : decode cJ1_indexOf_4cfef 14 = .ok (.istore_n 2, 1) := by decide +kernel
theorem dJ1_indexOf_4cfef_15 : decode cJ1_indexOf_4cfef 15 = .ok (.iload_n 3, 1) := by decide +kernel
theorem dJ1_indexOf_4cfef_16 : decode cJ1_indexOf_4cfef 16 = .ok (.aload_n 0, 1) := by decide +kernel
theorem dJ1_indexOf_4cfef_17 : decode cJ1_indexOf_4cfef 17 = .ok (.arraylength, 1) := by decide +kernel
theorem dJ1_indexOf_4cfef_18 : decode cJ1_indexOf_4cfef 18 = .ok (.invokestatic 38, 3) := by decide +kernel
theorem dJ1_indexOf_4cfef_21 : decode cJ1_indexOf_4cfef 21 = .ok (.istore_n 3, 1) := by decide +kernel
theorem dJ1_indexOf_4cfef_22 : decode cJ1_indexOf_4cfef 22 = .ok (.iload_n 2, 1) := by decide +kernel
theorem dJ1_indexOf_4cfef_23 : decode cJ1_indexOf_4cfef 23 = .ok (.iload_n 3, 1) := by decide +kernel
theorem dJ1_indexOf_4cfef_24 : decode cJ1_indexOf_4cfef 24 = .ok (.if_icmp .lt 5, 3) := by decide +kernel
theorem dJ1_indexOf_4cfef_27 : decode cJ1_indexOf_4cfef 27 = .ok (.iconst (-1), 1) := by decide +kernel
theorem dJ1_indexOf_4cfef_28 : decode cJ1_indexOf_4cfef 28 = .ok (.ireturn, 1) := by decide +kernel
theorem dJ1_indexOf_4cfef_29 : decode cJ1_indexOf_4cfef 29 = .ok (.aload_n 0, 1) := by decide +kernel
theorem dJ1_indexOf_4cfef_30 : decode cJ1_indexOf_4cfef 30 = .ok (.iload_n 1, 1) := by decide +kernel
theorem dJ1_indexOf_4cfef_31 : decode cJ1_indexOf_4cfef 31 = .ok (.iload_n 2, 1) := by decide +kernel
theorem dJ1_indexOf_4cfef_32 : decode cJ1_indexOf_4cfef 32 = .ok (.iload_n 3, 1) := by decide +kernel
theorem dJ1_indexOf_4cfef_33 : decode cJ1_indexOf_4cfef 33 = .ok (.invokestatic 95, 3) := by decide +kernel
theorem dJ1_indexOf_4cfef_36 : decode cJ1_indexOf_4cfef 36 = .ok (.ireturn, 1) := by decide +kernel
theorem dJ1_indexOfChar_4cfef_0 : decode cJ1_indexOfChar_4cfef 0 = .ok (.iload_n 1, 1) := by decide +kernel
theorem dJ1_indexOfChar_4cfef_1 : decode cJ1_indexOfChar_4cfef 1 = .ok (.i2b, 1) := by decide +kernel
theorem dJ1_indexOfChar_4cfef_2 : decode cJ1_indexOfChar_4cfef 2 = .ok (.istore 4, 2) := by decide +kernel
theorem dJ1_indexOfChar_4cfef_4 : decode cJ1_indexOfChar_4cfef 4 = .ok (.iload_n 2, 1) := by decide +kernel
theorem dJ1_indexOfChar_4cfef_5 : decode cJ1_indexOfChar_4cfef 5 = .ok (.istore 5, 2) := by decide +kernel
theorem dJ1_indexOfChar_4cfef_7 : decode cJ1_indexOfChar_4cfef 7 = .ok (.iload 5, 2) := by decide +kernel
theorem dJ1_indexOfChar_4cfef_9 : decode cJ1_indexOfChar_4cfef 9 = .ok (.iload_n 3, 1) := by decide +kernel
theorem dJ1_indexOfChar_4cfef_10 : decode cJ1_indexOfChar_4cfef 10 = .ok (.if_icmp .ge 21, 3) := by decide +kernel
theorem dJ1_indexOfChar_4cfef_13 : decode cJ1_indexOfChar_4cfef 13 = .ok (.aload_n 0, 1) := by decide +kernel
theorem dJ1_indexOfChar_4cfef_14 : decode cJ1_indexOfChar_4cfef 14 = .ok (.iload 5, 2) := by decide +kernel
theorem dJ1_indexOfChar_4cfef_16 : decode cJ1_indexOfChar_4cfef 16 = .ok (.baload, 1) := by decide +kernel
theorem dJ1_indexOfChar_4cfef_17 : decode cJ1_indexOfChar_4cfef 17 = .ok (.iload 4, 2) := by decide +kernel
theorem dJ1_indexOfChar_4cfef_19 : decode cJ1_indexOfChar_4cfef 19 = .ok (.if_icmp .ne 6, 3) := by decide +kernel
theorem dJ1_indexOfChar_4cfef_22 : decode cJ1_indexOfChar_4cfef 22 = .ok (.iload 5, 2) := by decide +kernel
theorem dJ1_indexOfChar_4cfef_24 : decode cJ1_indexOfChar_4cfef 24 = .ok (.ireturn, 1) := by decide +kernel
theorem dJ1_indexOfChar_4cfef_25 : decode cJ1_indexOfChar_4cfef 25 = .ok (.iinc 5 1, 3) := by decide +kernel
theorem dJ1_indexOfChar_4cfef_28 : decode cJ1_indexOfChar_4cfef 28 = .ok (.goto (-21), 3) := by decide +kernel
theorem dJ1_indexOfChar_4cfef_31 : decode cJ1_indexOfChar_4cfef 31 = .ok (.iconst (-1), 1) := by decide +kernel
theorem dJ1_indexOfChar_4cfef_32 : decode cJ1_indexOfChar_4cfef 32 = .ok (.ireturn, 1) := by decide +kernel
set_option maxRecDepth 20000 in
theorem ggJ2_getChar_3b067_J2_length_9d52b : GoodIn wsJ2_getChar_3b067 wsJ2_length_9d52b := goodIn_r _ [7] (by decide +kernel) (by decide +kernel)
set_option maxRecDepth 20000 in
theorem gJ2_getChar_3b067_J2_length_9d52b : GoodIn wsJ2_getChar_3b067 (va_wsS RJ2 48 yJ2_length_9d52b wsJ2_length_9d52b) := goodIn_app (goodIn_of _ (by decide +kernel)) ggJ2_getChar_3b067_J2_length_9d52b
theorem dJ2_getChar_3b067_0 : decode cJ2_getChar_3b067 0 = .ok (.getstatic 44, 3) := by decide +kernel
theorem dJ2_getChar_3b067_3 : decode cJ2_getChar_3b067 3 = .ok (.ifCond .ne 25, 3) := by decide +kernel
theorem dJ2_getChar_3b067_6 : decode cJ2_getChar_3b067 6 = .ok (.iload_n 1, 1) := by decide +kernel
theorem dJ2_getChar_3b067_7 : decode cJ2_getChar_3b067 7 = .ok (.ifCond .lt 11, 3) := by decide +kernel
theorem dJ2_getChar_3b067_10 : decode cJ2_getChar_3b067 10 = .ok (.iload_n 1, 1) := by decide +kernel
theorem dJ2_getChar_3b067_11 : decode cJ2_getChar_3b067 11 = .ok (.aload_n 0, 1) := by decide +kernel
theorem dJ2_getChar_3b067_12 : decode cJ2_getChar_3b067 12 = .ok (.invokestatic 48, 3) := by decide +kernel
theorem dJ2_getChar_3b067_15 : decode cJ2_getChar_3b067 15 = .ok (.if_icmp .lt 13, 3) := by decide +kernel
theorem dJ2_getChar_3b067_18 : decode cJ2_getChar_3b067 18 = .ok (.new 52, 3) := by decide +kernel
theorem dJ2_getChar_3b067_21 : decode cJ2_getChar_3b067 21 = .ok (.dup, 1) := by decide +kernel
theorem dJ2_getChar_3b067_22 : decode cJ2_getChar_3b067 22 = .ok (.ldc 54, 2) := by decide +kernel
theorem dJ2_getChar_3b067_24 : decode cJ2_getChar_3b067 24 = .ok (.invokespecial 56, 3) := by decide +kernel
theorem dJ2_getChar_3b067_27 : decode cJ2_getChar_3b067 27 = .ok (.athrow, 1) := by decide +kernel
theorem dJ2_getChar_3b067_28 : decode cJ2_getChar_3b067 28 = .ok (.iload_n 1, 1) := by decide +kernel
theorem dJ2_getChar_3b067_29 : decode cJ2_getChar_3b067 29 = .ok (.iconst 1, 1) := by decide +kernel
theorem dJ2_getChar_3b067_30 : decode cJ2_getChar_3b067 30 = .ok (.ishl, 1) := by decide +kernel
theorem dJ2_getChar_3b067_31 : decode cJ2_getChar_3b067 31 = .ok (.istore_n 1, 1) := by decide +kernel
theorem dJ2_getChar_3b067_32 : decode cJ2_getChar_3b067 32 = .ok (.aload_n 0, 1) := by decide +kernel
theorem dJ2_getChar_3b067_33 : decode cJ2_getChar_3b067 33 = .ok (.iload_n 1, 1) := by decide +kernel
theorem dJ2_getChar_3b067_34 : decode cJ2_getChar_3b067 34 = .ok (.iinc 1 1, 3) := by decide +kernel
theorem dJ2_getChar_3b067_37 : decode cJ2_getChar_3b067 37 = .ok (.baload, 1) := by decide +kernel
theorem dJ2_getChar_3b067_38 : decode cJ2_getChar_3b067 38 = .ok (.sipush 255, 3) := by decide +kernel
theorem dJ2_getChar_3b067_41 : decode cJ2_getChar_3b067 41 = .ok (.iand, 1) := by decide +kernel
theorem dJ2_getChar_3b067_42 : decode cJ2_getChar_3b067 42 = .ok (.getstatic 59, 3) := by decide +kernel
theorem dJ2_getChar_3b067_45 : decode cJ2_getChar_3b067 45 = .ok (.ishl, 1) := by decide +kernel
theorem dJ2_getChar_3b067_46 : decode cJ2_getChar_3b067 46 = .ok (.aload_n 0, 1) := by decide +kernel
theorem dJ2_getChar_3b067_47 : decode cJ2_getChar_3b067 47 = .ok (.iload_n 1, 1) := by decide +kernel
theorem dJ2_getChar_3b067_48 : decode cJ2_getChar_3b067 48 = .ok (.baload, 1) := by decide +kernel
theorem dJ2_getChar_3b067_49 : decode cJ2_getChar_3b067 49 = .ok (.sipush 255, 3) := by decide +kernel
theorem dJ2_getChar_3b067_52 : decode cJ2_getChar_3b067 52 = .ok (.iand, 1) := by decide +kernel
theorem dJ2_getChar_3b067_53 : decode cJ2_getChar_3b067 53 = .ok (.getstatic 63, 3) := by decide +kernel
theorem dJ2_getChar_3b067_56 : decode cJ2_getChar_3b067 56 = .ok (.ishl, 1) := by decide +kernel
theorem dJ2_getChar_3b067_57 : decode cJ2_getChar_3b067 57 = .ok (.ior, 1) := by decide +kernel
theorem dJ2_getChar_3b067_58 : decode cJ2_getChar_3b067 58 = .ok (.i2c, 1) := by decide +kernel
theorem dJ2_getChar_3b067_59 : decode cJ2_getChar_3b067 59 = .ok (.ireturn, 1) := by decide +kernel
theorem dJ2_length_9d52b_0 : decode cJ2_length_9d52b 0 = .ok (.aload_n 0, 1) := by decide +kernel
theorem dJ2_length_9d52b_1 : decode cJ2_length_9d52b 1 = .ok (.arraylength, 1) := by decide +kernel
theorem dJ2_length_9d52b_2 : decode cJ2_length_9d52b 2 = .ok (.iconst 1, 1) := by decide +kernel
theorem dJ2_length_9d52b_3 : decode cJ2_length_9d52b 3 = .ok (.ishr, 1) := by decide +kernel
theorem dJ2_length_9d52b_4 : decode cJ2_length_9d52b 4 = .ok (.ireturn, 1) := by decide +kernel
set_option maxRecDepth 20000 in
theorem ggJ2_indexOf_4cfef_J2_indexOfChar_4cfef : GoodIn wsJ2_indexOf_4cfef wsJ2_indexOfChar_4cfef := goodIn_r _ [12, 13, 14, 11, 15, 16, 17, 18, 19, 20, 21, 22, 23, 24, 25, 26, 27, 28, 29, 30, 31, 32, 33, 34, 35, 36] (by decide +kernel) (by decide +kernel)
set_option maxRecDepth 20000 in
theorem gJ2_indexOf_4cfef_J2_indexOfChar_4cfef : GoodIn wsJ2_indexOf_4cfef (va_wsS RJ2 228 yJ2_indexOfChar_4cfef wsJ2_indexOfChar_4cfef) := goodIn_app (goodIn_of _ (by decide +kernel)) ggJ2_indexOf_4cfef_J2_indexOfChar_4cfef
set_option maxRecDepth 20000 in
theorem ggJ2_indexOf_4cfef_J2_indexOfSupplementary_4cfef : GoodIn wsJ2_indexOf_4cfef wsJ2_indexOfSupplementary_4cfef := goodIn_r _ [39, 40, 41, 42, 43, 44, 45, 46, 47, 48, 49, 50, 51, 13, 14, 11, 15, 16, 17, 18, 19, 20, 21, 22, 23, 24, 25, 26, 27, 31, 32, 33, 34, 35, 36] (by decide +kernel) (by decide +kernel)
set_option maxRecDepth 20000 in
theorem gJ2_indexOf_4cfef_J2_indexOfSupplementary_4cfef : GoodIn wsJ2_indexOf_4cfef (va_wsS RJ2 232 yJ2_indexOfSupplementary_4cfef wsJ2_indexOfSupplementary_4cfef) := goodIn_app (goodIn_of _ (by decide +kernel)) ggJ2_indexOf_4cfef_J2_indexOfSupplementary_4cfef
theorem dJ2_indexOf_4cfef_0 : decode cJ2_indexOf_4cfef 0 = .ok (.iload_n 2, 1) := by decide +kernel
theorem dJ2_indexOf_4cfef_1 : decode cJ2_indexOf_4cfef 1 = .ok (.iconst 0, 1) := by decide +kernel
theorem dJ2_indexOf_4cfef_2 : decode cJ2_indexOf_4cfef 2 = .ok (.invokestatic 224, 3) := by decide +kernel
theorem dJ2_indexOf_4cfef_5 : decode cJ2_indexOf_4cfef 5 = .ok (.istore_n 2, 1) := by decide +kernel
theorem dJ2_indexOf_4cfef_6 : decode cJ2_indexOf_4cfef 6 = .ok (.iload_n 3, 1) := by decide +kernel
theorem dJ2_indexOf_4cfef_7 : decode cJ2_indexOf_4cfef 7 = .ok (.aload_n 0, 1) := by decide +kernel
theorem dJ2_indexOf_4cfef_8 : decode cJ2_indexOf_4cfef 8 = .ok (.arraylength, 1) := by decide +kernel
theorem dJ2_indexOf_4cfef_9 : decode cJ2_indexOf_4cfef 9 = .ok (.iconst 1, 1) := by decide +kernel
theorem dJ2_indexOf_4cfef_10 : decode cJ2_indexOf_4cfef 10 = .ok (.ishr, 1) := by decide +kernel
theorem dJ2_indexOf_4cfef_11 : decode cJ2_indexOf_4cfef 11 = .ok (.invokestatic 183, 3) := by decide +kernel
theorem dJ2_indexOf_4cfef_14 : decode cJ2_indexOf_4cfef 14 = .ok (.istore_n 3, 1) := by decide +kernel
theorem dJ2_indexOf_4cfef_15 : decode cJ2_indexOf_4cfef 15 = .ok (.iload_n 2, 1) := by decide +kernel
theorem dJ2_indexOf_4cfef_16 : decode cJ2_indexOf_4cfef 16 = .ok (.iload_n 3, 1) := by decide +kernel
theorem dJ2_indexOf_4cfef_17 : decode cJ2_indexOf_4cfef 17 = .ok (.if_icmp .lt 5, 3) := by decide +kernel
theorem dJ2_indexOf_4cfef_20 : decode cJ2_indexOf_4cfef 20 = .ok (.iconst (-1), 1) := by decide +kernel
theorem dJ2_indexOf_4cfef_21 : decode cJ2_indexOf_4cfef 21 = .ok (.ireturn, 1) := by decide +kernel
theorem dJ2_indexOf_4cfef_22 : decode cJ2_indexOf_4cfef 22 = .ok (.iload_n 1, 1) := by decide +kernel
theorem dJ2_indexOf_4cfef_23 : decode cJ2_indexOf_4cfef 23 = .ok (.ldc 227, 2) := by decide +kernel
theorem dJ2_indexOf_4cfef_25 : decode cJ2_indexOf_4cfef 25 = .ok (.if_icmp .ge 11, 3) := by decide +kernel
theorem dJ2_indexOf_4cfef_28 : decode cJ2_indexOf_4cfef 28 = .ok (.aload_n 0, 1) := by decide +kernel
theorem dJ2_indexOf_4cfef_29 : decode cJ2_indexOf_4cfef 29 = .ok (.iload_n 1, 1) := by decide +kernel
theorem dJ2_indexOf_4cfef_30 : decode cJ2_indexOf_4cfef 30 = .ok (.iload_n 2, 1) := by decide +kernel
theorem dJ2_indexOf_4cfef_31 : decode cJ2_indexOf_4cfef 31 = .ok (.iload_n 3, 1) := by decide +kernel
theorem dJ2_indexOf_4cfef_32 : decode cJ2_indexOf_4cfef 32 = .ok (.invokestatic 228, 3) := by decide +kernel
theorem dJ2_indexOf_4cfef_35 : decode cJ2_indexOf_4cfef 35 = .ok (.ireturn, 1) := by decide +kernel
theorem dJ2_indexOf_4cfef_36 : decode cJ2_indexOf_4cfef 36 = .ok (.aload_n 0, 1) := by decide +kernel
theorem dJ2_indexOf_4cfef_37 : decode cJ2_indexOf_4cfef 37 = .ok (.iload_n 1, 1) := by decide +kernel
theorem dJ2_indexOf_4cfef_38 : decode cJ2_indexOf_4cfef 38 = .ok (.iload_n 2, 1) := by decide +kernel
theorem dJ2_indexOf_4cfef_39 : decode cJ2_indexOf_4cfef 39 = .ok (.iload_n 3, 1) := by decide +kernel
theorem dJ2_indexOf_4cfef_40 : decode cJ2_indexOf_4cfef 40 = .ok (.invokestatic 232, 3) := by decide +kernel
theorem dJ2_indexOf_4cfef_43 : decode cJ2_indexOf_4cfef 43 = .ok (.ireturn, 1) := by decide +kernel
set_option maxRecDepth 20000 in
theorem ggJ2_indexOfChar_4cfef_J2_checkBoundsBeginEnd_d044e : GoodIn wsJ2_indexOfChar_4cfef wsJ2_checkBoundsBeginEnd_d044e := goodIn_r _ [4, 5, 6, 3, 7, 8, 9, 10, 11, 12, 13, 14, 15, 16] (by decide +kernel) (by decide +kernel)
set_option maxRecDepth 20000 in
theorem gJ2_indexOfChar_4cfef_J2_checkBoundsBeginEnd_d044e : GoodIn wsJ2_indexOfChar_4cfef (va_wsS RJ2 96 yJ2_checkBoundsBeginEnd_d044e wsJ2_checkBoundsBeginEnd_d044e) := goodIn_app (goodIn_of _ (by decide +kernel)) ggJ2_indexOfChar_4cfef_J2_checkBoundsBeginEnd_d044e
set_option maxRecDepth 20000 in
theorem ggJ2_indexOfChar_4cfef_J2_indexOfCharUnsafe_4cfef : GoodIn wsJ2_indexOfChar_4cfef wsJ2_indexOfCharUnsafe_4cfef := goodIn_r _ [19, 20, 21, 3, 22, 23, 24, 25, 5, 6, 7] (by decide +kernel) (by decide +kernel)
set_option maxRecDepth 20000 in
theorem gJ2_indexOfChar_4cfef_J2_indexOfCharUnsafe_4cfef : GoodIn wsJ2_indexOfChar_4cfef (va_wsS RJ2 244 yJ2_indexOfCharUnsafe_4cfef wsJ2_indexOfCharUnsafe_4cfef) := goodIn_app (goodIn_of _ (by decide +kernel)) ggJ2_indexOfChar_4cfef_J2_indexOfCharUnsafe_4cfef
theorem dJ2_indexOfChar_4cfef_0 : decode cJ2_indexOfChar_4cfef 0 = .ok (.iload_n 2, 1) := by decide +kernel
theorem dJ2_indexOfChar_4cfef_1 : decode cJ2_indexOfChar_4cfef 1 = .ok (.iload_n 3, 1) := by decide +kernel
theorem dJ2_indexOfChar_4cfef_2 : decode cJ2_indexOfChar_4cfef 2 = .ok (.aload_n 0, 1) := by decide +kernel
theorem dJ2_indexOfChar_4cfef_3 : decode cJ2_indexOfChar_4cfef 3 = .ok (.invokestatic 96, 3) := by decide +kernel
theorem dJ2_indexOfChar_4cfef_6 : decode cJ2_indexOfChar_4cfef 6 = .ok (.aload_n 0, 1) := by decide +kernel
theorem dJ2_indexOfChar_4cfef_7 : decode cJ2_indexOfChar_4cfef 7 = .ok (.iload_n 1, 1) := by decide +kernel
theorem dJ2_indexOfChar_4cfef_8 : decode cJ2_indexOfChar_4cfef 8 = .ok (.iload_n 2, 1) := by decide +kernel
theorem dJ2_indexOfChar_4cfef_9 : decode cJ2_indexOfChar_4cfef 9 = .ok (.iload_n 3, 1) := by decide +kernel
theorem dJ2_indexOfChar_4cfef_10 : decode cJ2_indexOfChar_4cfef 10 = .ok (.invokestatic 244, 3) := by decide +kernel
theorem dJ2_indexOfChar_4cfef_13 : decode cJ2_indexOfChar_4cfef 13 = .ok (.ireturn, 1) := by decide +kernel
set_option maxRecDepth 20000 in
theorem ggJ2_indexOfCharUnsafe_4cfef_J2_getChar_3b067 : GoodIn wsJ2_indexOfCharUnsafe_4cfef wsJ2_getChar_3b067 := goodIn_r _ [4, 5, 6, 7, 8, 9, 3, 10] (by decide +kernel) (by decide +kernel)
set_option maxRecDepth 20000 in
theorem gJ2_indexOfCharUnsafe_4cfef_J2_getChar_3b067 : GoodIn wsJ2_indexOfCharUnsafe_4cfef (va_wsS RJ2 71 yJ2_getChar_3b067 wsJ2_getChar_3b067) := goodIn_app (goodIn_of _ (by decide +kernel)) ggJ2_indexOfCharUnsafe_4cfef_J2_getChar_3b067
theorem dJ2_indexOfCharUnsafe_4cfef_0 : decode cJ2_indexOfCharUnsafe_4cfef 0 = .ok (.iload_n 2, 1) := by decide +kernel
theorem dJ2_indexOfCharUnsafe_4cfef_1 : decode cJ2_indexOfCharUnsafe_4cfef 1 = .ok (.istore 4, 2) := by decide +kernel
theorem dJ2_indexOfCharUnsafe_4cfef_3 : decode cJ2_indexOfCharUnsafe_4cfef 3 = .ok (.iload 4, 2) := by decide +kernel
theorem dJ2_indexOfCharUnsafe_4cfef_5 : decode cJ2_indexOfCharUnsafe_4cfef 5 = .ok (.iload_n 3, 1) := by decide +kernel
theorem dJ2_indexOfCharUnsafe_4cfef_6 : decode cJ2_indexOfCharUnsafe_4cfef 6 = .ok (.if_icmp .ge 22, 3) := by decide +kernel
theorem dJ2_indexOfCharUnsafe_4cfef_9 : decode cJ2_indexOfCharUnsafe_4cfef 9 = .ok (.aload_n 0, 1) := by decide +kernel
theorem dJ2_indexOfCharUnsafe_4cfef_10 : decode cJ2_indexOfCharUnsafe_4cfef 10 = .ok (.iload 4, 2) := by decide +kernel
theorem dJ2_indexOfCharUnsafe_4cfef_12 : decode cJ2_indexOfCharUnsafe_4cfef 12 = .ok (.invokestatic 71, 3) := by decide +kernel
theorem dJ2_indexOfCharUnsafe_4cfef_15 : decode cJ2_indexOfCharUnsafe_4cfef 15 = .ok (.iload_n 1, 1) := by decide +kernel
theorem dJ2_indexOfCharUnsafe_4cfef_16 : decode cJ2_indexOfCharUnsafe_4cfef 16 = .ok (.if_icmp .ne 6, 3) := by decide +kernel
theorem dJ2_indexOfCharUnsafe_4cfef_19 : decode cJ2_indexOfCharUnsafe_4cfef 19 = .ok (.iload 4, 2) := by decide +kernel
theorem dJ2_indexOfCharUnsafe_4cfef_21 : decode cJ2_indexOfCharUnsafe_4cfef 21 = .ok (.ireturn, 1) := by decide +kernel
theorem dJ2_indexOfCharUnsafe_4cfef_22 : decode cJ2_indexOfCharUnsafe_4cfef 22 = .ok (.iinc 4 1, 3) := by decide +kernel
theorem dJ2_indexOfCharUnsafe_4cfef_25 : decode cJ2_indexOfCharUnsafe_4cfef 25 = .ok (.goto (-22), 3) := by decide +kernel
theorem dJ2_indexOfCharUnsafe_4cfef_28 : decode cJ2_indexOfCharUnsafe_4cfef 28 = .ok (.iconst (-1), 1) := by decide +kernel
theorem dJ2_indexOfCharUnsafe_4cfef_29 : decode cJ2_indexOfCharUnsafe_4cfef 29 = .ok (.ireturn, 1) := by decide +kernel
set_option maxRecDepth 20000 in
theorem ggJ2_indexOfSupplementary_4cfef_J11_isValidCodePoint_9a6ad : GoodIn wsJ2_indexOfSupplementary_4cfef wsJ11_isValidCodePoint_9a6ad := goodIn_r _ [4] (by decide +kernel) (by decide +kernel)
set_option maxRecDepth 20000 in
theorem gJ2_indexOfSupplementary_4cfef_J11_isValidCodePoint_9a6ad : GoodIn wsJ2_indexOfSupplementary_4cfef (va_wsS RJ2 164 yJ11_isValidCodePoint_9a6ad wsJ11_isValidCodePoint_9a6ad) := goodIn_app (goodIn_of _ (by decide +kernel)) ggJ2_indexOfSupplementary_4cfef_J11_isValidCodePoint_9a6ad
set_option maxRecDepth 20000 in
theorem ggJ2_indexOfSupplementary_4cfef_J11_highSurrogate_5068e : GoodIn wsJ2_indexOfSupplementary_4cfef wsJ11_highSurrogate_5068e := goodIn_r _ [7, 8] (by decide +kernel) (by decide +kernel)
set_option maxRecDepth 20000 in
theorem gJ2_indexOfSupplementary_4cfef_J11_highSurrogate_5068e : GoodIn wsJ2_indexOfSupplementary_4cfef (va_wsS RJ2 157 yJ11_highSurrogate_5068e wsJ11_highSurrogate_5068e) := goodIn_app (goodIn_of _ (by decide +kernel)) ggJ2_indexOfSupplementary_4cfef_J11_highSurrogate_5068e
set_option maxRecDepth 20000 in
theorem ggJ2_indexOfSupplementary_4cfef_J11_lowSurrogate_5068e : GoodIn wsJ2_indexOfSupplementary_4cfef wsJ11_lowSurrogate_5068e := goodIn_r _ [11, 12] (by decide +kernel) (by decide +kernel)
set_option maxRecDepth 20000 in
theorem gJ2_indexOfSupplementary_4cfef_J11_lowSurrogate_5068e : GoodIn wsJ2_indexOfSupplementary_4cfef (va_wsS RJ2 161 yJ11_lowSurrogate_5068e wsJ11_lowSurrogate_5068e) := goodIn_app (goodIn_of _ (by decide +kernel)) ggJ2_indexOfSupplementary_4cfef_J11_lowSurrogate_5068e
set_option maxRecDepth 20000 in
theorem ggJ2_indexOfSupplementary_4cfef_J2_checkBoundsBeginEnd_d044e : GoodIn wsJ2_indexOfSupplementary_4cfef wsJ2_checkBoundsBeginEnd_d044e := goodIn_r _ [16, 17, 18, 15, 19, 20, 21, 22, 23, 24, 25, 26, 27, 28] (by decide +kernel) (by decide +kernel)
set_option maxRecDepth 20000 in
theorem gJ2_indexOfSupplementary_4cfef_J2_checkBoundsBeginEnd_d044e : GoodIn wsJ2_indexOfSupplementary_4cfef (va_wsS RJ2 96 yJ2_checkBoundsBeginEnd_d044e wsJ2_checkBoundsBeginEnd_d044e) := goodIn_app (goodIn_of _ (by decide +kernel)) ggJ2_indexOfSupplementary_4cfef_J2_checkBoundsBeginEnd_d044e
set_option maxRecDepth 20000 in
theorem ggJ2_indexOfSupplementary_4cfef_J2_getChar_3b067 : GoodIn wsJ2_indexOfSupplementary_4cfef wsJ2_getChar_3b067 := goodIn_r _ [31, 32, 33, 34, 17, 18, 15, 19] (by decide +kernel) (by decide +kernel)
set_option maxRecDepth 20000 in
theorem gJ2_indexOfSupplementary_4cfef_J2_getChar_3b067 : GoodIn wsJ2_indexOfSupplementary_4cfef (va_wsS RJ2 71 yJ2_getChar_3b067 wsJ2_getChar_3b067) := goodIn_app (goodIn_of _ (by decide +kernel)) ggJ2_indexOfSupplementary_4cfef_J2_getChar_3b067
theorem dJ2_indexOfSupplementary_4cfef_0 : decode cJ2_indexOfSupplementary_4cfef 0 = .ok (.iload_n 1, 1) := by decide +kernel
theorem dJ2_indexOfSupplementary_4cfef_1 : decode cJ2_indexOfSupplementary_4cfef 1 = .ok (.invokestatic 164, 3) := by decide +kernel
theorem dJ2_indexOfSupplementary_4cfef_4 : decode cJ2_indexOfSupplementary_4cfef 4 = .ok (.ifCond .eq 65, 3) := by decide +kernel
theorem dJ2_indexOfSupplementary_4cfef_7 : decode cJ2_indexOfSupplementary_4cfef 7 = .ok (.iload_n 1, 1) := by decide +kernel
theorem dJ2_indexOfSupplementary_4cfef_8 : decode cJ2_indexOfSupplementary_4cfef 8 = .ok (.invokestatic 157, 3) := by decide +kernel
theorem dJ2_indexOfSupplementary_4cfef_11 : decode cJ2_indexOfSupplementary_4cfef 11 = .ok (.istore 4, 2) := by decide +kernel
theorem dJ2_indexOfSupplementary_4cfef_13 : decode cJ2_indexOfSupplementary_4cfef 13 = .ok (.iload_n 1, 1) := by decide +kernel
theorem dJ2_indexOfSupplementary_4cfef_14 : decode cJ2_indexOfSupplementary_4cfef 14 = .ok (.invokestatic 161, 3) := by decide +kernel
theorem dJ2_indexOfSupplementary_4cfef_17 : decode cJ2_indexOfSupplementary_4cfef 17 = .ok (.istore 5, 2) := by decide +kernel
theorem dJ2_indexOfSupplementary_4cfef_19 : decode cJ2_indexOfSupplementary_4cfef 19 = .ok (.iload_n 2, 1) := by decide +kernel
theorem dJ2_indexOfSupplementary_4cfef_20 : decode cJ2_indexOfSupplementary_4cfef 20 = .ok (.iload_n 3, 1) := by decide +kernel
theorem dJ2_indexOfSupplementary_4cfef_21 : decode cJ2_indexOfSupplementary_4cfef 21 = .ok (.aload_n 0, 1) := by decide +kernel
theorem dJ2_indexOfSupplementary_4cfef_22 : decode cJ2_indexOfSupplementary_4cfef 22 = .ok (.invokestatic 96, 3) := by decide +kernel
theorem dJ2_indexOfSupplementary_4cfef_25 : decode cJ2_indexOfSupplementary_4cfef 25 = .ok (.iload_n 2, 1) := by decide +kernel
theorem dJ2_indexOfSupplementary_4cfef_26 : decode cJ2_indexOfSupplementary_4cfef 26 = .ok (.istore 6, 2) := by decide +kernel
theorem dJ2_indexOfSupplementary_4cfef_28 : decode cJ2_indexOfSupplementary_4cfef 28 = .ok (.iload 6, 2) := by decide +kernel
theorem dJ2_indexOfSupplementary_4cfef_30 : decode cJ2_indexOfSupplementary_4cfef 30 = .ok (.iload_n 3, 1) := by decide +kernel
theorem dJ2_indexOfSupplementary_4cfef_31 : decode cJ2_indexOfSupplementary_4cfef 31 = .ok (.iconst 1, 1) := by decide +kernel
theorem dJ2_indexOfSupplementary_4cfef_32 : decode cJ2_indexOfSupplementary_4cfef 32 = .ok (.isub, 1) := by decide +kernel
theorem dJ2_indexOfSupplementary_4cfef_33 : decode cJ2_indexOfSupplementary_4cfef 33 = .ok (.if_icmp .ge 36, 3) := by decide +kernel
theorem dJ2_indexOfSupplementary_4cfef_36 : decode cJ2_indexOfSupplementary_4cfef 36 = .ok (.aload_n 0, 1) := by decide +kernel
theorem dJ2_indexOfSupplementary_4cfef_37 : decode cJ2_indexOfSupplementary_4cfef 37 = .ok (.iload 6, 2) := by decide +kernel
theorem dJ2_indexOfSupplementary_4cfef_39 : decode cJ2_indexOfSupplementary_4cfef 39 = .ok (.invokestatic 71, 3) := by decide +kernel
theorem dJ2_indexOfSupplementary_4cfef_42 : decode cJ2_indexOfSupplementary_4cfef 42 = .ok (.iload 4, 2) := by decide +kernel
theorem dJ2_indexOfSupplementary_4cfef_44 : decode cJ2_indexOfSupplementary_4cfef 44 = .ok (.if_icmp .ne 19, 3) := by decide +kernel
theorem dJ2_indexOfSupplementary_4cfef_47 : decode cJ2_indexOfSupplementary_4cfef 47 = .ok (.aload_n 0, 1) := by decide +kernel
theorem dJ2_indexOfSupplementary_4cfef_48 : decode cJ2_indexOfSupplementary_4cfef 48 = .ok (.iload 6, 2) := by decide +kernel
theorem dJ2_indexOfSupplementary_4cfef_50 : decode cJ2_indexOfSupplementary_4cfef 50 = .ok (.iconst 1, 1) := by decide +kernel
theorem dJ2_indexOfSupplementary_4cfef_51 : decode cJ2_indexOfSupplementary_4cfef 51 = .ok (.iadd, 1) := by decide +kernel
theorem dJ2_indexOfSupplementary_4cfef_52 : decode cJ2_indexOfSupplementary_4cfef 52 = .ok (.invokestatic 71, 3) := by decide +kernel
theorem dJ2_indexOfSupplementary_4cfef_55 : decode cJ2_indexOfSupplementary_4cfef 55 = .ok (.iload 5, 2) := by decide +kernel
theorem dJ2_indexOfSupplementary_4cfef_57 : decode cJ2_indexOfSupplementary_4cfef 57 = .ok (.if_icmp .ne 6, 3) := by decide +kernel
theorem dJ2_indexOfSupplementary_4cfef_60 : decode cJ2_indexOfSupplementary_4cfef 60 = .ok (.iload 6, 2) := by decide +kernel
theorem dJ2_indexOfSupplementary_4cfef_62 : decode cJ2_indexOfSupplementary_4cfef 62 = .ok (.ireturn, 1) := by decide +kernel
theorem dJ2_indexOfSupplementary_4cfef_63 : decode cJ2_indexOfSupplementary_4cfef 63 = .ok (.iinc 6 1, 3) := by decide +kernel
theorem dJ2_indexOfSupplementary_4cfef_66 : decode cJ2_indexOfSupplementary_4cfef 66 = .ok (.goto (-38), 3) := by decide +kernel
theorem dJ2_indexOfSupplementary_4cfef_69 : decode cJ2_indexOfSupplementary_4cfef 69 = .ok (.iconst (-1), 1) := by decide +kernel
theorem dJ2_indexOfSupplementary_4cfef_70 : decode cJ2_indexOfSupplementary_4cfef 70 = .ok (.ireturn, 1) := by decide +kernel
set_option maxRecDepth 20000 in
theorem ggJ2_checkBoundsBeginEnd_d044e_J2_length_9d52b : GoodIn wsJ2_checkBoundsBeginEnd_d044e wsJ2_length_9d52b := goodIn_r _ [4] (by decide +kernel) (by decide +kernel)
set_option maxRecDepth 20000 in
theorem gJ2_checkBoundsBeginEnd_d044e_J2_length_9d52b : GoodIn wsJ2_checkBoundsBeginEnd_d044e (va_wsS RJ2 48 yJ2_length_9d52b wsJ2_length_9d52b) := goodIn_app (goodIn_of _ (by decide +kernel)) ggJ2_checkBoundsBeginEnd_d044e_J2_length_9d52b
set_option maxRecDepth 20000 in
theorem ggJ2_checkBoundsBeginEnd_d044e_J0_checkBoundsBeginEnd_23922 : GoodIn wsJ2_checkBoundsBeginEnd_d044e wsJ0_checkBoundsBeginEnd_23922 := goodIn_r _ [8, 9, 10, 11, 12, 13] (by decide +kernel) (by decide +kernel)
set_option maxRecDepth 20000 in
theorem gJ2_checkBoundsBeginEnd_d044e_J0_checkBoundsBeginEnd_23922 : GoodIn wsJ2_checkBoundsBeginEnd_d044e (va_wsS RJ2 241 yJ0_checkBoundsBeginEnd_23922 wsJ0_checkBoundsBeginEnd_23922) := goodIn_app (goodIn_of _ (by decide +kernel)) ggJ2_checkBoundsBeginEnd_d044e_J0_checkBoundsBeginEnd_23922
theorem dJ2_checkBoundsBeginEnd_d044e_0 : decode cJ2_checkBoundsBeginEnd_d044e 0 = .ok (.iload_n 0, 1) := by decide +kernel
theorem dJ2_checkBoundsBeginEnd_d044e_1 : decode cJ2_checkBoundsBeginEnd_d044e 1 = .ok (.iload_n 1, 1) := by decide +kernel
theorem dJ2_checkBoundsBeginEnd_d044e_2 : decode cJ2_checkBoundsBeginEnd_d044e 2 = .ok (.aload_n 2, 1) := by decide +kernel
theorem dJ2_checkBoundsBeginEnd_d044e_3 : decode cJ2_checkBoundsBeginEnd_d044e 3 = .ok (.invokestatic 48, 3) := by decide +kernel
theorem dJ2_checkBoundsBeginEnd_d044e_6 : decode cJ2_checkBoundsBeginEnd_d044e 6 = .ok (.invokestatic 241, 3) := by decide +kernel
theorem dJ2_checkBoundsBeginEnd_d044e_9 : decode cJ2_checkBoundsBeginEnd_d044e 9 = .ok (.return_, 1) := by decide +kernel
theorem dJ7_fill_53178_0 : decode cJ7_fill_53178 0 = .ok (.iconst 0, 1) := by decide +kernel
theorem dJ7_fill_53178_1 : decode cJ7_fill_53178 1 = .ok (.istore_n 2, 1) := by decide +kernel
theorem dJ7_fill_53178_2 : decode cJ7_fill_53178 2 = .ok (.aload_n 0, 1) := by decide +kernel
theorem dJ7_fill_53178_3 : decode cJ7_fill_53178 3 = .ok (.arraylength, 1) := by decide +kernel
theorem dJ7_fill_53178_4 : decode cJ7_fill_53178 4 = .ok (.istore_n 3, 1) := by decide +kernel
theorem dJ7_fill_53178_5 : decode cJ7_fill_53178 5 = .ok (.iload_n 2, 1) := by decide +kernel
theorem dJ7_fill_53178_6 : decode cJ7_fill_53178 6 = .ok (.iload_n 3, 1) := by decide +kernel
theorem dJ7_fill_53178_7 : decode cJ7_fill_53178 7 = .ok (.if_icmp .ge 13, 3) := by decide +kernel
theorem dJ7_fill_53178_10 : decode cJ7_fill_53178 10 = .ok (.aload_n 0, 1) := by decide +kernel
theorem dJ7_fill_53178_11 : decode cJ7_fill_53178 11 = .ok (.iload_n 2, 1) := by decide +kernel
theorem dJ7_fill_53178_12 : decode cJ7_fill_53178 12 = .ok (.iload_n 1, 1) := by decide +kernel
theorem dJ7_fill_53178_13 : decode cJ7_fill_53178 13 = .ok (.iastore, 1) := by decide +kernel
theorem dJ7_fill_53178_14 : decode cJ7_fill_53178 14 = .ok (.iinc 2 1, 3) := by decide +kernel
theorem dJ7_fill_53178_17 : decode cJ7_fill_53178 17 = .ok (.goto (-12), 3) := by decide +kernel
theorem dJ7_fill_53178_20 : decode cJ7_fill_53178 20 = .ok (.return_, 1) := by decide +kernel
theorem dJ3_checkFromToIndex_8c36e_0 : decode cJ3_checkFromToIndex_8c36e 0 = .ok (.iload_n 0, 1) := by decide +kernel
theorem dJ3_checkFromToIndex_8c36e_1 : decode cJ3_checkFromToIndex_8c36e 1 = .ok (.ifCond .lt 13, 3) := by decide +kernel
theorem dJ3_checkFromToIndex_8c36e_4 : decode cJ3_checkFromToIndex_8c36e 4 = .ok (.iload_n 0, 1) := by decide +kernel
theorem dJ3_checkFromToIndex_8c36e_5 : decode cJ3_checkFromToIndex_8c36e 5 = .ok (.iload_n 1, 1) := by decide +kernel
theorem dJ3_checkFromToIndex_8c36e_6 : decode cJ3_checkFromToIndex_8c36e 6 = .ok (.if_icmp .gt 8, 3) := by decide +kernel
theorem dJ3_checkFromToIndex_8c36e_9 : decode cJ3_checkFromToIndex_8c36e 9 = .ok (.iload_n 1, 1) := by decide +kernel
theorem dJ3_checkFromToIndex_8c36e_10 : decode cJ3_checkFromToIndex_8c36e 10 = .ok (.iload_n 2, 1) := by decide +kernel
theorem dJ3_checkFromToIndex_8c36e_11 : decode cJ3_checkFromToIndex_8c36e 11 = .ok (.if_icmp .le 11, 3) := by decide +kernel
theorem dJ3_checkFromToIndex_8c36e_14 : decode cJ3_checkFromToIndex_8c36e 14 = .ok (.aload_n 3, 1) := by decide +kernel
theorem dJ3_checkFromToIndex_8c36e_15 : decode cJ3_checkFromToIndex_8c36e 15 = .ok (.iload_n 0, 1) := by decide +kernel
theorem dJ3_checkFromToIndex_8c36e_16 : decode cJ3_checkFromToIndex_8c36e 16 = .ok (.iload_n 1, 1) := by decide +kernel
theorem dJ3_checkFromToIndex_8c36e_17 : decode cJ3_checkFromToIndex_8c36e 17 = .ok (.iload_n 2, 1) := by decide +kernel
theorem dJ3_checkFromToIndex_8c36e_18 : decode cJ3_checkFromToIndex_8c36e 18 = .ok (.invokestatic 99, 3) := by decide +kernel
theorem dJ3_checkFromToIndex_8c36e_21 : decode cJ3_checkFromToIndex_8c36e 21 = .ok (.athrow, 1) := by decide +kernel
theorem dJ3_checkFromToIndex_8c36e_22 : decode cJ3_checkFromToIndex_8c36e 22 = .ok (.iload_n 0, 1) := by decide +kernel
theorem dJ3_checkFromToIndex_8c36e_23 : decode cJ3_checkFromToIndex_8c36e 23 = .ok (.ireturn, 1) := by decide +kernel
abbrev vwCl : List vw_C := [(RX0, TX0, 2), (RX1, TX1, 2), (RX2, TX2, 3), (RX3, TX3, 3), (RX4, TX4, 1), (RX5, TX5, 6), (RX6, TX6, 6), (RX7, TX7, 2), (RX8, TX8, 5), (RX9, TX9, 7), (RX10, TX10, 7)]

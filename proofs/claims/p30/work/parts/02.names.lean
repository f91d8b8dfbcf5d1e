set_option maxRecDepth 20000 in
theorem ggX0_init_X6_init : GoodIn wsX0_init wsX6_init := goodIn_r _ [9, 10, 2, 3, 11, 12, 13, 14, 15, 16, 17, 18, 19, 20, 21, 22, 23, 24, 25, 26, 35, 29, 30, 31, 32, 33, 34] (by decide +kernel) (by decide +kernel)
set_option maxRecDepth 20000 in
theorem gX0_init_X6_init_n17 : GoodIn wsX0_init (wsX6_init) := ggX0_init_X6_init
theorem dX0_init_0 : decode cX0_init 0 = .ok (.aload_n 0, 1) := by decide +kernel
theorem dX0_init_1 : decode cX0_init 1 = .ok (.invokespecial 3, 3) := by decide +kernel
theorem dX0_init_4 : decode cX0_init 4 = .ok (.aload_n 0, 1) := by decide +kernel
theorem dX0_init_5 : decode cX0_init 5 = .ok (.iconst 5, 1) := by decide +kernel
theorem dX0_init_6 : decode cX0_init 6 = .ok (.anewarray 9, 3) := by decide +kernel
theorem dX0_init_9 : decode cX0_init 9 = .ok (.putfield 11, 3) := by decide +kernel
theorem dX0_init_12 : decode cX0_init 12 = .ok (.iconst 0, 1) := by decide +kernel
theorem dX0_init_13 : decode cX0_init 13 = .ok (.istore_n 1, 1) := by decide +kernel
theorem dX0_init_14 : decode cX0_init 14 = .ok (.iload_n 1, 1) := by decide +kernel
theorem dX0_init_15 : decode cX0_init 15 = .ok (.aload_n 0, 1) := by decide +kernel
theorem dX0_init_16 : decode cX0_init 16 = .ok (.getfield 11, 3) := by decide +kernel
theorem dX0_init_19 : decode cX0_init 19 = .ok (.arraylength, 1) := by decide +kernel
theorem dX0_init_20 : decode cX0_init 20 = .ok (.if_icmp .ge 22, 3) := by decide +kernel
theorem dX0_init_23 : decode cX0_init 23 = .ok (.aload_n 0, 1) := by decide +kernel
theorem dX0_init_24 : decode cX0_init 24 = .ok (.getfield 11, 3) := by decide +kernel
theorem dX0_init_27 : decode cX0_init 27 = .ok (.iload_n 1, 1) := by decide +kernel
theorem dX0_init_28 : decode cX0_init 28 = .ok (.new 9, 3) := by decide +kernel
theorem dX0_init_31 : decode cX0_init 31 = .ok (.dup, 1) := by decide +kernel
theorem dX0_init_32 : decode cX0_init 32 = .ok (.invokespecial 17, 3) := by decide +kernel
theorem dX0_init_35 : decode cX0_init 35 = .ok (.aastore, 1) := by decide +kernel
theorem dX0_init_36 : decode cX0_init 36 = .ok (.iinc 1 1, 3) := by decide +kernel
theorem dX0_init_39 : decode cX0_init 39 = .ok (.goto (-25), 3) := by decide +kernel
theorem dX0_init_42 : decode cX0_init 42 = .ok (.return_, 1) := by decide +kernel
set_option maxRecDepth 20000 in
theorem ggX0_keep_X0_dropOldest : GoodIn wsX0_keep wsX0_dropOldest := goodIn_r _ [7, 2, 1, 8, 9, 10, 6, 11, 37, 38] (by decide +kernel) (by decide +kernel)
set_option maxRecDepth 20000 in
theorem gX0_keep_X0_dropOldest : GoodIn wsX0_keep (wsV RX0 22 RX0 yX0_dropOldest wsX0_dropOldest) := goodIn_app (goodIn_of _ (by decide +kernel)) ggX0_keep_X0_dropOldest
set_option maxRecDepth 20000 in
theorem ggX0_keep_X0_slot : GoodIn wsX0_keep wsX0_slot := goodIn_r _ [11, 2, 37, 38] (by decide +kernel) (by decide +kernel)
set_option maxRecDepth 20000 in
theorem gX0_keep_X0_slot : GoodIn wsX0_keep (wsV RX0 25 RX0 yX0_slot wsX0_slot) := goodIn_app (goodIn_of _ (by decide +kernel)) ggX0_keep_X0_slot
set_option maxRecDepth 20000 in
theorem ggX0_keep_X6_take : GoodIn wsX0_keep wsX6_take := goodIn_r _ [16, 17, 18, 19, 20, 21, 22, 23, 24, 25, 26, 27, 28, 29, 30, 31, 32, 33, 34, 35, 36, 39, 40, 41, 42, 43, 44, 45] (by decide +kernel) (by decide +kernel)
set_option maxRecDepth 20000 in
theorem gX0_keep_X6_take : GoodIn wsX0_keep (wsV RX0 29 RX6 yX6_take wsX6_take) := goodIn_app (goodIn_of _ (by decide +kernel)) ggX0_keep_X6_take
theorem dX0_keep_0 : decode cX0_keep 0 = .ok (.aload_n 0, 1) := by decide +kernel
theorem dX0_keep_1 : decode cX0_keep 1 = .ok (.getfield 18, 3) := by decide +kernel
theorem dX0_keep_4 : decode cX0_keep 4 = .ok (.aload_n 0, 1) := by decide +kernel
theorem dX0_keep_5 : decode cX0_keep 5 = .ok (.getfield 11, 3) := by decide +kernel
theorem dX0_keep_8 : decode cX0_keep 8 = .ok (.arraylength, 1) := by decide +kernel
theorem dX0_keep_9 : decode cX0_keep 9 = .ok (.if_icmp .lt 7, 3) := by decide +kernel
theorem dX0_keep_12 : decode cX0_keep 12 = .ok (.aload_n 0, 1) := by decide +kernel
theorem dX0_keep_13 : decode cX0_keep 13 = .ok (.invokevirtual 22, 3) := by decide +kernel
theorem dX0_keep_16 : decode cX0_keep 16 = .ok (.aload_n 0, 1) := by decide +kernel
theorem dX0_keep_17 : decode cX0_keep 17 = .ok (.aload_n 0, 1) := by decide +kernel
theorem dX0_keep_18 : decode cX0_keep 18 = .ok (.getfield 18, 3) := by decide +kernel
theorem dX0_keep_21 : decode cX0_keep 21 = .ok (.invokevirtual 25, 3) := by decide +kernel
theorem dX0_keep_24 : decode cX0_keep 24 = .ok (.astore_n 2, 1) := by decide +kernel
theorem dX0_keep_25 : decode cX0_keep 25 = .ok (.aload_n 2, 1) := by decide +kernel
theorem dX0_keep_26 : decode cX0_keep 26 = .ok (.ifnull 18, 3) := by decide +kernel
theorem dX0_keep_29 : decode cX0_keep 29 = .ok (.aload_n 2, 1) := by decide +kernel
theorem dX0_keep_30 : decode cX0_keep 30 = .ok (.aload_n 1, 1) := by decide +kernel
theorem dX0_keep_31 : decode cX0_keep 31 = .ok (.invokevirtual 29, 3) := by decide +kernel
theorem dX0_keep_34 : decode cX0_keep 34 = .ok (.aload_n 0, 1) := by decide +kernel
theorem dX0_keep_35 : decode cX0_keep 35 = .ok (.dup, 1) := by decide +kernel
theorem dX0_keep_36 : decode cX0_keep 36 = .ok (.getfield 18, 3) := by decide +kernel
theorem dX0_keep_39 : decode cX0_keep 39 = .ok (.iconst 1, 1) := by decide +kernel
theorem dX0_keep_40 : decode cX0_keep 40 = .ok (.iadd, 1) := by decide +kernel
theorem dX0_keep_41 : decode cX0_keep 41 = .ok (.putfield 18, 3) := by decide +kernel
theorem dX0_keep_44 : decode cX0_keep 44 = .ok (.return_, 1) := by decide +kernel
set_option maxRecDepth 20000 in
theorem ggX0_restore_X0_slot : GoodIn wsX0_restore wsX0_slot := goodIn_r _ [6, 7, 33, 34] (by decide +kernel) (by decide +kernel)
set_option maxRecDepth 20000 in
theorem gX0_restore_X0_slot : GoodIn wsX0_restore (wsV RX0 25 RX0 yX0_slot wsX0_slot) := goodIn_app (goodIn_of _ (by decide +kernel)) ggX0_restore_X0_slot
set_option maxRecDepth 20000 in
theorem ggX0_restore_X6_take : GoodIn wsX0_restore wsX6_take := goodIn_r _ [12, 13, 14, 15, 16, 17, 18, 19, 20, 21, 22, 23, 24, 25, 26, 27, 28, 29, 30, 31, 32, 35, 36, 37, 38, 39, 40, 41] (by decide +kernel) (by decide +kernel)
set_option maxRecDepth 20000 in
theorem gX0_restore_X6_take : GoodIn wsX0_restore (wsV RX0 29 RX6 yX6_take wsX6_take) := goodIn_app (goodIn_of _ (by decide +kernel)) ggX0_restore_X6_take
theorem dX0_restore_0 : decode cX0_restore 0 = .ok (.aload_n 0, 1) := by decide +kernel
theorem dX0_restore_1 : decode cX0_restore 1 = .ok (.aload_n 0, 1) := by decide +kernel
theorem dX0_restore_2 : decode cX0_restore 2 = .ok (.getfield 18, 3) := by decide +kernel
theorem dX0_restore_5 : decode cX0_restore 5 = .ok (.iconst 1, 1) := by decide +kernel
theorem dX0_restore_6 : decode cX0_restore 6 = .ok (.isub, 1) := by decide +kernel
theorem dX0_restore_7 : decode cX0_restore 7 = .ok (.invokevirtual 25, 3) := by decide +kernel
theorem dX0_restore_10 : decode cX0_restore 10 = .ok (.astore_n 2, 1) := by decide +kernel
theorem dX0_restore_11 : decode cX0_restore 11 = .ok (.aload_n 2, 1) := by decide +kernel
theorem dX0_restore_12 : decode cX0_restore 12 = .ok (.ifnull 18, 3) := by decide +kernel
theorem dX0_restore_15 : decode cX0_restore 15 = .ok (.aload_n 1, 1) := by decide +kernel
theorem dX0_restore_16 : decode cX0_restore 16 = .ok (.aload_n 2, 1) := by decide +kernel
theorem dX0_restore_17 : decode cX0_restore 17 = .ok (.invokevirtual 29, 3) := by decide +kernel
theorem dX0_restore_20 : decode cX0_restore 20 = .ok (.aload_n 0, 1) := by decide +kernel
theorem dX0_restore_21 : decode cX0_restore 21 = .ok (.dup, 1) := by decide +kernel
theorem dX0_restore_22 : decode cX0_restore 22 = .ok (.getfield 18, 3) := by decide +kernel
theorem dX0_restore_25 : decode cX0_restore 25 = .ok (.iconst 1, 1) := by decide +kernel
theorem dX0_restore_26 : decode cX0_restore 26 = .ok (.isub, 1) := by decide +kernel
theorem dX0_restore_27 : decode cX0_restore 27 = .ok (.putfield 18, 3) := by decide +kernel
theorem dX0_restore_30 : decode cX0_restore 30 = .ok (.return_, 1) := by decide +kernel
theorem dX0_slot_0 : decode cX0_slot 0 = .ok (.iload_n 1, 1) := by decide +kernel
theorem dX0_slot_1 : decode cX0_slot 1 = .ok (.ifCond .lt 21, 3) := by decide +kernel
theorem dX0_slot_4 : decode cX0_slot 4 = .ok (.iload_n 1, 1) := by decide +kernel
theorem dX0_slot_5 : decode cX0_slot 5 = .ok (.aload_n 0, 1) := by decide +kernel
theorem dX0_slot_6 : decode cX0_slot 6 = .ok (.getfield 11, 3) := by decide +kernel
theorem dX0_slot_9 : decode cX0_slot 9 = .ok (.arraylength, 1) := by decide +kernel
theorem dX0_slot_10 : decode cX0_slot 10 = .ok (.if_icmp .ge 12, 3) := by decide +kernel
theorem dX0_slot_13 : decode cX0_slot 13 = .ok (.aload_n 0, 1) := by decide +kernel
theorem dX0_slot_14 : decode cX0_slot 14 = .ok (.getfield 11, 3) := by decide +kernel
theorem dX0_slot_17 : decode cX0_slot 17 = .ok (.iload_n 1, 1) := by decide +kernel
theorem dX0_slot_18 : decode cX0_slot 18 = .ok (.aaload, 1) := by decide +kernel
theorem dX0_slot_19 : decode cX0_slot 19 = .ok (.goto 4, 3) := by decide +kernel
theorem dX0_slot_22 : decode cX0_slot 22 = .ok (.aconst_null, 1) := by decide +kernel
theorem dX0_slot_23 : decode cX0_slot 23 = .ok (.areturn, 1) := by decide +kernel
set_option maxRecDepth 20000 in
theorem ggX0_dropOldest_X0_slot : GoodIn wsX0_dropOldest wsX0_slot := goodIn_r _ [7, 1, 8, 9] (by decide +kernel) (by decide +kernel)
set_option maxRecDepth 20000 in
theorem gX0_dropOldest_X0_slot : GoodIn wsX0_dropOldest (wsV RX0 25 RX0 yX0_slot wsX0_slot) := goodIn_app (goodIn_of _ (by decide +kernel)) ggX0_dropOldest_X0_slot
theorem dX0_dropOldest_0 : decode cX0_dropOldest 0 = .ok (.aload_n 0, 1) := by decide +kernel
theorem dX0_dropOldest_1 : decode cX0_dropOldest 1 = .ok (.iconst 0, 1) := by decide +kernel
theorem dX0_dropOldest_2 : decode cX0_dropOldest 2 = .ok (.invokevirtual 25, 3) := by decide +kernel
theorem dX0_dropOldest_5 : decode cX0_dropOldest 5 = .ok (.astore_n 1, 1) := by decide +kernel
theorem dX0_dropOldest_6 : decode cX0_dropOldest 6 = .ok (.iconst 1, 1) := by decide +kernel
theorem dX0_dropOldest_7 : decode cX0_dropOldest 7 = .ok (.istore_n 2, 1) := by decide +kernel
theorem dX0_dropOldest_8 : decode cX0_dropOldest 8 = .ok (.iload_n 2, 1) := by decide +kernel
theorem dX0_dropOldest_9 : decode cX0_dropOldest 9 = .ok (.aload_n 0, 1) := by decide +kernel
theorem dX0_dropOldest_10 : decode cX0_dropOldest 10 = .ok (.getfield 11, 3) := by decide +kernel
theorem dX0_dropOldest_13 : decode cX0_dropOldest 13 = .ok (.arraylength, 1) := by decide +kernel
theorem dX0_dropOldest_14 : decode cX0_dropOldest 14 = .ok (.if_icmp .ge 23, 3) := by decide +kernel
theorem dX0_dropOldest_17 : decode cX0_dropOldest 17 = .ok (.aload_n 0, 1) := by decide +kernel
theorem dX0_dropOldest_18 : decode cX0_dropOldest 18 = .ok (.getfield 11, 3) := by decide +kernel
theorem dX0_dropOldest_21 : decode cX0_dropOldest 21 = .ok (.iload_n 2, 1) := by decide +kernel
theorem dX0_dropOldest_22 : decode cX0_dropOldest 22 = .ok (.iconst 1, 1) := by decide +kernel
theorem dX0_dropOldest_23 : decode cX0_dropOldest 23 = .ok (.isub, 1) := by decide +kernel
theorem dX0_dropOldest_24 : decode cX0_dropOldest 24 = .ok (.aload_n 0, 1) := by decide +kernel
theorem dX0_dropOldest_25 : decode cX0_dropOldest 25 = .ok (.getfield 11, 3) := by decide +kernel
theorem dX0_dropOldest_28 : decode cX0_dropOldest 28 = .ok (.iload_n 2, 1) := by decide +kernel
theorem dX0_dropOldest_29 : decode cX0_dropOldest 29 = .ok (.aaload, 1) := by decide +kernel
theorem dX0_dropOldest_30 : decode cX0_dropOldest 30 = .ok (.aastore, 1) := by decide +kernel
theorem dX0_dropOldest_31 : decode cX0_dropOldest 31 = .ok (.iinc 2 1, 3) := by decide +kernel
theorem dX0_dropOldest_34 : decode cX0_dropOldest 34 = .ok (.goto (-26), 3) := by decide +kernel
theorem dX0_dropOldest_37 : decode cX0_dropOldest 37 = .ok (.aload_n 0, 1) := by decide +kernel
theorem dX0_dropOldest_38 : decode cX0_dropOldest 38 = .ok (.getfield 11, 3) := by decide +kernel
theorem dX0_dropOldest_41 : decode cX0_dropOldest 41 = .ok (.arraylength, 1) := by decide +kernel
theorem dX0_dropOldest_42 : decode cX0_dropOldest 42 = .ok (.ifCond .le 27, 3) := by decide +kernel
theorem dX0_dropOldest_45 : decode cX0_dropOldest 45 = .ok (.aload_n 0, 1) := by decide +kernel
theorem dX0_dropOldest_46 : decode cX0_dropOldest 46 = .ok (.getfield 11, 3) := by decide +kernel
theorem dX0_dropOldest_49 : decode cX0_dropOldest 49 = .ok (.aload_n 0, 1) := by decide +kernel
theorem dX0_dropOldest_50 : decode cX0_dropOldest 50 = .ok (.getfield 11, 3) := by decide +kernel
theorem dX0_dropOldest_53 : decode cX0_dropOldest 53 = .ok (.arraylength, 1) := by decide +kernel
theorem dX0_dropOldest_54 : decode cX0_dropOldest 54 = .ok (.iconst 1, 1) := by decide +kernel
theorem dX0_dropOldest_55 : decode cX0_dropOldest 55 = .ok (.isub, 1) := by decide +kernel
theorem dX0_dropOldest_56 : decode cX0_dropOldest 56 = .ok (.aload_n 1, 1) := by decide +kernel
theorem dX0_dropOldest_57 : decode cX0_dropOldest 57 = .ok (.aastore, 1) := by decide +kernel
theorem dX0_dropOldest_58 : decode cX0_dropOldest 58 = .ok (.aload_n 0, 1) := by decide +kernel
theorem dX0_dropOldest_59 : decode cX0_dropOldest 59 = .ok (.aload_n 0, 1) := by decide +kernel
theorem dX0_dropOldest_60 : decode cX0_dropOldest 60 = .ok (.getfield 11, 3) := by decide +kernel
theorem dX0_dropOldest_63 : decode cX0_dropOldest 63 = .ok (.arraylength, 1) := by decide +kernel
theorem dX0_dropOldest_64 : decode cX0_dropOldest 64 = .ok (.iconst 1, 1) := by decide +kernel
theorem dX0_dropOldest_65 : decode cX0_dropOldest 65 = .ok (.isub, 1) := by decide +kernel
theorem dX0_dropOldest_66 : decode cX0_dropOldest 66 = .ok (.putfield 18, 3) := by decide +kernel
theorem dX0_dropOldest_69 : decode cX0_dropOldest 69 = .ok (.return_, 1) := by decide +kernel
set_option maxRecDepth 20000 in
theorem ggX1_init_X5_init : GoodIn wsX1_init wsX5_init := goodIn_r _ [13, 14, 2, 3, 15, 16, 17, 18, 19, 20, 21, 22, 23, 24, 25, 26, 27, 28, 51, 37, 38, 39, 40, 41, 42] (by decide +kernel) (by decide +kernel)
set_option maxRecDepth 20000 in
theorem gX1_init_X5_init_n11 : GoodIn wsX1_init (wsX5_init) := ggX1_init_X5_init
set_option maxRecDepth 20000 in
theorem ggX1_init_X6_init : GoodIn wsX1_init wsX6_init := goodIn_r _ [30, 31, 2, 3, 32, 16, 17, 33, 34, 35, 36, 20, 21, 22, 23, 24, 25, 26, 27, 28, 51, 45, 46, 47, 48, 49, 50] (by decide +kernel) (by decide +kernel)
set_option maxRecDepth 20000 in
theorem gX1_init_X6_init_n20 : GoodIn wsX1_init (wsX6_init) := ggX1_init_X6_init
theorem dX1_init_0 : decode cX1_init 0 = .ok (.aload_n 0, 1) := by decide +kernel
theorem dX1_init_1 : decode cX1_init 1 = .ok (.invokespecial 3, 3) := by decide +kernel
theorem dX1_init_4 : decode cX1_init 4 = .ok (.aload_n 0, 1) := by decide +kernel
theorem dX1_init_5 : decode cX1_init 5 = .ok (.new 9, 3) := by decide +kernel
theorem dX1_init_8 : decode cX1_init 8 = .ok (.dup, 1) := by decide +kernel
theorem dX1_init_9 : decode cX1_init 9 = .ok (.invokespecial 11, 3) := by decide +kernel
theorem dX1_init_12 : decode cX1_init 12 = .ok (.putfield 12, 3) := by decide +kernel
theorem dX1_init_15 : decode cX1_init 15 = .ok (.aload_n 0, 1) := by decide +kernel
theorem dX1_init_16 : decode cX1_init 16 = .ok (.new 18, 3) := by decide +kernel
theorem dX1_init_19 : decode cX1_init 19 = .ok (.dup, 1) := by decide +kernel
theorem dX1_init_20 : decode cX1_init 20 = .ok (.invokespecial 20, 3) := by decide +kernel
theorem dX1_init_23 : decode cX1_init 23 = .ok (.putfield 21, 3) := by decide +kernel
theorem dX1_init_26 : decode cX1_init 26 = .ok (.return_, 1) := by decide +kernel
set_option maxRecDepth 20000 in
theorem ggX1_beginAnew_X5_build : GoodIn wsX1_beginAnew wsX5_build := goodIn_r _ [12, 13, 14, 15, 16, 17, 18, 19, 20, 21, 22, 23, 24, 25, 26, 27, 28, 29, 30, 31, 32, 33, 34, 11, 35, 36, 37, 38, 39, 40, 41, 42, 43, 44, 45, 46, 47, 48, 49, 50, 51, 52, 53, 54, 55, 56, 57, 58, 59, 60, 61, 62, 63, 64, 65, 66, 67, 68, 69, 70, 71, 72, 73, 74, 75, 76, 77, 78, 79, 80, 81, 82, 83, 84, 85, 86, 87, 88, 89, 90, 91, 92, 93, 94, 95, 96, 97, 98, 99, 100, 101, 102, 103, 104, 105, 106, 107, 108, 109, 110, 111, 112, 113, 114, 115, 116, 117, 118, 119, 120, 121, 122, 123, 124, 125, 126, 127, 128, 129, 130, 131, 132, 133, 134, 135, 136, 137, 138, 139, 140, 141, 142, 143, 144, 145, 146, 147, 148, 149, 150, 151, 152, 153, 154, 155, 156, 157, 158, 163, 164, 165, 166, 167, 168, 169, 170, 171, 172, 173, 174, 175] (by decide +kernel) (by decide +kernel)
set_option maxRecDepth 20000 in
theorem gX1_beginAnew_X5_build : GoodIn wsX1_beginAnew (wsV RX1 25 RX5 yX5_build wsX5_build) := goodIn_app (goodIn_of _ (by decide +kernel)) ggX1_beginAnew_X5_build
set_option maxRecDepth 20000 in
theorem ggX1_beginAnew_X4_fill : GoodIn wsX1_beginAnew wsX4_fill := goodIn_r _ [22, 23, 24, 25, 26, 27, 175] (by decide +kernel) (by decide +kernel)
set_option maxRecDepth 20000 in
theorem gX1_beginAnew_X4_fill : GoodIn wsX1_beginAnew (wsV RX1 33 RX4 yX4_fill wsX4_fill) := goodIn_app (goodIn_of _ (by decide +kernel)) ggX1_beginAnew_X4_fill
set_option maxRecDepth 20000 in
theorem ggX1_beginAnew_X5_baseCell : GoodIn wsX1_beginAnew wsX5_baseCell := goodIn_r _ [135, 14, 169, 170, 171, 172, 173, 174] (by decide +kernel) (by decide +kernel)
set_option maxRecDepth 20000 in
theorem gX1_beginAnew_X5_baseCell : GoodIn wsX1_beginAnew (wsV RX1 42 RX5 yX5_baseCell wsX5_baseCell) := goodIn_app (goodIn_of _ (by decide +kernel)) ggX1_beginAnew_X5_baseCell
theorem dX1_beginAnew_0 : decode cX1_beginAnew 0 = .ok (.aload_n 0, 1) := by decide +kernel
theorem dX1_beginAnew_1 : decode cX1_beginAnew 1 = .ok (.getfield 12, 3) := by decide +kernel
theorem dX1_beginAnew_4 : decode cX1_beginAnew 4 = .ok (.aload_n 0, 1) := by decide +kernel
theorem dX1_beginAnew_5 : decode cX1_beginAnew 5 = .ok (.getfield 21, 3) := by decide +kernel
theorem dX1_beginAnew_8 : decode cX1_beginAnew 8 = .ok (.invokevirtual 25, 3) := by decide +kernel
theorem dX1_beginAnew_11 : decode cX1_beginAnew 11 = .ok (.aload_n 0, 1) := by decide +kernel
theorem dX1_beginAnew_12 : decode cX1_beginAnew 12 = .ok (.getfield 21, 3) := by decide +kernel
theorem dX1_beginAnew_15 : decode cX1_beginAnew 15 = .ok (.getfield 29, 3) := by decide +kernel
theorem dX1_beginAnew_18 : decode cX1_beginAnew 18 = .ok (.iconst 0, 1) := by decide +kernel
theorem dX1_beginAnew_19 : decode cX1_beginAnew 19 = .ok (.invokevirtual 33, 3) := by decide +kernel
theorem dX1_beginAnew_22 : decode cX1_beginAnew 22 = .ok (.aload_n 0, 1) := by decide +kernel
theorem dX1_beginAnew_23 : decode cX1_beginAnew 23 = .ok (.getfield 21, 3) := by decide +kernel
theorem dX1_beginAnew_26 : decode cX1_beginAnew 26 = .ok (.getfield 39, 3) := by decide +kernel
theorem dX1_beginAnew_29 : decode cX1_beginAnew 29 = .ok (.iconst 0, 1) := by decide +kernel
theorem dX1_beginAnew_30 : decode cX1_beginAnew 30 = .ok (.invokevirtual 33, 3) := by decide +kernel
theorem dX1_beginAnew_33 : decode cX1_beginAnew 33 = .ok (.aload_n 0, 1) := by decide +kernel
theorem dX1_beginAnew_34 : decode cX1_beginAnew 34 = .ok (.getfield 21, 3) := by decide +kernel
theorem dX1_beginAnew_37 : decode cX1_beginAnew 37 = .ok (.aload_n 0, 1) := by decide +kernel
theorem dX1_beginAnew_38 : decode cX1_beginAnew 38 = .ok (.getfield 12, 3) := by decide +kernel
theorem dX1_beginAnew_41 : decode cX1_beginAnew 41 = .ok (.invokevirtual 42, 3) := by decide +kernel
theorem dX1_beginAnew_44 : decode cX1_beginAnew 44 = .ok (.putfield 46, 3) := by decide +kernel
theorem dX1_beginAnew_47 : decode cX1_beginAnew 47 = .ok (.aload_n 0, 1) := by decide +kernel
theorem dX1_beginAnew_48 : decode cX1_beginAnew 48 = .ok (.getfield 21, 3) := by decide +kernel
theorem dX1_beginAnew_51 : decode cX1_beginAnew 51 = .ok (.aload_n 0, 1) := by decide +kernel
theorem dX1_beginAnew_52 : decode cX1_beginAnew 52 = .ok (.getfield 12, 3) := by decide +kernel
theorem dX1_beginAnew_55 : decode cX1_beginAnew 55 = .ok (.getfield 50, 3) := by decide +kernel
theorem dX1_beginAnew_58 : decode cX1_beginAnew 58 = .ok (.putfield 53, 3) := by decide +kernel
theorem dX1_beginAnew_61 : decode cX1_beginAnew 61 = .ok (.return_, 1) := by decide +kernel
set_option maxRecDepth 20000 in
theorem ggX1_isOpen_X4_at : GoodIn wsX1_isOpen wsX4_at := goodIn_r _ [7, 8, 17] (by decide +kernel) (by decide +kernel)
set_option maxRecDepth 20000 in
theorem gX1_isOpen_X4_at : GoodIn wsX1_isOpen (wsV RX1 56 RX4 yX4_at wsX4_at) := goodIn_app (goodIn_of _ (by decide +kernel)) ggX1_isOpen_X4_at
theorem dX1_isOpen_0 : decode cX1_isOpen 0 = .ok (.aload_n 0, 1) := by decide +kernel
theorem dX1_isOpen_1 : decode cX1_isOpen 1 = .ok (.getfield 21, 3) := by decide +kernel
theorem dX1_isOpen_4 : decode cX1_isOpen 4 = .ok (.getfield 29, 3) := by decide +kernel
theorem dX1_isOpen_7 : decode cX1_isOpen 7 = .ok (.iload_n 1, 1) := by decide +kernel
theorem dX1_isOpen_8 : decode cX1_isOpen 8 = .ok (.invokevirtual 56, 3) := by decide +kernel
theorem dX1_isOpen_11 : decode cX1_isOpen 11 = .ok (.iload_n 2, 1) := by decide +kernel
theorem dX1_isOpen_12 : decode cX1_isOpen 12 = .ok (.ishr, 1) := by decide +kernel
theorem dX1_isOpen_13 : decode cX1_isOpen 13 = .ok (.iconst 1, 1) := by decide +kernel
theorem dX1_isOpen_14 : decode cX1_isOpen 14 = .ok (.iand, 1) := by decide +kernel
theorem dX1_isOpen_15 : decode cX1_isOpen 15 = .ok (.iconst 1, 1) := by decide +kernel
theorem dX1_isOpen_16 : decode cX1_isOpen 16 = .ok (.if_icmp .ne 7, 3) := by decide +kernel
theorem dX1_isOpen_19 : decode cX1_isOpen 19 = .ok (.iconst 1, 1) := by decide +kernel
theorem dX1_isOpen_20 : decode cX1_isOpen 20 = .ok (.goto 4, 3) := by decide +kernel
theorem dX1_isOpen_23 : decode cX1_isOpen 23 = .ok (.iconst 0, 1) := by decide +kernel
theorem dX1_isOpen_24 : decode cX1_isOpen 24 = .ok (.ireturn, 1) := by decide +kernel
set_option maxRecDepth 20000 in
theorem ggX1_openDoors_X4_at : GoodIn wsX1_openDoors wsX4_at := goodIn_r _ [7, 8, 24] (by decide +kernel) (by decide +kernel)
set_option maxRecDepth 20000 in
theorem gX1_openDoors_X4_at : GoodIn wsX1_openDoors (wsV RX1 56 RX4 yX4_at wsX4_at) := goodIn_app (goodIn_of _ (by decide +kernel)) ggX1_openDoors_X4_at
set_option maxRecDepth 20000 in
theorem ggX1_openDoors_J6_bitCount_0f7a4 : GoodIn wsX1_openDoors wsJ6_bitCount_0f7a4 := goodIn_r _ [12, 13, 14, 15] (by decide +kernel) (by decide +kernel)
set_option maxRecDepth 20000 in
theorem gX1_openDoors_J6_bitCount_0f7a4 : GoodIn wsX1_openDoors (va_wsS RX1 60 yJ6_bitCount_0f7a4 wsJ6_bitCount_0f7a4) := goodIn_app (goodIn_of _ (by decide +kernel)) ggX1_openDoors_J6_bitCount_0f7a4
theorem dX1_openDoors_0 : decode cX1_openDoors 0 = .ok (.aload_n 0, 1) := by decide +kernel
theorem dX1_openDoors_1 : decode cX1_openDoors 1 = .ok (.getfield 21, 3) := by decide +kernel
theorem dX1_openDoors_4 : decode cX1_openDoors 4 = .ok (.getfield 29, 3) := by decide +kernel
theorem dX1_openDoors_7 : decode cX1_openDoors 7 = .ok (.iload_n 1, 1) := by decide +kernel
theorem dX1_openDoors_8 : decode cX1_openDoors 8 = .ok (.invokevirtual 56, 3) := by decide +kernel
theorem dX1_openDoors_11 : decode cX1_openDoors 11 = .ok (.invokestatic 60, 3) := by decide +kernel
theorem dX1_openDoors_14 : decode cX1_openDoors 14 = .ok (.ireturn, 1) := by decide +kernel
set_option maxRecDepth 20000 in
theorem ggX1_isFork_X1_openDoors : GoodIn wsX1_isFork wsX1_openDoors := goodIn_r _ [5, 6, 7, 8, 9, 10, 11, 12, 13, 14, 15, 16, 17, 18, 19, 20, 21, 22, 23, 24, 25, 26, 27, 28, 29] (by decide +kernel) (by decide +kernel)
set_option maxRecDepth 20000 in
theorem gX1_isFork_X1_openDoors : GoodIn wsX1_isFork (wsV RX1 65 RX1 yX1_openDoors wsX1_openDoors) := goodIn_app (goodIn_of _ (by decide +kernel)) ggX1_isFork_X1_openDoors
theorem dX1_isFork_0 : decode cX1_isFork 0 = .ok (.aload_n 0, 1) := by decide +kernel
theorem dX1_isFork_1 : decode cX1_isFork 1 = .ok (.iload_n 1, 1) := by decide +kernel
theorem dX1_isFork_2 : decode cX1_isFork 2 = .ok (.invokevirtual 65, 3) := by decide +kernel
theorem dX1_isFork_5 : decode cX1_isFork 5 = .ok (.iconst 3, 1) := by decide +kernel
theorem dX1_isFork_6 : decode cX1_isFork 6 = .ok (.if_icmp .lt 7, 3) := by decide +kernel
theorem dX1_isFork_9 : decode cX1_isFork 9 = .ok (.iconst 1, 1) := by decide +kernel
theorem dX1_isFork_10 : decode cX1_isFork 10 = .ok (.goto 4, 3) := by decide +kernel
theorem dX1_isFork_13 : decode cX1_isFork 13 = .ok (.iconst 0, 1) := by decide +kernel
theorem dX1_isFork_14 : decode cX1_isFork 14 = .ok (.ireturn, 1) := by decide +kernel
set_option maxRecDepth 20000 in
theorem ggX1_setDoor_X1_setSide : GoodIn wsX1_setDoor wsX1_setSide := goodIn_r _ [6, 7, 8, 9, 10, 11, 12, 13, 14, 15, 16, 17, 18, 28, 29, 30, 31, 32, 33, 34, 35, 36] (by decide +kernel) (by decide +kernel)
set_option maxRecDepth 20000 in
theorem gX1_setDoor_X1_setSide : GoodIn wsX1_setDoor (wsV RX1 68 RX1 yX1_setSide wsX1_setSide) := goodIn_app (goodIn_of _ (by decide +kernel)) ggX1_setDoor_X1_setSide
set_option maxRecDepth 20000 in
theorem ggX1_setDoor_X5_stride : GoodIn wsX1_setDoor wsX5_stride := goodIn_r _ [23, 24, 37, 38, 39, 40, 41, 42] (by decide +kernel) (by decide +kernel)
set_option maxRecDepth 20000 in
theorem gX1_setDoor_X5_stride : GoodIn wsX1_setDoor (wsV RX1 72 RX5 yX5_stride wsX5_stride) := goodIn_app (goodIn_of _ (by decide +kernel)) ggX1_setDoor_X5_stride
set_option maxRecDepth 20000 in
theorem ggX1_setDoor_X10_opposite : GoodIn wsX1_setDoor wsX10_opposite := goodIn_r _ [27] (by decide +kernel) (by decide +kernel)
set_option maxRecDepth 20000 in
theorem gX1_setDoor_X10_opposite_n75 : GoodIn wsX1_setDoor (wsX10_opposite) := ggX1_setDoor_X10_opposite
theorem dX1_setDoor_0 : decode cX1_setDoor 0 = .ok (.aload_n 0, 1) := by decide +kernel
theorem dX1_setDoor_1 : decode cX1_setDoor 1 = .ok (.iload_n 1, 1) := by decide +kernel
theorem dX1_setDoor_2 : decode cX1_setDoor 2 = .ok (.iload_n 2, 1) := by decide +kernel
theorem dX1_setDoor_3 : decode cX1_setDoor 3 = .ok (.iload_n 3, 1) := by decide +kernel
theorem dX1_setDoor_4 : decode cX1_setDoor 4 = .ok (.invokevirtual 68, 3) := by decide +kernel
theorem dX1_setDoor_7 : decode cX1_setDoor 7 = .ok (.aload_n 0, 1) := by decide +kernel
theorem dX1_setDoor_8 : decode cX1_setDoor 8 = .ok (.iload_n 1, 1) := by decide +kernel
theorem dX1_setDoor_9 : decode cX1_setDoor 9 = .ok (.aload_n 0, 1) := by decide +kernel
theorem dX1_setDoor_10 : decode cX1_setDoor 10 = .ok (.getfield 12, 3) := by decide +kernel
theorem dX1_setDoor_13 : decode cX1_setDoor 13 = .ok (.iload_n 2, 1) := by decide +kernel
theorem dX1_setDoor_14 : decode cX1_setDoor 14 = .ok (.invokevirtual 72, 3) := by decide +kernel
theorem dX1_setDoor_17 : decode cX1_setDoor 17 = .ok (.iadd, 1) := by decide +kernel
theorem dX1_setDoor_18 : decode cX1_setDoor 18 = .ok (.iload_n 2, 1) := by decide +kernel
theorem dX1_setDoor_19 : decode cX1_setDoor 19 = .ok (.invokestatic 75, 3) := by decide +kernel
theorem dX1_setDoor_22 : decode cX1_setDoor 22 = .ok (.iload_n 3, 1) := by decide +kernel
theorem dX1_setDoor_23 : decode cX1_setDoor 23 = .ok (.invokevirtual 68, 3) := by decide +kernel
theorem dX1_setDoor_26 : decode cX1_setDoor 26 = .ok (.return_, 1) := by decide +kernel
set_option maxRecDepth 20000 in
theorem ggX1_setSide_X4_at : GoodIn wsX1_setSide wsX4_at := goodIn_r _ [7, 8, 21] (by decide +kernel) (by decide +kernel)
set_option maxRecDepth 20000 in
theorem gX1_setSide_X4_at : GoodIn wsX1_setSide (wsV RX1 56 RX4 yX4_at wsX4_at) := goodIn_app (goodIn_of _ (by decide +kernel)) ggX1_setSide_X4_at
set_option maxRecDepth 20000 in
theorem ggX1_setSide_X4_put : GoodIn wsX1_setSide wsX4_put := goodIn_r _ [12, 8, 21] (by decide +kernel) (by decide +kernel)
set_option maxRecDepth 20000 in
theorem gX1_setSide_X4_put : GoodIn wsX1_setSide (wsV RX1 78 RX4 yX4_put wsX4_put) := goodIn_app (goodIn_of _ (by decide +kernel)) ggX1_setSide_X4_put
theorem dX1_setSide_0 : decode cX1_setSide 0 = .ok (.iconst 1, 1) := by decide +kernel
theorem dX1_setSide_1 : decode cX1_setSide 1 = .ok (.iload_n 2, 1) := by decide +kernel
theorem dX1_setSide_2 : decode cX1_setSide 2 = .ok (.ishl, 1) := by decide +kernel
theorem dX1_setSide_3 : decode cX1_setSide 3 = .ok (.istore 4, 2) := by decide +kernel
theorem dX1_setSide_5 : decode cX1_setSide 5 = .ok (.aload_n 0, 1) := by decide +kernel
theorem dX1_setSide_6 : decode cX1_setSide 6 = .ok (.getfield 21, 3) := by decide +kernel
theorem dX1_setSide_9 : decode cX1_setSide 9 = .ok (.getfield 29, 3) := by decide +kernel
theorem dX1_setSide_12 : decode cX1_setSide 12 = .ok (.iload_n 1, 1) := by decide +kernel
theorem dX1_setSide_13 : decode cX1_setSide 13 = .ok (.invokevirtual 56, 3) := by decide +kernel
theorem dX1_setSide_16 : decode cX1_setSide 16 = .ok (.istore 5, 2) := by decide +kernel
theorem dX1_setSide_18 : decode cX1_setSide 18 = .ok (.aload_n 0, 1) := by decide +kernel
theorem dX1_setSide_19 : decode cX1_setSide 19 = .ok (.getfield 21, 3) := by decide +kernel
theorem dX1_setSide_22 : decode cX1_setSide 22 = .ok (.getfield 29, 3) := by decide +kernel
theorem dX1_setSide_25 : decode cX1_setSide 25 = .ok (.iload_n 1, 1) := by decide +kernel
theorem dX1_setSide_26 : decode cX1_setSide 26 = .ok (.iload_n 3, 1) := by decide +kernel
theorem dX1_setSide_27 : decode cX1_setSide 27 = .ok (.ifCond .eq 11, 3) := by decide +kernel
theorem dX1_setSide_30 : decode cX1_setSide 30 = .ok (.iload 5, 2) := by decide +kernel
theorem dX1_setSide_32 : decode cX1_setSide 32 = .ok (.iload 4, 2) := by decide +kernel
theorem dX1_setSide_34 : decode cX1_setSide 34 = .ok (.ior, 1) := by decide +kernel
theorem dX1_setSide_35 : decode cX1_setSide 35 = .ok (.goto 10, 3) := by decide +kernel
theorem dX1_setSide_38 : decode cX1_setSide 38 = .ok (.iload 5, 2) := by decide +kernel
theorem dX1_setSide_40 : decode cX1_setSide 40 = .ok (.iload 4, 2) := by decide +kernel
theorem dX1_setSide_42 : decode cX1_setSide 42 = .ok (.iconst (-1), 1) := by decide +kernel
theorem dX1_setSide_43 : decode cX1_setSide 43 = .ok (.ixor, 1) := by decide +kernel
theorem dX1_setSide_44 : decode cX1_setSide 44 = .ok (.iand, 1) := by decide +kernel
theorem dX1_setSide_45 : decode cX1_setSide 45 = .ok (.invokevirtual 78, 3) := by decide +kernel
theorem dX1_setSide_48 : decode cX1_setSide 48 = .ok (.return_, 1) := by decide +kernel
set_option maxRecDepth 20000 in
theorem ggX1_openCount_X1_openDoors : GoodIn wsX1_openCount wsX1_openDoors := goodIn_r _ [5, 6, 7, 8, 9, 10, 11, 12, 13, 14, 15, 16, 17, 18, 19, 20, 21, 22, 23, 24, 25, 26, 27, 28, 29] (by decide +kernel) (by decide +kernel)
set_option maxRecDepth 20000 in
theorem gX1_openCount_X1_openDoors : GoodIn wsX1_openCount (wsV RX1 65 RX1 yX1_openDoors wsX1_openDoors) := goodIn_app (goodIn_of _ (by decide +kernel)) ggX1_openCount_X1_openDoors
theorem dX1_openCount_0 : decode cX1_openCount 0 = .ok (.iconst 0, 1) := by decide +kernel
theorem dX1_openCount_1 : decode cX1_openCount 1 = .ok (.istore_n 1, 1) := by decide +kernel
theorem dX1_openCount_2 : decode cX1_openCount 2 = .ok (.iconst 0, 1) := by decide +kernel
theorem dX1_openCount_3 : decode cX1_openCount 3 = .ok (.istore_n 2, 1) := by decide +kernel
theorem dX1_openCount_4 : decode cX1_openCount 4 = .ok (.iload_n 2, 1) := by decide +kernel
theorem dX1_openCount_5 : decode cX1_openCount 5 = .ok (.sipush 210, 3) := by decide +kernel
theorem dX1_openCount_8 : decode cX1_openCount 8 = .ok (.if_icmp .ge 17, 3) := by decide +kernel
theorem dX1_openCount_11 : decode cX1_openCount 11 = .ok (.iload_n 1, 1) := by decide +kernel
theorem dX1_openCount_12 : decode cX1_openCount 12 = .ok (.aload_n 0, 1) := by decide +kernel
theorem dX1_openCount_13 : decode cX1_openCount 13 = .ok (.iload_n 2, 1) := by decide +kernel
theorem dX1_openCount_14 : decode cX1_openCount 14 = .ok (.invokevirtual 65, 3) := by decide +kernel
theorem dX1_openCount_17 : decode cX1_openCount 17 = .ok (.iadd, 1) := by decide +kernel
theorem dX1_openCount_18 : decode cX1_openCount 18 = .ok (.istore_n 1, 1) := by decide +kernel
theorem dX1_openCount_19 : decode cX1_openCount 19 = .ok (.iinc 2 1, 3) := by decide +kernel
theorem dX1_openCount_22 : decode cX1_openCount 22 = .ok (.goto (-18), 3) := by decide +kernel
theorem dX1_openCount_25 : decode cX1_openCount 25 = .ok (.iload_n 1, 1) := by decide +kernel
theorem dX1_openCount_26 : decode cX1_openCount 26 = .ok (.iconst 2, 1) := by decide +kernel
theorem dX1_openCount_27 : decode cX1_openCount 27 = .ok (.idiv, 1) := by decide +kernel
theorem dX1_openCount_28 : decode cX1_openCount 28 = .ok (.ireturn, 1) := by decide +kernel
set_option maxRecDepth 20000 in
theorem ggX1_doorsBetween_X4_at : GoodIn wsX1_doorsBetween wsX4_at := goodIn_r _ [7, 8, 40] (by decide +kernel) (by decide +kernel)
set_option maxRecDepth 20000 in
theorem gX1_doorsBetween_X4_at : GoodIn wsX1_doorsBetween (wsV RX1 56 RX4 yX4_at wsX4_at) := goodIn_app (goodIn_of _ (by decide +kernel)) ggX1_doorsBetween_X4_at
set_option maxRecDepth 20000 in
theorem ggX1_doorsBetween_X5_beside : GoodIn wsX1_doorsBetween wsX5_beside := goodIn_r _ [13, 14, 15, 16, 17, 12, 18, 19, 20, 21, 22, 23, 24, 4, 5, 6, 7, 8, 34, 35, 36, 37, 38, 39, 40] (by decide +kernel) (by decide +kernel)
set_option maxRecDepth 20000 in
theorem gX1_doorsBetween_X5_beside : GoodIn wsX1_doorsBetween (wsV RX1 85 RX5 yX5_beside wsX5_beside) := goodIn_app (goodIn_of _ (by decide +kernel)) ggX1_doorsBetween_X5_beside
set_option maxRecDepth 20000 in
theorem ggX1_doorsBetween_X1_isOpen : GoodIn wsX1_doorsBetween wsX1_isOpen := goodIn_r _ [29, 30, 31, 3, 4, 5, 6, 7, 8, 32, 33, 41, 42, 43, 44, 45, 46, 40] (by decide +kernel) (by decide +kernel)
set_option maxRecDepth 20000 in
theorem gX1_doorsBetween_X1_isOpen : GoodIn wsX1_doorsBetween (wsV RX1 89 RX1 yX1_isOpen wsX1_isOpen) := goodIn_app (goodIn_of _ (by decide +kernel)) ggX1_doorsBetween_X1_isOpen
theorem dX1_doorsBetween_0 : decode cX1_doorsBetween 0 = .ok (.iconst 0, 1) := by decide +kernel
theorem dX1_doorsBetween_1 : decode cX1_doorsBetween 1 = .ok (.istore 4, 2) := by decide +kernel
theorem dX1_doorsBetween_3 : decode cX1_doorsBetween 3 = .ok (.iconst 0, 1) := by decide +kernel
theorem dX1_doorsBetween_4 : decode cX1_doorsBetween 4 = .ok (.istore 5, 2) := by decide +kernel
theorem dX1_doorsBetween_6 : decode cX1_doorsBetween 6 = .ok (.iload 5, 2) := by decide +kernel
theorem dX1_doorsBetween_8 : decode cX1_doorsBetween 8 = .ok (.sipush 210, 3) := by decide +kernel
theorem dX1_doorsBetween_11 : decode cX1_doorsBetween 11 = .ok (.if_icmp .ge 83, 3) := by decide +kernel
theorem dX1_doorsBetween_14 : decode cX1_doorsBetween 14 = .ok (.iconst 1, 1) := by decide +kernel
theorem dX1_doorsBetween_15 : decode cX1_doorsBetween 15 = .ok (.istore 6, 2) := by decide +kernel
theorem dX1_doorsBetween_17 : decode cX1_doorsBetween 17 = .ok (.iload 6, 2) := by decide +kernel
theorem dX1_doorsBetween_19 : decode cX1_doorsBetween 19 = .ok (.iconst 2, 1) := by decide +kernel
theorem dX1_doorsBetween_20 : decode cX1_doorsBetween 20 = .ok (.if_icmp .gt 68, 3) := by decide +kernel
theorem dX1_doorsBetween_23 : decode cX1_doorsBetween 23 = .ok (.aload_n 0, 1) := by decide +kernel
theorem dX1_doorsBetween_24 : decode cX1_doorsBetween 24 = .ok (.getfield 12, 3) := by decide +kernel
theorem dX1_doorsBetween_27 : decode cX1_doorsBetween 27 = .ok (.getfield 82, 3) := by decide +kernel
theorem dX1_doorsBetween_30 : decode cX1_doorsBetween 30 = .ok (.iload 5, 2) := by decide +kernel
theorem dX1_doorsBetween_32 : decode cX1_doorsBetween 32 = .ok (.invokevirtual 56, 3) := by decide +kernel
theorem dX1_doorsBetween_35 : decode cX1_doorsBetween 35 = .ok (.iload_n 1, 1) := by decide +kernel
theorem dX1_doorsBetween_36 : decode cX1_doorsBetween 36 = .ok (.if_icmp .ne 46, 3) := by decide +kernel
theorem dX1_doorsBetween_39 : decode cX1_doorsBetween 39 = .ok (.aload_n 0, 1) := by decide +kernel
theorem dX1_doorsBetween_40 : decode cX1_doorsBetween 40 = .ok (.getfield 12, 3) := by decide +kernel
theorem dX1_doorsBetween_43 : decode cX1_doorsBetween 43 = .ok (.getfield 82, 3) := by decide +kernel
theorem dX1_doorsBetween_46 : decode cX1_doorsBetween 46 = .ok (.aload_n 0, 1) := by decide +kernel
theorem dX1_doorsBetween_47 : decode cX1_doorsBetween 47 = .ok (.getfield 12, 3) := by decide +kernel
theorem dX1_doorsBetween_50 : decode cX1_doorsBetween 50 = .ok (.iload 5, 2) := by decide +kernel
theorem dX1_doorsBetween_52 : decode cX1_doorsBetween 52 = .ok (.iload 6, 2) := by decide +kernel
theorem dX1_doorsBetween_54 : decode cX1_doorsBetween 54 = .ok (.invokevirtual 85, 3) := by decide +kernel
theorem dX1_doorsBetween_57 : decode cX1_doorsBetween 57 = .ok (.invokevirtual 56, 3) := by decide +kernel
theorem dX1_doorsBetween_60 : decode cX1_doorsBetween 60 = .ok (.iload_n 2, 1) := by decide +kernel
theorem dX1_doorsBetween_61 : decode cX1_doorsBetween 61 = .ok (.if_icmp .ne 21, 3) := by decide +kernel
theorem dX1_doorsBetween_64 : decode cX1_doorsBetween 64 = .ok (.iload_n 3, 1) := by decide +kernel
theorem dX1_doorsBetween_65 : decode cX1_doorsBetween 65 = .ok (.ifCond .eq 14, 3) := by decide +kernel
theorem dX1_doorsBetween_68 : decode cX1_doorsBetween 68 = .ok (.aload_n 0, 1) := by decide +kernel
theorem dX1_doorsBetween_69 : decode cX1_doorsBetween 69 = .ok (.iload 5, 2) := by decide +kernel
theorem dX1_doorsBetween_71 : decode cX1_doorsBetween 71 = .ok (.iload 6, 2) := by decide +kernel
theorem dX1_doorsBetween_73 : decode cX1_doorsBetween 73 = .ok (.invokevirtual 89, 3) := by decide +kernel
theorem dX1_doorsBetween_76 : decode cX1_doorsBetween 76 = .ok (.ifCond .eq 6, 3) := by decide +kernel
theorem dX1_doorsBetween_79 : decode cX1_doorsBetween 79 = .ok (.iinc 4 1, 3) := by decide +kernel
theorem dX1_doorsBetween_82 : decode cX1_doorsBetween 82 = .ok (.iinc 6 1, 3) := by decide +kernel
theorem dX1_doorsBetween_85 : decode cX1_doorsBetween 85 = .ok (.goto (-68), 3) := by decide +kernel
theorem dX1_doorsBetween_88 : decode cX1_doorsBetween 88 = .ok (.iinc 5 1, 3) := by decide +kernel
theorem dX1_doorsBetween_91 : decode cX1_doorsBetween 91 = .ok (.goto (-85), 3) := by decide +kernel
theorem dX1_doorsBetween_94 : decode cX1_doorsBetween 94 = .ok (.iload 4, 2) := by decide +kernel
theorem dX1_doorsBetween_96 : decode cX1_doorsBetween 96 = .ok (.ireturn, 1) := by decide +kernel
set_option maxRecDepth 20000 in
theorem ggX1_roomsWithDoors_X1_openDoors : GoodIn wsX1_roomsWithDoors wsX1_openDoors := goodIn_r _ [5, 6, 7, 8, 9, 10, 11, 12, 13, 14, 15, 16, 17, 18, 19, 20, 21, 22, 23, 24, 25, 26, 27, 28, 29] (by decide +kernel) (by decide +kernel)
set_option maxRecDepth 20000 in
theorem gX1_roomsWithDoors_X1_openDoors : GoodIn wsX1_roomsWithDoors (wsV RX1 65 RX1 yX1_openDoors wsX1_openDoors) := goodIn_app (goodIn_of _ (by decide +kernel)) ggX1_roomsWithDoors_X1_openDoors
theorem dX1_roomsWithDoors_0 : decode cX1_roomsWithDoors 0 = .ok (.iconst 0, 1) := by decide +kernel
theorem dX1_roomsWithDoors_1 : decode cX1_roomsWithDoors 1 = .ok (.istore_n 3, 1) := by decide +kernel
theorem dX1_roomsWithDoors_2 : decode cX1_roomsWithDoors 2 = .ok (.iconst 0, 1) := by decide +kernel
theorem dX1_roomsWithDoors_3 : decode cX1_roomsWithDoors 3 = .ok (.istore 4, 2) := by decide +kernel
theorem dX1_roomsWithDoors_5 : decode cX1_roomsWithDoors 5 = .ok (.iload 4, 2) := by decide +kernel
theorem dX1_roomsWithDoors_7 : decode cX1_roomsWithDoors 7 = .ok (.sipush 210, 3) := by decide +kernel
theorem dX1_roomsWithDoors_10 : decode cX1_roomsWithDoors 10 = .ok (.if_icmp .ge 32, 3) := by decide +kernel
theorem dX1_roomsWithDoors_13 : decode cX1_roomsWithDoors 13 = .ok (.aload_n 0, 1) := by decide +kernel
theorem dX1_roomsWithDoors_14 : decode cX1_roomsWithDoors 14 = .ok (.iload 4, 2) := by decide +kernel
theorem dX1_roomsWithDoors_16 : decode cX1_roomsWithDoors 16 = .ok (.invokevirtual 65, 3) := by decide +kernel
theorem dX1_roomsWithDoors_19 : decode cX1_roomsWithDoors 19 = .ok (.istore 5, 2) := by decide +kernel
theorem dX1_roomsWithDoors_21 : decode cX1_roomsWithDoors 21 = .ok (.iload 5, 2) := by decide +kernel
theorem dX1_roomsWithDoors_23 : decode cX1_roomsWithDoors 23 = .ok (.iload_n 1, 1) := by decide +kernel
theorem dX1_roomsWithDoors_24 : decode cX1_roomsWithDoors 24 = .ok (.if_icmp .lt 12, 3) := by decide +kernel
theorem dX1_roomsWithDoors_27 : decode cX1_roomsWithDoors 27 = .ok (.iload 5, 2) := by decide +kernel
theorem dX1_roomsWithDoors_29 : decode cX1_roomsWithDoors 29 = .ok (.iload_n 2, 1) := by decide +kernel
theorem dX1_roomsWithDoors_30 : decode cX1_roomsWithDoors 30 = .ok (.if_icmp .gt 6, 3) := by decide +kernel
theorem dX1_roomsWithDoors_33 : decode cX1_roomsWithDoors 33 = .ok (.iinc 3 1, 3) := by decide +kernel
theorem dX1_roomsWithDoors_36 : decode cX1_roomsWithDoors 36 = .ok (.iinc 4 1, 3) := by decide +kernel
theorem dX1_roomsWithDoors_39 : decode cX1_roomsWithDoors 39 = .ok (.goto (-34), 3) := by decide +kernel
theorem dX1_roomsWithDoors_42 : decode cX1_roomsWithDoors 42 = .ok (.iload_n 3, 1) := by decide +kernel
theorem dX1_roomsWithDoors_43 : decode cX1_roomsWithDoors 43 = .ok (.ireturn, 1) := by decide +kernel
set_option maxRecDepth 20000 in
theorem ggX1_hasSign_X4_at : GoodIn wsX1_hasSign wsX4_at := goodIn_r _ [7, 8, 17] (by decide +kernel) (by decide +kernel)
set_option maxRecDepth 20000 in
theorem gX1_hasSign_X4_at : GoodIn wsX1_hasSign (wsV RX1 56 RX4 yX4_at wsX4_at) := goodIn_app (goodIn_of _ (by decide +kernel)) ggX1_hasSign_X4_at
theorem dX1_hasSign_0 : decode cX1_hasSign 0 = .ok (.aload_n 0, 1) := by decide +kernel
theorem dX1_hasSign_1 : decode cX1_hasSign 1 = .ok (.getfield 21, 3) := by decide +kernel
theorem dX1_hasSign_4 : decode cX1_hasSign 4 = .ok (.getfield 39, 3) := by decide +kernel
theorem dX1_hasSign_7 : decode cX1_hasSign 7 = .ok (.iload_n 1, 1) := by decide +kernel
theorem dX1_hasSign_8 : decode cX1_hasSign 8 = .ok (.invokevirtual 56, 3) := by decide +kernel
theorem dX1_hasSign_11 : decode cX1_hasSign 11 = .ok (.ifCond .eq 7, 3) := by decide +kernel
theorem dX1_hasSign_14 : decode cX1_hasSign 14 = .ok (.iconst 1, 1) := by decide +kernel
theorem dX1_hasSign_15 : decode cX1_hasSign 15 = .ok (.goto 4, 3) := by decide +kernel
theorem dX1_hasSign_18 : decode cX1_hasSign 18 = .ok (.iconst 0, 1) := by decide +kernel
theorem dX1_hasSign_19 : decode cX1_hasSign 19 = .ok (.ireturn, 1) := by decide +kernel
set_option maxRecDepth 20000 in
theorem ggX1_signCounts_X1_hasSign : GoodIn wsX1_signCounts wsX1_hasSign := goodIn_r _ [5, 6, 7, 8, 9, 10, 11, 12, 13, 30, 31, 32, 33, 34, 35, 36, 37, 38] (by decide +kernel) (by decide +kernel)
set_option maxRecDepth 20000 in
theorem gX1_signCounts_X1_hasSign : GoodIn wsX1_signCounts (wsV RX1 93 RX1 yX1_hasSign wsX1_hasSign) := goodIn_app (goodIn_of _ (by decide +kernel)) ggX1_signCounts_X1_hasSign
set_option maxRecDepth 20000 in
theorem ggX1_signCounts_X1_isFork : GoodIn wsX1_signCounts wsX1_isFork := goodIn_r _ [17, 18, 19, 20, 4, 21, 6, 22, 8, 9, 10, 11, 12, 13, 23, 24, 25, 26, 27, 28, 29, 30, 31, 32, 33, 34, 35, 36, 37, 38] (by decide +kernel) (by decide +kernel)
set_option maxRecDepth 20000 in
theorem gX1_signCounts_X1_isFork : GoodIn wsX1_signCounts (wsV RX1 97 RX1 yX1_isFork wsX1_isFork) := goodIn_app (goodIn_of _ (by decide +kernel)) ggX1_signCounts_X1_isFork
theorem dX1_signCounts_0 : decode cX1_signCounts 0 = .ok (.aload_n 0, 1) := by decide +kernel
theorem dX1_signCounts_1 : decode cX1_signCounts 1 = .ok (.iload_n 1, 1) := by decide +kernel
theorem dX1_signCounts_2 : decode cX1_signCounts 2 = .ok (.invokevirtual 93, 3) := by decide +kernel
theorem dX1_signCounts_5 : decode cX1_signCounts 5 = .ok (.ifCond .eq 15, 3) := by decide +kernel
theorem dX1_signCounts_8 : decode cX1_signCounts 8 = .ok (.aload_n 0, 1) := by decide +kernel
theorem dX1_signCounts_9 : decode cX1_signCounts 9 = .ok (.iload_n 1, 1) := by decide +kernel
theorem dX1_signCounts_10 : decode cX1_signCounts 10 = .ok (.invokevirtual 97, 3) := by decide +kernel
theorem dX1_signCounts_13 : decode cX1_signCounts 13 = .ok (.ifCond .eq 7, 3) := by decide +kernel
theorem dX1_signCounts_16 : decode cX1_signCounts 16 = .ok (.iconst 1, 1) := by decide +kernel
theorem dX1_signCounts_17 : decode cX1_signCounts 17 = .ok (.goto 4, 3) := by decide +kernel
theorem dX1_signCounts_20 : decode cX1_signCounts 20 = .ok (.iconst 0, 1) := by decide +kernel
theorem dX1_signCounts_21 : decode cX1_signCounts 21 = .ok (.ireturn, 1) := by decide +kernel
set_option maxRecDepth 20000 in
theorem ggX1_signKind_X4_at : GoodIn wsX1_signKind wsX4_at := goodIn_r _ [7, 8, 17] (by decide +kernel) (by decide +kernel)
set_option maxRecDepth 20000 in
theorem gX1_signKind_X4_at : GoodIn wsX1_signKind (wsV RX1 56 RX4 yX4_at wsX4_at) := goodIn_app (goodIn_of _ (by decide +kernel)) ggX1_signKind_X4_at
theorem dX1_signKind_0 : decode cX1_signKind 0 = .ok (.aload_n 0, 1) := by decide +kernel
theorem dX1_signKind_1 : decode cX1_signKind 1 = .ok (.getfield 21, 3) := by decide +kernel
theorem dX1_signKind_4 : decode cX1_signKind 4 = .ok (.getfield 39, 3) := by decide +kernel
theorem dX1_signKind_7 : decode cX1_signKind 7 = .ok (.iload_n 1, 1) := by decide +kernel
theorem dX1_signKind_8 : decode cX1_signKind 8 = .ok (.invokevirtual 56, 3) := by decide +kernel
theorem dX1_signKind_11 : decode cX1_signKind 11 = .ok (.iconst 1, 1) := by decide +kernel
theorem dX1_signKind_12 : decode cX1_signKind 12 = .ok (.isub, 1) := by decide +kernel
theorem dX1_signKind_13 : decode cX1_signKind 13 = .ok (.iconst 2, 1) := by decide +kernel
theorem dX1_signKind_14 : decode cX1_signKind 14 = .ok (.ishr, 1) := by decide +kernel
theorem dX1_signKind_15 : decode cX1_signKind 15 = .ok (.ireturn, 1) := by decide +kernel
set_option maxRecDepth 20000 in
theorem ggX1_signOwnDirection_X4_at : GoodIn wsX1_signOwnDirection wsX4_at := goodIn_r _ [7, 8, 17] (by decide +kernel) (by decide +kernel)
set_option maxRecDepth 20000 in
theorem gX1_signOwnDirection_X4_at : GoodIn wsX1_signOwnDirection (wsV RX1 56 RX4 yX4_at wsX4_at) := goodIn_app (goodIn_of _ (by decide +kernel)) ggX1_signOwnDirection_X4_at
theorem dX1_signOwnDirection_0 : decode cX1_signOwnDirection 0 = .ok (.aload_n 0, 1) := by decide +kernel
theorem dX1_signOwnDirection_1 : decode cX1_signOwnDirection 1 = .ok (.getfield 21, 3) := by decide +kernel
theorem dX1_signOwnDirection_4 : decode cX1_signOwnDirection 4 = .ok (.getfield 39, 3) := by decide +kernel
theorem dX1_signOwnDirection_7 : decode cX1_signOwnDirection 7 = .ok (.iload_n 1, 1) := by decide +kernel
theorem dX1_signOwnDirection_8 : decode cX1_signOwnDirection 8 = .ok (.invokevirtual 56, 3) := by decide +kernel
theorem dX1_signOwnDirection_11 : decode cX1_signOwnDirection 11 = .ok (.iconst 1, 1) := by decide +kernel
theorem dX1_signOwnDirection_12 : decode cX1_signOwnDirection 12 = .ok (.isub, 1) := by decide +kernel
theorem dX1_signOwnDirection_13 : decode cX1_signOwnDirection 13 = .ok (.iconst 3, 1) := by decide +kernel
theorem dX1_signOwnDirection_14 : decode cX1_signOwnDirection 14 = .ok (.iand, 1) := by decide +kernel
theorem dX1_signOwnDirection_15 : decode cX1_signOwnDirection 15 = .ok (.ireturn, 1) := by decide +kernel
set_option maxRecDepth 20000 in
theorem ggX1_putSign_X4_put : GoodIn wsX1_putSign wsX4_put := goodIn_r _ [7, 8, 17] (by decide +kernel) (by decide +kernel)
set_option maxRecDepth 20000 in
theorem gX1_putSign_X4_put : GoodIn wsX1_putSign (wsV RX1 78 RX4 yX4_put wsX4_put) := goodIn_app (goodIn_of _ (by decide +kernel)) ggX1_putSign_X4_put
theorem dX1_putSign_0 : decode cX1_putSign 0 = .ok (.aload_n 0, 1) := by decide +kernel
theorem dX1_putSign_1 : decode cX1_putSign 1 = .ok (.getfield 21, 3) := by decide +kernel
theorem dX1_putSign_4 : decode cX1_putSign 4 = .ok (.getfield 39, 3) := by decide +kernel
theorem dX1_putSign_7 : decode cX1_putSign 7 = .ok (.iload_n 1, 1) := by decide +kernel
theorem dX1_putSign_8 : decode cX1_putSign 8 = .ok (.iconst 1, 1) := by decide +kernel
theorem dX1_putSign_9 : decode cX1_putSign 9 = .ok (.iconst 4, 1) := by decide +kernel
theorem dX1_putSign_10 : decode cX1_putSign 10 = .ok (.iload_n 2, 1) := by decide +kernel
theorem dX1_putSign_11 : decode cX1_putSign 11 = .ok (.imul, 1) := by decide +kernel
theorem dX1_putSign_12 : decode cX1_putSign 12 = .ok (.iadd, 1) := by decide +kernel
theorem dX1_putSign_13 : decode cX1_putSign 13 = .ok (.iload_n 3, 1) := by decide +kernel
theorem dX1_putSign_14 : decode cX1_putSign 14 = .ok (.iadd, 1) := by decide +kernel
theorem dX1_putSign_15 : decode cX1_putSign 15 = .ok (.invokevirtual 78, 3) := by decide +kernel
theorem dX1_putSign_18 : decode cX1_putSign 18 = .ok (.return_, 1) := by decide +kernel
set_option maxRecDepth 20000 in
theorem ggX1_removeSign_X4_put : GoodIn wsX1_removeSign wsX4_put := goodIn_r _ [7, 8, 17] (by decide +kernel) (by decide +kernel)
set_option maxRecDepth 20000 in
theorem gX1_removeSign_X4_put : GoodIn wsX1_removeSign (wsV RX1 78 RX4 yX4_put wsX4_put) := goodIn_app (goodIn_of _ (by decide +kernel)) ggX1_removeSign_X4_put
theorem dX1_removeSign_0 : decode cX1_removeSign 0 = .ok (.aload_n 0, 1) := by decide +kernel
theorem dX1_removeSign_1 : decode cX1_removeSign 1 = .ok (.getfield 21, 3) := by decide +kernel
theorem dX1_removeSign_4 : decode cX1_removeSign 4 = .ok (.getfield 39, 3) := by decide +kernel
theorem dX1_removeSign_7 : decode cX1_removeSign 7 = .ok (.iload_n 1, 1) := by decide +kernel
theorem dX1_removeSign_8 : decode cX1_removeSign 8 = .ok (.iconst 0, 1) := by decide +kernel
theorem dX1_removeSign_9 : decode cX1_removeSign 9 = .ok (.invokevirtual 78, 3) := by decide +kernel
theorem dX1_removeSign_12 : decode cX1_removeSign 12 = .ok (.return_, 1) := by decide +kernel
set_option maxRecDepth 20000 in
theorem ggX1_signCount_X1_signCounts : GoodIn wsX1_signCount wsX1_signCounts := goodIn_r _ [5, 6, 7, 8, 4, 9, 10, 11, 12, 13, 14, 15, 16, 17, 18, 19, 20, 21, 22, 23, 24, 25, 26, 27, 28, 29, 30, 31, 32, 33, 34, 35, 36, 37, 38, 39, 40, 41, 42] (by decide +kernel) (by decide +kernel)
set_option maxRecDepth 20000 in
theorem gX1_signCount_X1_signCounts : GoodIn wsX1_signCount (wsV RX1 100 RX1 yX1_signCounts wsX1_signCounts) := goodIn_app (goodIn_of _ (by decide +kernel)) ggX1_signCount_X1_signCounts
set_option maxRecDepth 20000 in
theorem ggX1_signCount_X1_hasSign : GoodIn wsX1_signCount wsX1_hasSign := goodIn_r _ [9, 10, 11, 12, 13, 14, 15, 16, 17, 34, 35, 36, 37, 38, 39, 40, 41, 42] (by decide +kernel) (by decide +kernel)
set_option maxRecDepth 20000 in
theorem gX1_signCount_X1_hasSign : GoodIn wsX1_signCount (wsV RX1 93 RX1 yX1_hasSign wsX1_hasSign) := goodIn_app (goodIn_of _ (by decide +kernel)) ggX1_signCount_X1_hasSign
theorem dX1_signCount_0 : decode cX1_signCount 0 = .ok (.iconst 0, 1) := by decide +kernel
theorem dX1_signCount_1 : decode cX1_signCount 1 = .ok (.istore_n 2, 1) := by decide +kernel
theorem dX1_signCount_2 : decode cX1_signCount 2 = .ok (.iconst 0, 1) := by decide +kernel
theorem dX1_signCount_3 : decode cX1_signCount 3 = .ok (.istore_n 3, 1) := by decide +kernel
theorem dX1_signCount_4 : decode cX1_signCount 4 = .ok (.iload_n 3, 1) := by decide +kernel
theorem dX1_signCount_5 : decode cX1_signCount 5 = .ok (.sipush 210, 3) := by decide +kernel
theorem dX1_signCount_8 : decode cX1_signCount 8 = .ok (.if_icmp .ge 35, 3) := by decide +kernel
theorem dX1_signCount_11 : decode cX1_signCount 11 = .ok (.iload_n 1, 1) := by decide +kernel
theorem dX1_signCount_12 : decode cX1_signCount 12 = .ok (.ifCond .eq 14, 3) := by decide +kernel
theorem dX1_signCount_15 : decode cX1_signCount 15 = .ok (.aload_n 0, 1) := by decide +kernel
theorem dX1_signCount_16 : decode cX1_signCount 16 = .ok (.iload_n 3, 1) := by decide +kernel
theorem dX1_signCount_17 : decode cX1_signCount 17 = .ok (.invokevirtual 100, 3) := by decide +kernel
theorem dX1_signCount_20 : decode cX1_signCount 20 = .ok (.ifCond .eq 17, 3) := by decide +kernel
theorem dX1_signCount_23 : decode cX1_signCount 23 = .ok (.goto 11, 3) := by decide +kernel
theorem dX1_signCount_26 : decode cX1_signCount 26 = .ok (.aload_n 0, 1) := by decide +kernel
theorem dX1_signCount_27 : decode cX1_signCount 27 = .ok (.iload_n 3, 1) := by decide +kernel
theorem dX1_signCount_28 : decode cX1_signCount 28 = .ok (.invokevirtual 93, 3) := by decide +kernel
theorem dX1_signCount_31 : decode cX1_signCount 31 = .ok (.ifCond .eq 6, 3) := by decide +kernel
theorem dX1_signCount_34 : decode cX1_signCount 34 = .ok (.iinc 2 1, 3) := by decide +kernel
theorem dX1_signCount_37 : decode cX1_signCount 37 = .ok (.iinc 3 1, 3) := by decide +kernel
theorem dX1_signCount_40 : decode cX1_signCount 40 = .ok (.goto (-36), 3) := by decide +kernel
theorem dX1_signCount_43 : decode cX1_signCount 43 = .ok (.iload_n 2, 1) := by decide +kernel
theorem dX1_signCount_44 : decode cX1_signCount 44 = .ok (.ireturn, 1) := by decide +kernel
theorem dX2_init_0 : decode cX2_init 0 = .ok (.aload_n 0, 1) := by decide +kernel
theorem dX2_init_1 : decode cX2_init 1 = .ok (.invokespecial 3, 3) := by decide +kernel
theorem dX2_init_4 : decode cX2_init 4 = .ok (.return_, 1) := by decide +kernel
set_option maxRecDepth 20000 in
theorem ggX2_read_X4_at : GoodIn wsX2_read wsX4_at := goodIn_r _ [14, 15, 152] (by decide +kernel) (by decide +kernel)
set_option maxRecDepth 20000 in
theorem gX2_read_X4_at : GoodIn wsX2_read (wsV RX2 40 RX4 yX4_at wsX4_at) := goodIn_app (goodIn_of _ (by decide +kernel)) ggX2_read_X4_at
set_option maxRecDepth 20000 in
theorem ggX2_read_J0_indexOf_0f7a4 : GoodIn wsX2_read wsJ0_indexOf_0f7a4 := goodIn_r _ [20, 21, 22, 23, 19, 24, 25, 26, 27, 28, 29, 30, 31, 32, 33, 34, 35, 36, 37, 38, 39, 40, 41, 42, 43, 44, 45, 46, 47, 48, 49, 50, 51, 52, 53, 54, 55, 56, 57, 58, 59, 60, 61, 62, 63, 64, 65, 66, 67, 68, 69, 70, 71, 72, 73, 74, 75, 76, 77, 78, 79, 80, 81, 82, 83, 84, 85, 86, 87, 88, 89, 90, 91, 92, 93, 94, 95, 96, 97, 98, 99, 100, 101, 102, 103, 104] (by decide +kernel) (by decide +kernel)
set_option maxRecDepth 20000 in
theorem gX2_read_J0_indexOf_0f7a4 : GoodIn wsX2_read (wsV RX2 46 RJ0 yJ0_indexOf_0f7a4 wsJ0_indexOf_0f7a4) := goodIn_app (goodIn_of _ (by decide +kernel)) ggX2_read_J0_indexOf_0f7a4
set_option maxRecDepth 20000 in
theorem ggX2_read_X2_reasonAgainst : GoodIn wsX2_read wsX2_reasonAgainst := goodIn_r _ [109, 8, 3, 1, 9, 110, 111, 112, 113, 114, 115, 116, 117, 118, 119, 120, 11, 12, 13, 14, 15, 121, 122, 123, 124, 125, 126, 127, 128, 129, 130, 131, 132, 133, 134, 135, 136, 137, 139, 140, 147, 148, 149, 141, 142, 143, 144, 145, 146, 153, 154, 155, 156, 157, 158, 152] (by decide +kernel) (by decide +kernel)
set_option maxRecDepth 20000 in
theorem gX2_read_X2_reasonAgainst : GoodIn wsX2_read (wsV RX2 51 RX2 yX2_reasonAgainst wsX2_reasonAgainst) := goodIn_app (goodIn_of _ (by decide +kernel)) ggX2_read_X2_reasonAgainst
set_option maxRecDepth 20000 in
theorem ggX2_read_X5_stride : GoodIn wsX2_read wsX5_stride := goodIn_r _ [129, 125, 153, 154, 155, 156, 157, 158] (by decide +kernel) (by decide +kernel)
set_option maxRecDepth 20000 in
theorem gX2_read_X5_stride : GoodIn wsX2_read (wsV RX2 62 RX5 yX5_stride wsX5_stride) := goodIn_app (goodIn_of _ (by decide +kernel)) ggX2_read_X5_stride
theorem dX2_read_0 : decode cX2_read 0 = .ok (.aload_n 0, 1) := by decide +kernel
theorem dX2_read_1 : decode cX2_read 1 = .ok (.aload_n 1, 1) := by decide +kernel
theorem dX2_read_2 : decode cX2_read 2 = .ok (.getfield 9, 3) := by decide +kernel
theorem dX2_read_5 : decode cX2_read 5 = .ok (.getfield 15, 3) := by decide +kernel
theorem dX2_read_8 : decode cX2_read 8 = .ok (.putfield 21, 3) := by decide +kernel
theorem dX2_read_11 : decode cX2_read 11 = .ok (.aload_n 0, 1) := by decide +kernel
theorem dX2_read_12 : decode cX2_read 12 = .ok (.iconst 0, 1) := by decide +kernel
theorem dX2_read_13 : decode cX2_read 13 = .ok (.putfield 26, 3) := by decide +kernel
theorem dX2_read_16 : decode cX2_read 16 = .ok (.aload_n 0, 1) := by decide +kernel
theorem dX2_read_17 : decode cX2_read 17 = .ok (.getfield 26, 3) := by decide +kernel
theorem dX2_read_20 : decode cX2_read 20 = .ok (.aload_n 2, 1) := by decide +kernel
theorem dX2_read_21 : decode cX2_read 21 = .ok (.getfield 29, 3) := by decide +kernel
theorem dX2_read_24 : decode cX2_read 24 = .ok (.if_icmp .ge 79, 3) := by decide +kernel
theorem dX2_read_27 : decode cX2_read 27 = .ok (.aload_n 0, 1) := by decide +kernel
theorem dX2_read_28 : decode cX2_read 28 = .ok (.getfield 26, 3) := by decide +kernel
theorem dX2_read_31 : decode cX2_read 31 = .ok (.sipush 200, 3) := by decide +kernel
theorem dX2_read_34 : decode cX2_read 34 = .ok (.if_icmp .ge 69, 3) := by decide +kernel
theorem dX2_read_37 : decode cX2_read 37 = .ok (.ldc 34, 2) := by decide +kernel
theorem dX2_read_39 : decode cX2_read 39 = .ok (.aload_n 2, 1) := by decide +kernel
theorem dX2_read_40 : decode cX2_read 40 = .ok (.getfield 36, 3) := by decide +kernel
theorem dX2_read_43 : decode cX2_read 43 = .ok (.aload_n 0, 1) := by decide +kernel
theorem dX2_read_44 : decode cX2_read 44 = .ok (.getfield 26, 3) := by decide +kernel
theorem dX2_read_47 : decode cX2_read 47 = .ok (.invokevirtual 40, 3) := by decide +kernel
theorem dX2_read_50 : decode cX2_read 50 = .ok (.i2c, 1) := by decide +kernel
theorem dX2_read_51 : decode cX2_read 51 = .ok (.invokevirtual 46, 3) := by decide +kernel
theorem dX2_read_54 : decode cX2_read 54 = .ok (.istore_n 3, 1) := by decide +kernel
theorem dX2_read_55 : decode cX2_read 55 = .ok (.aload_n 0, 1) := by decide +kernel
theorem dX2_read_56 : decode cX2_read 56 = .ok (.aload_n 0, 1) := by decide +kernel
theorem dX2_read_57 : decode cX2_read 57 = .ok (.aload_n 1, 1) := by decide +kernel
theorem dX2_read_58 : decode cX2_read 58 = .ok (.iload_n 3, 1) := by decide +kernel
theorem dX2_read_59 : decode cX2_read 59 = .ok (.invokevirtual 51, 3) := by decide +kernel
theorem dX2_read_62 : decode cX2_read 62 = .ok (.putfield 55, 3) := by decide +kernel
theorem dX2_read_65 : decode cX2_read 65 = .ok (.aload_n 0, 1) := by decide +kernel
theorem dX2_read_66 : decode cX2_read 66 = .ok (.getfield 55, 3) := by decide +kernel
theorem dX2_read_69 : decode cX2_read 69 = .ok (.ifCond .eq 4, 3) := by decide +kernel
theorem dX2_read_72 : decode cX2_read 72 = .ok (.return_, 1) := by decide +kernel
theorem dX2_read_73 : decode cX2_read 73 = .ok (.aload_n 0, 1) := by decide +kernel
theorem dX2_read_74 : decode cX2_read 74 = .ok (.dup, 1) := by decide +kernel
theorem dX2_read_75 : decode cX2_read 75 = .ok (.getfield 21, 3) := by decide +kernel
theorem dX2_read_78 : decode cX2_read 78 = .ok (.aload_n 1, 1) := by decide +kernel
theorem dX2_read_79 : decode cX2_read 79 = .ok (.getfield 58, 3) := by decide +kernel
theorem dX2_read_82 : decode cX2_read 82 = .ok (.iload_n 3, 1) := by decide +kernel
theorem dX2_read_83 : decode cX2_read 83 = .ok (.invokevirtual 62, 3) := by decide +kernel
theorem dX2_read_86 : decode cX2_read 86 = .ok (.iadd, 1) := by decide +kernel
theorem dX2_read_87 : decode cX2_read 87 = .ok (.putfield 21, 3) := by decide +kernel
theorem dX2_read_90 : decode cX2_read 90 = .ok (.aload_n 0, 1) := by decide +kernel
theorem dX2_read_91 : decode cX2_read 91 = .ok (.dup, 1) := by decide +kernel
theorem dX2_read_92 : decode cX2_read 92 = .ok (.getfield 26, 3) := by decide +kernel
theorem dX2_read_95 : decode cX2_read 95 = .ok (.iconst 1, 1) := by decide +kernel
theorem dX2_read_96 : decode cX2_read 96 = .ok (.iadd, 1) := by decide +kernel
theorem dX2_read_97 : decode cX2_read 97 = .ok (.putfield 26, 3) := by decide +kernel
theorem dX2_read_100 : decode cX2_read 100 = .ok (.goto (-84), 3) := by decide +kernel
theorem dX2_read_103 : decode cX2_read 103 = .ok (.aload_n 0, 1) := by decide +kernel
theorem dX2_read_104 : decode cX2_read 104 = .ok (.aload_n 0, 1) := by decide +kernel
theorem dX2_read_105 : decode cX2_read 105 = .ok (.getfield 21, 3) := by decide +kernel
theorem dX2_read_108 : decode cX2_read 108 = .ok (.aload_n 1, 1) := by decide +kernel
theorem dX2_read_109 : decode cX2_read 109 = .ok (.getfield 9, 3) := by decide +kernel
theorem dX2_read_112 : decode cX2_read 112 = .ok (.getfield 67, 3) := by decide +kernel
theorem dX2_read_115 : decode cX2_read 115 = .ok (.if_icmp .ne 7, 3) := by decide +kernel
theorem dX2_read_118 : decode cX2_read 118 = .ok (.iconst 0, 1) := by decide +kernel
theorem dX2_read_119 : decode cX2_read 119 = .ok (.goto 4, 3) := by decide +kernel
theorem dX2_read_122 : decode cX2_read 122 = .ok (.iconst 5, 1) := by decide +kernel
theorem dX2_read_123 : decode cX2_read 123 = .ok (.putfield 55, 3) := by decide +kernel
theorem dX2_read_126 : decode cX2_read 126 = .ok (.return_, 1) := by decide +kernel
set_option maxRecDepth 20000 in
theorem ggX2_reasonAgainst_X5_hasDoor : GoodIn wsX2_reasonAgainst wsX5_hasDoor := goodIn_r _ [9, 10, 11, 12, 8, 13, 14, 15, 16, 17, 18, 19, 20, 21, 22, 23, 24, 25, 26, 27, 28, 29, 49, 50, 51, 52, 53, 54, 55] (by decide +kernel) (by decide +kernel)
set_option maxRecDepth 20000 in
theorem gX2_reasonAgainst_X5_hasDoor : GoodIn wsX2_reasonAgainst (wsV RX2 70 RX5 yX5_hasDoor wsX5_hasDoor) := goodIn_app (goodIn_of _ (by decide +kernel)) ggX2_reasonAgainst_X5_hasDoor
set_option maxRecDepth 20000 in
theorem ggX2_reasonAgainst_X1_isOpen : GoodIn wsX2_reasonAgainst wsX1_isOpen := goodIn_r _ [34, 35, 36, 37, 16, 17, 18, 19, 20, 38, 39, 43, 44, 45, 46, 47, 48, 55] (by decide +kernel) (by decide +kernel)
set_option maxRecDepth 20000 in
theorem gX2_reasonAgainst_X1_isOpen : GoodIn wsX2_reasonAgainst (wsV RX2 74 RX1 yX1_isOpen wsX1_isOpen) := goodIn_app (goodIn_of _ (by decide +kernel)) ggX2_reasonAgainst_X1_isOpen
theorem dX2_reasonAgainst_0 : decode cX2_reasonAgainst 0 = .ok (.iload_n 2, 1) := by decide +kernel
theorem dX2_reasonAgainst_1 : decode cX2_reasonAgainst 1 = .ok (.ifCond .ge 5, 3) := by decide +kernel
theorem dX2_reasonAgainst_4 : decode cX2_reasonAgainst 4 = .ok (.iconst 1, 1) := by decide +kernel
theorem dX2_reasonAgainst_5 : decode cX2_reasonAgainst 5 = .ok (.ireturn, 1) := by decide +kernel
theorem dX2_reasonAgainst_6 : decode cX2_reasonAgainst 6 = .ok (.aload_n 1, 1) := by decide +kernel
theorem dX2_reasonAgainst_7 : decode cX2_reasonAgainst 7 = .ok (.getfield 58, 3) := by decide +kernel
theorem dX2_reasonAgainst_10 : decode cX2_reasonAgainst 10 = .ok (.aload_n 0, 1) := by decide +kernel
theorem dX2_reasonAgainst_11 : decode cX2_reasonAgainst 11 = .ok (.getfield 21, 3) := by decide +kernel
theorem dX2_reasonAgainst_14 : decode cX2_reasonAgainst 14 = .ok (.iload_n 2, 1) := by decide +kernel
theorem dX2_reasonAgainst_15 : decode cX2_reasonAgainst 15 = .ok (.invokevirtual 70, 3) := by decide +kernel
theorem dX2_reasonAgainst_18 : decode cX2_reasonAgainst 18 = .ok (.ifCond .ne 5, 3) := by decide +kernel
theorem dX2_reasonAgainst_21 : decode cX2_reasonAgainst 21 = .ok (.iconst 2, 1) := by decide +kernel
theorem dX2_reasonAgainst_22 : decode cX2_reasonAgainst 22 = .ok (.ireturn, 1) := by decide +kernel
theorem dX2_reasonAgainst_23 : decode cX2_reasonAgainst 23 = .ok (.aload_n 1, 1) := by decide +kernel
theorem dX2_reasonAgainst_24 : decode cX2_reasonAgainst 24 = .ok (.aload_n 0, 1) := by decide +kernel
theorem dX2_reasonAgainst_25 : decode cX2_reasonAgainst 25 = .ok (.getfield 21, 3) := by decide +kernel
theorem dX2_reasonAgainst_28 : decode cX2_reasonAgainst 28 = .ok (.iload_n 2, 1) := by decide +kernel
theorem dX2_reasonAgainst_29 : decode cX2_reasonAgainst 29 = .ok (.invokevirtual 74, 3) := by decide +kernel
theorem dX2_reasonAgainst_32 : decode cX2_reasonAgainst 32 = .ok (.ifCond .ne 5, 3) := by decide +kernel
theorem dX2_reasonAgainst_35 : decode cX2_reasonAgainst 35 = .ok (.iconst 3, 1) := by decide +kernel
theorem dX2_reasonAgainst_36 : decode cX2_reasonAgainst 36 = .ok (.ireturn, 1) := by decide +kernel
theorem dX2_reasonAgainst_37 : decode cX2_reasonAgainst 37 = .ok (.aload_n 0, 1) := by decide +kernel
theorem dX2_reasonAgainst_38 : decode cX2_reasonAgainst 38 = .ok (.getfield 21, 3) := by decide +kernel
theorem dX2_reasonAgainst_41 : decode cX2_reasonAgainst 41 = .ok (.aload_n 1, 1) := by decide +kernel
theorem dX2_reasonAgainst_42 : decode cX2_reasonAgainst 42 = .ok (.getfield 9, 3) := by decide +kernel
theorem dX2_reasonAgainst_45 : decode cX2_reasonAgainst 45 = .ok (.getfield 67, 3) := by decide +kernel
theorem dX2_reasonAgainst_48 : decode cX2_reasonAgainst 48 = .ok (.if_icmp .ne 7, 3) := by decide +kernel
theorem dX2_reasonAgainst_51 : decode cX2_reasonAgainst 51 = .ok (.iconst 4, 1) := by decide +kernel
theorem dX2_reasonAgainst_52 : decode cX2_reasonAgainst 52 = .ok (.goto 4, 3) := by decide +kernel
theorem dX2_reasonAgainst_55 : decode cX2_reasonAgainst 55 = .ok (.iconst 0, 1) := by decide +kernel
theorem dX2_reasonAgainst_56 : decode cX2_reasonAgainst 56 = .ok (.ireturn, 1) := by decide +kernel
set_option maxRecDepth 20000 in
theorem ggX3_init_X4_init : GoodIn wsX3_init wsX4_init := goodIn_r _ [11, 12, 2, 3, 13, 14, 15, 16, 17, 18, 19] (by decide +kernel) (by decide +kernel)
set_option maxRecDepth 20000 in
theorem gX3_init_X4_init : GoodIn wsX3_init (wsX4_init) := ggX3_init_X4_init
theorem dX3_init_0 : decode cX3_init 0 = .ok (.aload_n 0, 1) := by decide +kernel
theorem dX3_init_1 : decode cX3_init 1 = .ok (.invokespecial 3, 3) := by decide +kernel
theorem dX3_init_4 : decode cX3_init 4 = .ok (.aload_n 0, 1) := by decide +kernel
theorem dX3_init_5 : decode cX3_init 5 = .ok (.new 9, 3) := by decide +kernel
theorem dX3_init_8 : decode cX3_init 8 = .ok (.dup, 1) := by decide +kernel
theorem dX3_init_9 : decode cX3_init 9 = .ok (.sipush 420, 3) := by decide +kernel
theorem dX3_init_12 : decode cX3_init 12 = .ok (.invokespecial 11, 3) := by decide +kernel
theorem dX3_init_15 : decode cX3_init 15 = .ok (.putfield 14, 3) := by decide +kernel
theorem dX3_init_18 : decode cX3_init 18 = .ok (.aload_n 0, 1) := by decide +kernel
theorem dX3_init_19 : decode cX3_init 19 = .ok (.new 9, 3) := by decide +kernel
theorem dX3_init_22 : decode cX3_init 22 = .ok (.dup, 1) := by decide +kernel
theorem dX3_init_23 : decode cX3_init 23 = .ok (.sipush 210, 3) := by decide +kernel
theorem dX3_init_26 : decode cX3_init 26 = .ok (.invokespecial 11, 3) := by decide +kernel
theorem dX3_init_29 : decode cX3_init 29 = .ok (.putfield 20, 3) := by decide +kernel
theorem dX3_init_32 : decode cX3_init 32 = .ok (.return_, 1) := by decide +kernel
set_option maxRecDepth 20000 in
theorem ggX3_openFrom_X4_fill : GoodIn wsX3_openFrom wsX4_fill := goodIn_r _ [11, 12, 13, 14, 15, 16, 93] (by decide +kernel) (by decide +kernel)
set_option maxRecDepth 20000 in
theorem gX3_openFrom_X4_fill : GoodIn wsX3_openFrom (wsV RX3 34 RX4 yX4_fill wsX4_fill) := goodIn_app (goodIn_of _ (by decide +kernel)) ggX3_openFrom_X4_fill
set_option maxRecDepth 20000 in
theorem ggX3_openFrom_X3_listDoors : GoodIn wsX3_openFrom wsX3_listDoors := goodIn_r _ [21, 6, 5, 22, 23, 24, 25, 26, 27, 28, 29, 30, 31, 32, 33, 34, 10, 35, 12, 36, 37, 38, 39, 40, 41, 42, 43, 44, 45, 46, 47, 48, 82, 83, 90, 91, 92, 94, 95, 96, 97, 98, 99, 93] (by decide +kernel) (by decide +kernel)
set_option maxRecDepth 20000 in
theorem gX3_openFrom_X3_listDoors : GoodIn wsX3_openFrom (wsV RX3 41 RX3 yX3_listDoors wsX3_listDoors) := goodIn_app (goodIn_of _ (by decide +kernel)) ggX3_openFrom_X3_listDoors
set_option maxRecDepth 20000 in
theorem ggX3_openFrom_X3_shuffle : GoodIn wsX3_openFrom wsX3_shuffle := goodIn_r _ [52, 5, 53, 54, 55, 20, 56, 3, 57, 58, 33, 34, 10, 35, 12, 45, 46, 47, 48, 90, 91, 92, 93] (by decide +kernel) (by decide +kernel)
set_option maxRecDepth 20000 in
theorem gX3_openFrom_X3_shuffle : GoodIn wsX3_openFrom (wsV RX3 45 RX3 yX3_shuffle wsX3_shuffle) := goodIn_app (goodIn_of _ (by decide +kernel)) ggX3_openFrom_X3_shuffle
set_option maxRecDepth 20000 in
theorem ggX3_openFrom_X4_put : GoodIn wsX3_openFrom wsX4_put := goodIn_r _ [48, 12, 93] (by decide +kernel) (by decide +kernel)
set_option maxRecDepth 20000 in
theorem gX3_openFrom_X4_put : GoodIn wsX3_openFrom (wsV RX3 48 RX4 yX4_put wsX4_put) := goodIn_app (goodIn_of _ (by decide +kernel)) ggX3_openFrom_X4_put
set_option maxRecDepth 20000 in
theorem ggX3_openFrom_X4_at : GoodIn wsX3_openFrom wsX4_at := goodIn_r _ [35, 12, 93] (by decide +kernel) (by decide +kernel)
set_option maxRecDepth 20000 in
theorem gX3_openFrom_X4_at : GoodIn wsX3_openFrom (wsV RX3 52 RX4 yX4_at wsX4_at) := goodIn_app (goodIn_of _ (by decide +kernel)) ggX3_openFrom_X4_at
set_option maxRecDepth 20000 in
theorem ggX3_openFrom_X5_stride : GoodIn wsX3_openFrom wsX5_stride := goodIn_r _ [44, 40, 94, 95, 96, 97, 98, 99] (by decide +kernel) (by decide +kernel)
set_option maxRecDepth 20000 in
theorem gX3_openFrom_X5_stride : GoodIn wsX3_openFrom (wsV RX3 60 RX5 yX5_stride wsX5_stride) := goodIn_app (goodIn_of _ (by decide +kernel)) ggX3_openFrom_X5_stride
set_option maxRecDepth 20000 in
theorem ggX3_openFrom_X3_join : GoodIn wsX3_openFrom wsX3_join := goodIn_r _ [63, 4, 58, 33, 34, 10, 35, 12, 45, 46, 47, 48, 90, 91, 92, 93] (by decide +kernel) (by decide +kernel)
set_option maxRecDepth 20000 in
theorem gX3_openFrom_X3_join : GoodIn wsX3_openFrom (wsV RX3 65 RX3 yX3_join wsX3_join) := goodIn_app (goodIn_of _ (by decide +kernel)) ggX3_openFrom_X3_join
set_option maxRecDepth 20000 in
theorem ggX3_openFrom_X1_setDoor : GoodIn wsX3_openFrom wsX1_setDoor := goodIn_r _ [68, 69, 70, 71, 72, 67, 73, 74, 75, 76, 33, 34, 10, 35, 12, 77, 46, 47, 48, 78, 42, 43, 25, 44, 40, 79, 80, 81, 82, 83, 84, 85, 86, 87, 88, 89, 93, 94, 95, 96, 97, 98, 99] (by decide +kernel) (by decide +kernel)
set_option maxRecDepth 20000 in
theorem gX3_openFrom_X1_setDoor : GoodIn wsX3_openFrom (wsV RX3 69 RX1 yX1_setDoor wsX1_setDoor) := goodIn_app (goodIn_of _ (by decide +kernel)) ggX3_openFrom_X1_setDoor
theorem dX3_openFrom_0 : decode cX3_openFrom 0 = .ok (.aload_n 1, 1) := by decide +kernel
theorem dX3_openFrom_1 : decode cX3_openFrom 1 = .ok (.getfield 23, 3) := by decide +kernel
theorem dX3_openFrom_4 : decode cX3_openFrom 4 = .ok (.getfield 29, 3) := by decide +kernel
theorem dX3_openFrom_7 : decode cX3_openFrom 7 = .ok (.iconst 0, 1) := by decide +kernel
theorem dX3_openFrom_8 : decode cX3_openFrom 8 = .ok (.invokevirtual 34, 3) := by decide +kernel
theorem dX3_openFrom_11 : decode cX3_openFrom 11 = .ok (.aload_n 0, 1) := by decide +kernel
theorem dX3_openFrom_12 : decode cX3_openFrom 12 = .ok (.iload_n 2, 1) := by decide +kernel
theorem dX3_openFrom_13 : decode cX3_openFrom 13 = .ok (.putfield 37, 3) := by decide +kernel
theorem dX3_openFrom_16 : decode cX3_openFrom 16 = .ok (.aload_n 0, 1) := by decide +kernel
theorem dX3_openFrom_17 : decode cX3_openFrom 17 = .ok (.aload_n 1, 1) := by decide +kernel
theorem dX3_openFrom_18 : decode cX3_openFrom 18 = .ok (.invokevirtual 41, 3) := by decide +kernel
theorem dX3_openFrom_21 : decode cX3_openFrom 21 = .ok (.istore_n 3, 1) := by decide +kernel
theorem dX3_openFrom_22 : decode cX3_openFrom 22 = .ok (.aload_n 0, 1) := by decide +kernel
theorem dX3_openFrom_23 : decode cX3_openFrom 23 = .ok (.iload_n 3, 1) := by decide +kernel
theorem dX3_openFrom_24 : decode cX3_openFrom 24 = .ok (.invokevirtual 45, 3) := by decide +kernel
theorem dX3_openFrom_27 : decode cX3_openFrom 27 = .ok (.iconst 0, 1) := by decide +kernel
theorem dX3_openFrom_28 : decode cX3_openFrom 28 = .ok (.istore 4, 2) := by decide +kernel
theorem dX3_openFrom_30 : decode cX3_openFrom 30 = .ok (.iload 4, 2) := by decide +kernel
theorem dX3_openFrom_32 : decode cX3_openFrom 32 = .ok (.sipush 210, 3) := by decide +kernel
theorem dX3_openFrom_35 : decode cX3_openFrom 35 = .ok (.if_icmp .ge 20, 3) := by decide +kernel
theorem dX3_openFrom_38 : decode cX3_openFrom 38 = .ok (.aload_n 0, 1) := by decide +kernel
theorem dX3_openFrom_39 : decode cX3_openFrom 39 = .ok (.getfield 20, 3) := by decide +kernel
theorem dX3_openFrom_42 : decode cX3_openFrom 42 = .ok (.iload 4, 2) := by decide +kernel
theorem dX3_openFrom_44 : decode cX3_openFrom 44 = .ok (.iload 4, 2) := by decide +kernel
theorem dX3_openFrom_46 : decode cX3_openFrom 46 = .ok (.invokevirtual 48, 3) := by decide +kernel
theorem dX3_openFrom_49 : decode cX3_openFrom 49 = .ok (.iinc 4 1, 3) := by decide +kernel
theorem dX3_openFrom_52 : decode cX3_openFrom 52 = .ok (.goto (-22), 3) := by decide +kernel
theorem dX3_openFrom_55 : decode cX3_openFrom 55 = .ok (.iconst 0, 1) := by decide +kernel
theorem dX3_openFrom_56 : decode cX3_openFrom 56 = .ok (.istore 4, 2) := by decide +kernel
theorem dX3_openFrom_58 : decode cX3_openFrom 58 = .ok (.iconst 0, 1) := by decide +kernel
theorem dX3_openFrom_59 : decode cX3_openFrom 59 = .ok (.istore 5, 2) := by decide +kernel
theorem dX3_openFrom_61 : decode cX3_openFrom 61 = .ok (.iload 5, 2) := by decide +kernel
theorem dX3_openFrom_63 : decode cX3_openFrom 63 = .ok (.iload_n 3, 1) := by decide +kernel
theorem dX3_openFrom_64 : decode cX3_openFrom 64 = .ok (.if_icmp .ge 76, 3) := by decide +kernel
theorem dX3_openFrom_67 : decode cX3_openFrom 67 = .ok (.iload 5, 2) := by decide +kernel
theorem dX3_openFrom_69 : decode cX3_openFrom 69 = .ok (.sipush 420, 3) := by decide +kernel
theorem dX3_openFrom_72 : decode cX3_openFrom 72 = .ok (.if_icmp .ge 68, 3) := by decide +kernel
theorem dX3_openFrom_75 : decode cX3_openFrom 75 = .ok (.aload_n 0, 1) := by decide +kernel
theorem dX3_openFrom_76 : decode cX3_openFrom 76 = .ok (.getfield 14, 3) := by decide +kernel
theorem dX3_openFrom_79 : decode cX3_openFrom 79 = .ok (.iload 5, 2) := by decide +kernel
theorem dX3_openFrom_81 : decode cX3_openFrom 81 = .ok (.invokevirtual 52, 3) := by decide +kernel
theorem dX3_openFrom_84 : decode cX3_openFrom 84 = .ok (.iconst 2, 1) := by decide +kernel
theorem dX3_openFrom_85 : decode cX3_openFrom 85 = .ok (.ishr, 1) := by decide +kernel
theorem dX3_openFrom_86 : decode cX3_openFrom 86 = .ok (.istore 6, 2) := by decide +kernel
theorem dX3_openFrom_88 : decode cX3_openFrom 88 = .ok (.aload_n 0, 1) := by decide +kernel
theorem dX3_openFrom_89 : decode cX3_openFrom 89 = .ok (.getfield 14, 3) := by decide +kernel
theorem dX3_openFrom_92 : decode cX3_openFrom 92 = .ok (.iload 5, 2) := by decide +kernel
theorem dX3_openFrom_94 : decode cX3_openFrom 94 = .ok (.invokevirtual 52, 3) := by decide +kernel
theorem dX3_openFrom_97 : decode cX3_openFrom 97 = .ok (.iconst 3, 1) := by decide +kernel
theorem dX3_openFrom_98 : decode cX3_openFrom 98 = .ok (.iand, 1) := by decide +kernel
theorem dX3_openFrom_99 : decode cX3_openFrom 99 = .ok (.istore 7, 2) := by decide +kernel
theorem dX3_openFrom_101 : decode cX3_openFrom 101 = .ok (.aload_n 0, 1) := by decide +kernel
theorem dX3_openFrom_102 : decode cX3_openFrom 102 = .ok (.iload 6, 2) := by decide +kernel
theorem dX3_openFrom_104 : decode cX3_openFrom 104 = .ok (.iload 6, 2) := by decide +kernel
theorem dX3_openFrom_106 : decode cX3_openFrom 106 = .ok (.aload_n 1, 1) := by decide +kernel
theorem dX3_openFrom_107 : decode cX3_openFrom 107 = .ok (.getfield 56, 3) := by decide +kernel
theorem dX3_openFrom_110 : decode cX3_openFrom 110 = .ok (.iload 7, 2) := by decide +kernel
theorem dX3_openFrom_112 : decode cX3_openFrom 112 = .ok (.invokevirtual 60, 3) := by decide +kernel
theorem dX3_openFrom_115 : decode cX3_openFrom 115 = .ok (.iadd, 1) := by decide +kernel
theorem dX3_openFrom_116 : decode cX3_openFrom 116 = .ok (.invokevirtual 65, 3) := by decide +kernel
theorem dX3_openFrom_119 : decode cX3_openFrom 119 = .ok (.ifCond .eq 15, 3) := by decide +kernel
theorem dX3_openFrom_122 : decode cX3_openFrom 122 = .ok (.aload_n 1, 1) := by decide +kernel
theorem dX3_openFrom_123 : decode cX3_openFrom 123 = .ok (.iload 6, 2) := by decide +kernel
theorem dX3_openFrom_125 : decode cX3_openFrom 125 = .ok (.iload 7, 2) := by decide +kernel
theorem dX3_openFrom_127 : decode cX3_openFrom 127 = .ok (.iconst 1, 1) := by decide +kernel
theorem dX3_openFrom_128 : decode cX3_openFrom 128 = .ok (.invokevirtual 69, 3) := by decide +kernel
theorem dX3_openFrom_131 : decode cX3_openFrom 131 = .ok (.iinc 4 1, 3) := by decide +kernel
theorem dX3_openFrom_134 : decode cX3_openFrom 134 = .ok (.iinc 5 1, 3) := by decide +kernel
theorem dX3_openFrom_137 : decode cX3_openFrom 137 = .ok (.goto (-76), 3) := by decide +kernel
theorem dX3_openFrom_140 : decode cX3_openFrom 140 = .ok (.iload 4, 2) := by decide +kernel
theorem dX3_openFrom_142 : decode cX3_openFrom 142 = .ok (.ireturn, 1) := by decide +kernel
set_option maxRecDepth 20000 in
theorem ggX3_listDoors_X5_hasDoor : GoodIn wsX3_listDoors wsX5_hasDoor := goodIn_r _ [7, 8, 9, 10, 6, 11, 12, 13, 14, 15, 16, 17, 18, 19, 20, 21, 22, 23, 24, 25, 26, 27, 37, 38, 39, 40, 41, 42, 43] (by decide +kernel) (by decide +kernel)
set_option maxRecDepth 20000 in
theorem gX3_listDoors_X5_hasDoor : GoodIn wsX3_listDoors (wsV RX3 73 RX5 yX5_hasDoor wsX5_hasDoor) := goodIn_app (goodIn_of _ (by decide +kernel)) ggX3_listDoors_X5_hasDoor
set_option maxRecDepth 20000 in
theorem ggX3_listDoors_X4_put : GoodIn wsX3_listDoors wsX4_put := goodIn_r _ [31, 18, 43] (by decide +kernel) (by decide +kernel)
set_option maxRecDepth 20000 in
theorem gX3_listDoors_X4_put : GoodIn wsX3_listDoors (wsV RX3 48 RX4 yX4_put wsX4_put) := goodIn_app (goodIn_of _ (by decide +kernel)) ggX3_listDoors_X4_put
theorem dX3_listDoors_0 : decode cX3_listDoors 0 = .ok (.iconst 0, 1) := by decide +kernel
theorem dX3_listDoors_1 : decode cX3_listDoors 1 = .ok (.istore_n 2, 1) := by decide +kernel
theorem dX3_listDoors_2 : decode cX3_listDoors 2 = .ok (.iconst 0, 1) := by decide +kernel
theorem dX3_listDoors_3 : decode cX3_listDoors 3 = .ok (.istore_n 3, 1) := by decide +kernel
theorem dX3_listDoors_4 : decode cX3_listDoors 4 = .ok (.iload_n 3, 1) := by decide +kernel
theorem dX3_listDoors_5 : decode cX3_listDoors 5 = .ok (.sipush 210, 3) := by decide +kernel
theorem dX3_listDoors_8 : decode cX3_listDoors 8 = .ok (.if_icmp .ge 54, 3) := by decide +kernel
theorem dX3_listDoors_11 : decode cX3_listDoors 11 = .ok (.iconst 1, 1) := by decide +kernel
theorem dX3_listDoors_12 : decode cX3_listDoors 12 = .ok (.istore 4, 2) := by decide +kernel
theorem dX3_listDoors_14 : decode cX3_listDoors 14 = .ok (.iload 4, 2) := by decide +kernel
theorem dX3_listDoors_16 : decode cX3_listDoors 16 = .ok (.iconst 2, 1) := by decide +kernel
theorem dX3_listDoors_17 : decode cX3_listDoors 17 = .ok (.if_icmp .gt 39, 3) := by decide +kernel
theorem dX3_listDoors_20 : decode cX3_listDoors 20 = .ok (.aload_n 1, 1) := by decide +kernel
theorem dX3_listDoors_21 : decode cX3_listDoors 21 = .ok (.getfield 56, 3) := by decide +kernel
theorem dX3_listDoors_24 : decode cX3_listDoors 24 = .ok (.iload_n 3, 1) := by decide +kernel
theorem dX3_listDoors_25 : decode cX3_listDoors 25 = .ok (.iload 4, 2) := by decide +kernel
theorem dX3_listDoors_27 : decode cX3_listDoors 27 = .ok (.invokevirtual 73, 3) := by decide +kernel
theorem dX3_listDoors_30 : decode cX3_listDoors 30 = .ok (.ifCond .eq 20, 3) := by decide +kernel
theorem dX3_listDoors_33 : decode cX3_listDoors 33 = .ok (.aload_n 0, 1) := by decide +kernel
theorem dX3_listDoors_34 : decode cX3_listDoors 34 = .ok (.getfield 14, 3) := by decide +kernel
theorem dX3_listDoors_37 : decode cX3_listDoors 37 = .ok (.iload_n 2, 1) := by decide +kernel
theorem dX3_listDoors_38 : decode cX3_listDoors 38 = .ok (.iconst 4, 1) := by decide +kernel
theorem dX3_listDoors_39 : decode cX3_listDoors 39 = .ok (.iload_n 3, 1) := by decide +kernel
theorem dX3_listDoors_40 : decode cX3_listDoors 40 = .ok (.imul, 1) := by decide +kernel
theorem dX3_listDoors_41 : decode cX3_listDoors 41 = .ok (.iload 4, 2) := by decide +kernel
theorem dX3_listDoors_43 : decode cX3_listDoors 43 = .ok (.iadd, 1) := by decide +kernel
theorem dX3_listDoors_44 : decode cX3_listDoors 44 = .ok (.invokevirtual 48, 3) := by decide +kernel
theorem dX3_listDoors_47 : decode cX3_listDoors 47 = .ok (.iinc 2 1, 3) := by decide +kernel
theorem dX3_listDoors_50 : decode cX3_listDoors 50 = .ok (.iinc 4 1, 3) := by decide +kernel
theorem dX3_listDoors_53 : decode cX3_listDoors 53 = .ok (.goto (-39), 3) := by decide +kernel
theorem dX3_listDoors_56 : decode cX3_listDoors 56 = .ok (.iinc 3 1, 3) := by decide +kernel
theorem dX3_listDoors_59 : decode cX3_listDoors 59 = .ok (.goto (-55), 3) := by decide +kernel
theorem dX3_listDoors_62 : decode cX3_listDoors 62 = .ok (.iload_n 2, 1) := by decide +kernel
theorem dX3_listDoors_63 : decode cX3_listDoors 63 = .ok (.ireturn, 1) := by decide +kernel
set_option maxRecDepth 20000 in
theorem ggX3_shuffle_X3_drawBelow : GoodIn wsX3_shuffle wsX3_drawBelow := goodIn_r _ [6, 7, 8, 19, 20, 21] (by decide +kernel) (by decide +kernel)
set_option maxRecDepth 20000 in
theorem gX3_shuffle_X3_drawBelow : GoodIn wsX3_shuffle (wsV RX3 76 RX3 yX3_drawBelow wsX3_drawBelow) := goodIn_app (goodIn_of _ (by decide +kernel)) ggX3_shuffle_X3_drawBelow
set_option maxRecDepth 20000 in
theorem ggX3_shuffle_X4_at : GoodIn wsX3_shuffle wsX4_at := goodIn_r _ [13, 14, 22] (by decide +kernel) (by decide +kernel)
set_option maxRecDepth 20000 in
theorem gX3_shuffle_X4_at : GoodIn wsX3_shuffle (wsV RX3 52 RX4 yX4_at wsX4_at) := goodIn_app (goodIn_of _ (by decide +kernel)) ggX3_shuffle_X4_at
set_option maxRecDepth 20000 in
theorem ggX3_shuffle_X4_put : GoodIn wsX3_shuffle wsX4_put := goodIn_r _ [18, 14, 22] (by decide +kernel) (by decide +kernel)
set_option maxRecDepth 20000 in
theorem gX3_shuffle_X4_put : GoodIn wsX3_shuffle (wsV RX3 48 RX4 yX4_put wsX4_put) := goodIn_app (goodIn_of _ (by decide +kernel)) ggX3_shuffle_X4_put
theorem dX3_shuffle_0 : decode cX3_shuffle 0 = .ok (.iload_n 1, 1) := by decide +kernel
theorem dX3_shuffle_1 : decode cX3_shuffle 1 = .ok (.iconst 1, 1) := by decide +kernel
theorem dX3_shuffle_2 : decode cX3_shuffle 2 = .ok (.isub, 1) := by decide +kernel
theorem dX3_shuffle_3 : decode cX3_shuffle 3 = .ok (.istore_n 2, 1) := by decide +kernel
theorem dX3_shuffle_4 : decode cX3_shuffle 4 = .ok (.iload_n 2, 1) := by decide +kernel
theorem dX3_shuffle_5 : decode cX3_shuffle 5 = .ok (.iconst 1, 1) := by decide +kernel
theorem dX3_shuffle_6 : decode cX3_shuffle 6 = .ok (.if_icmp .lt 53, 3) := by decide +kernel
theorem dX3_shuffle_9 : decode cX3_shuffle 9 = .ok (.aload_n 0, 1) := by decide +kernel
theorem dX3_shuffle_10 : decode cX3_shuffle 10 = .ok (.iload_n 2, 1) := by decide +kernel
theorem dX3_shuffle_11 : decode cX3_shuffle 11 = .ok (.iconst 1, 1) := by decide +kernel
theorem dX3_shuffle_12 : decode cX3_shuffle 12 = .ok (.iadd, 1) := by decide +kernel
theorem dX3_shuffle_13 : decode cX3_shuffle 13 = .ok (.invokevirtual 76, 3) := by decide +kernel
theorem dX3_shuffle_16 : decode cX3_shuffle 16 = .ok (.istore_n 3, 1) := by decide +kernel
theorem dX3_shuffle_17 : decode cX3_shuffle 17 = .ok (.aload_n 0, 1) := by decide +kernel
theorem dX3_shuffle_18 : decode cX3_shuffle 18 = .ok (.getfield 14, 3) := by decide +kernel
theorem dX3_shuffle_21 : decode cX3_shuffle 21 = .ok (.iload_n 2, 1) := by decide +kernel
theorem dX3_shuffle_22 : decode cX3_shuffle 22 = .ok (.invokevirtual 52, 3) := by decide +kernel
theorem dX3_shuffle_25 : decode cX3_shuffle 25 = .ok (.istore 4, 2) := by decide +kernel
theorem dX3_shuffle_27 : decode cX3_shuffle 27 = .ok (.aload_n 0, 1) := by decide +kernel
theorem dX3_shuffle_28 : decode cX3_shuffle 28 = .ok (.getfield 14, 3) := by decide +kernel
theorem dX3_shuffle_31 : decode cX3_shuffle 31 = .ok (.iload_n 2, 1) := by decide +kernel
theorem dX3_shuffle_32 : decode cX3_shuffle 32 = .ok (.aload_n 0, 1) := by decide +kernel
theorem dX3_shuffle_33 : decode cX3_shuffle 33 = .ok (.getfield 14, 3) := by decide +kernel
theorem dX3_shuffle_36 : decode cX3_shuffle 36 = .ok (.iload_n 3, 1) := by decide +kernel
theorem dX3_shuffle_37 : decode cX3_shuffle 37 = .ok (.invokevirtual 52, 3) := by decide +kernel
theorem dX3_shuffle_40 : decode cX3_shuffle 40 = .ok (.invokevirtual 48, 3) := by decide +kernel
theorem dX3_shuffle_43 : decode cX3_shuffle 43 = .ok (.aload_n 0, 1) := by decide +kernel
theorem dX3_shuffle_44 : decode cX3_shuffle 44 = .ok (.getfield 14, 3) := by decide +kernel
theorem dX3_shuffle_47 : decode cX3_shuffle 47 = .ok (.iload_n 3, 1) := by decide +kernel
theorem dX3_shuffle_48 : decode cX3_shuffle 48 = .ok (.iload 4, 2) := by decide +kernel
theorem dX3_shuffle_50 : decode cX3_shuffle 50 = .ok (.invokevirtual 48, 3) := by decide +kernel
theorem dX3_shuffle_53 : decode cX3_shuffle 53 = .ok (.iinc 2 (-1), 3) := by decide +kernel
theorem dX3_shuffle_56 : decode cX3_shuffle 56 = .ok (.goto (-52), 3) := by decide +kernel
theorem dX3_shuffle_59 : decode cX3_shuffle 59 = .ok (.return_, 1) := by decide +kernel
theorem dX3_drawBelow_0 : decode cX3_drawBelow 0 = .ok (.aload_n 0, 1) := by decide +kernel
theorem dX3_drawBelow_1 : decode cX3_drawBelow 1 = .ok (.bipush 75, 2) := by decide +kernel
theorem dX3_drawBelow_3 : decode cX3_drawBelow 3 = .ok (.aload_n 0, 1) := by decide +kernel
theorem dX3_drawBelow_4 : decode cX3_drawBelow 4 = .ok (.getfield 37, 3) := by decide +kernel
theorem dX3_drawBelow_7 : decode cX3_drawBelow 7 = .ok (.imul, 1) := by decide +kernel
theorem dX3_drawBelow_8 : decode cX3_drawBelow 8 = .ok (.bipush 74, 2) := by decide +kernel
theorem dX3_drawBelow_10 : decode cX3_drawBelow 10 = .ok (.iadd, 1) := by decide +kernel
theorem dX3_drawBelow_11 : decode cX3_drawBelow 11 = .ok (.ldc 79, 2) := by decide +kernel
theorem dX3_drawBelow_13 : decode cX3_drawBelow 13 = .ok (.irem, 1) := by decide +kernel
theorem dX3_drawBelow_14 : decode cX3_drawBelow 14 = .ok (.putfield 37, 3) := by decide +kernel
theorem dX3_drawBelow_17 : decode cX3_drawBelow 17 = .ok (.iload_n 1, 1) := by decide +kernel
theorem dX3_drawBelow_18 : decode cX3_drawBelow 18 = .ok (.ifCond .le 12, 3) := by decide +kernel
theorem dX3_drawBelow_21 : decode cX3_drawBelow 21 = .ok (.aload_n 0, 1) := by decide +kernel
theorem dX3_drawBelow_22 : decode cX3_drawBelow 22 = .ok (.getfield 37, 3) := by decide +kernel
theorem dX3_drawBelow_25 : decode cX3_drawBelow 25 = .ok (.iload_n 1, 1) := by decide +kernel
theorem dX3_drawBelow_26 : decode cX3_drawBelow 26 = .ok (.irem, 1) := by decide +kernel
theorem dX3_drawBelow_27 : decode cX3_drawBelow 27 = .ok (.goto 4, 3) := by decide +kernel
theorem dX3_drawBelow_30 : decode cX3_drawBelow 30 = .ok (.iconst 0, 1) := by decide +kernel
theorem dX3_drawBelow_31 : decode cX3_drawBelow 31 = .ok (.ireturn, 1) := by decide +kernel
set_option maxRecDepth 20000 in
theorem ggX3_join_X4_at : GoodIn wsX3_join wsX4_at := goodIn_r _ [6, 7, 15] (by decide +kernel) (by decide +kernel)
set_option maxRecDepth 20000 in
theorem gX3_join_X4_at : GoodIn wsX3_join (wsV RX3 52 RX4 yX4_at wsX4_at) := goodIn_app (goodIn_of _ (by decide +kernel)) ggX3_join_X4_at
set_option maxRecDepth 20000 in
theorem ggX3_join_X4_put : GoodIn wsX3_join wsX4_put := goodIn_r _ [11, 7, 15] (by decide +kernel) (by decide +kernel)
set_option maxRecDepth 20000 in
theorem gX3_join_X4_put : GoodIn wsX3_join (wsV RX3 48 RX4 yX4_put wsX4_put) := goodIn_app (goodIn_of _ (by decide +kernel)) ggX3_join_X4_put
theorem dX3_join_0 : decode cX3_join 0 = .ok (.aload_n 0, 1) := by decide +kernel
theorem dX3_join_1 : decode cX3_join 1 = .ok (.getfield 20, 3) := by decide +kernel
theorem dX3_join_4 : decode cX3_join 4 = .ok (.iload_n 1, 1) := by decide +kernel
theorem dX3_join_5 : decode cX3_join 5 = .ok (.invokevirtual 52, 3) := by decide +kernel
theorem dX3_join_8 : decode cX3_join 8 = .ok (.istore_n 3, 1) := by decide +kernel
theorem dX3_join_9 : decode cX3_join 9 = .ok (.aload_n 0, 1) := by decide +kernel
theorem dX3_join_10 : decode cX3_join 10 = .ok (.getfield 20, 3) := by decide +kernel
theorem dX3_join_13 : decode cX3_join 13 = .ok (.iload_n 2, 1) := by decide +kernel
theorem dX3_join_14 : decode cX3_join 14 = .ok (.invokevirtual 52, 3) := by decide +kernel
theorem dX3_join_17 : decode cX3_join 17 = .ok (.istore 4, 2) := by decide +kernel
theorem dX3_join_19 : decode cX3_join 19 = .ok (.iload_n 3, 1) := by decide +kernel
theorem dX3_join_20 : decode cX3_join 20 = .ok (.iload 4, 2) := by decide +kernel
theorem dX3_join_22 : decode cX3_join 22 = .ok (.if_icmp .ne 5, 3) := by decide +kernel
theorem dX3_join_25 : decode cX3_join 25 = .ok (.iconst 0, 1) := by decide +kernel
theorem dX3_join_26 : decode cX3_join 26 = .ok (.ireturn, 1) := by decide +kernel
theorem dX3_join_27 : decode cX3_join 27 = .ok (.iconst 0, 1) := by decide +kernel
theorem dX3_join_28 : decode cX3_join 28 = .ok (.istore 5, 2) := by decide +kernel
theorem dX3_join_30 : decode cX3_join 30 = .ok (.iload 5, 2) := by decide +kernel
theorem dX3_join_32 : decode cX3_join 32 = .ok (.sipush 210, 3) := by decide +kernel
theorem dX3_join_35 : decode cX3_join 35 = .ok (.if_icmp .ge 33, 3) := by decide +kernel
theorem dX3_join_38 : decode cX3_join 38 = .ok (.aload_n 0, 1) := by decide +kernel
theorem dX3_join_39 : decode cX3_join 39 = .ok (.getfield 20, 3) := by decide +kernel
theorem dX3_join_42 : decode cX3_join 42 = .ok (.iload 5, 2) := by decide +kernel
theorem dX3_join_44 : decode cX3_join 44 = .ok (.invokevirtual 52, 3) := by decide +kernel
theorem dX3_join_47 : decode cX3_join 47 = .ok (.iload 4, 2) := by decide +kernel
theorem dX3_join_49 : decode cX3_join 49 = .ok (.if_icmp .ne 13, 3) := by decide +kernel
theorem dX3_join_52 : decode cX3_join 52 = .ok (.aload_n 0, 1) := by decide +kernel
theorem dX3_join_53 : decode cX3_join 53 = .ok (.getfield 20, 3) := by decide +kernel
theorem dX3_join_56 : decode cX3_join 56 = .ok (.iload 5, 2) := by decide +kernel
theorem dX3_join_58 : decode cX3_join 58 = .ok (.iload_n 3, 1) := by decide +kernel
theorem dX3_join_59 : decode cX3_join 59 = .ok (.invokevirtual 48, 3) := by decide +kernel
theorem dX3_join_62 : decode cX3_join 62 = .ok (.iinc 5 1, 3) := by decide +kernel
theorem dX3_join_65 : decode cX3_join 65 = .ok (.goto (-35), 3) := by decide +kernel
theorem dX3_join_68 : decode cX3_join 68 = .ok (.iconst 1, 1) := by decide +kernel
theorem dX3_join_69 : decode cX3_join 69 = .ok (.ireturn, 1) := by decide +kernel
theorem dX4_init_0 : decode cX4_init 0 = .ok (.aload_n 0, 1) := by decide +kernel
theorem dX4_init_1 : decode cX4_init 1 = .ok (.invokespecial 1, 3) := by decide +kernel
theorem dX4_init_4 : decode cX4_init 4 = .ok (.aload_n 0, 1) := by decide +kernel
theorem dX4_init_5 : decode cX4_init 5 = .ok (.iload_n 1, 1) := by decide +kernel
theorem dX4_init_6 : decode cX4_init 6 = .ok (.iconst 0, 1) := by decide +kernel
theorem dX4_init_7 : decode cX4_init 7 = .ok (.invokestatic 7, 3) := by decide +kernel
theorem dX4_init_10 : decode cX4_init 10 = .ok (.newarray .int, 2) := by decide +kernel
theorem dX4_init_12 : decode cX4_init 12 = .ok (.putfield 13, 3) := by decide +kernel
theorem dX4_init_15 : decode cX4_init 15 = .ok (.return_, 1) := by decide +kernel
theorem dX4_at_0 : decode cX4_at 0 = .ok (.iload_n 1, 1) := by decide +kernel
theorem dX4_at_1 : decode cX4_at 1 = .ok (.ifCond .lt 21, 3) := by decide +kernel
theorem dX4_at_4 : decode cX4_at 4 = .ok (.iload_n 1, 1) := by decide +kernel
theorem dX4_at_5 : decode cX4_at 5 = .ok (.aload_n 0, 1) := by decide +kernel
theorem dX4_at_6 : decode cX4_at 6 = .ok (.getfield 13, 3) := by decide +kernel
theorem dX4_at_9 : decode cX4_at 9 = .ok (.arraylength, 1) := by decide +kernel
theorem dX4_at_10 : decode cX4_at 10 = .ok (.if_icmp .ge 12, 3) := by decide +kernel
theorem dX4_at_13 : decode cX4_at 13 = .ok (.aload_n 0, 1) := by decide +kernel
theorem dX4_at_14 : decode cX4_at 14 = .ok (.getfield 13, 3) := by decide +kernel
theorem dX4_at_17 : decode cX4_at 17 = .ok (.iload_n 1, 1) := by decide +kernel
theorem dX4_at_18 : decode cX4_at 18 = .ok (.iaload, 1) := by decide +kernel
theorem dX4_at_19 : decode cX4_at 19 = .ok (.goto 4, 3) := by decide +kernel
theorem dX4_at_22 : decode cX4_at 22 = .ok (.iconst 0, 1) := by decide +kernel
theorem dX4_at_23 : decode cX4_at 23 = .ok (.ireturn, 1) := by decide +kernel
theorem dX4_put_0 : decode cX4_put 0 = .ok (.iload_n 1, 1) := by decide +kernel
theorem dX4_put_1 : decode cX4_put 1 = .ok (.ifCond .lt 19, 3) := by decide +kernel
theorem dX4_put_4 : decode cX4_put 4 = .ok (.iload_n 1, 1) := by decide +kernel
theorem dX4_put_5 : decode cX4_put 5 = .ok (.aload_n 0, 1) := by decide +kernel
theorem dX4_put_6 : decode cX4_put 6 = .ok (.getfield 13, 3) := by decide +kernel
theorem dX4_put_9 : decode cX4_put 9 = .ok (.arraylength, 1) := by decide +kernel
theorem dX4_put_10 : decode cX4_put 10 = .ok (.if_icmp .ge 10, 3) := by decide +kernel
theorem dX4_put_13 : decode cX4_put 13 = .ok (.aload_n 0, 1) := by decide +kernel
theorem dX4_put_14 : decode cX4_put 14 = .ok (.getfield 13, 3) := by decide +kernel
theorem dX4_put_17 : decode cX4_put 17 = .ok (.iload_n 1, 1) := by decide +kernel
theorem dX4_put_18 : decode cX4_put 18 = .ok (.iload_n 2, 1) := by decide +kernel
theorem dX4_put_19 : decode cX4_put 19 = .ok (.iastore, 1) := by decide +kernel
theorem dX4_put_20 : decode cX4_put 20 = .ok (.return_, 1) := by decide +kernel
set_option maxRecDepth 20000 in
theorem ggX4_fill_J7_fill_53178 : GoodIn wsX4_fill wsJ7_fill_53178 := goodIn_r _ [5] (by decide +kernel) (by decide +kernel)
set_option maxRecDepth 20000 in
theorem gX4_fill_J7_fill_53178 : GoodIn wsX4_fill (va_wsS RX4 19 yJ7_fill_53178 wsJ7_fill_53178) := goodIn_app (goodIn_of _ (by decide +kernel)) ggX4_fill_J7_fill_53178
theorem dX4_fill_0 : decode cX4_fill 0 = .ok (.aload_n 0, 1) := by decide +kernel
theorem dX4_fill_1 : decode cX4_fill 1 = .ok (.getfield 13, 3) := by decide +kernel
theorem dX4_fill_4 : decode cX4_fill 4 = .ok (.iload_n 1, 1) := by decide +kernel
theorem dX4_fill_5 : decode cX4_fill 5 = .ok (.invokestatic 19, 3) := by decide +kernel
theorem dX4_fill_8 : decode cX4_fill 8 = .ok (.return_, 1) := by decide +kernel
theorem dX4_take_0 : decode cX4_take 0 = .ok (.aload_n 1, 1) := by decide +kernel
theorem dX4_take_1 : decode cX4_take 1 = .ok (.getfield 13, 3) := by decide +kernel
theorem dX4_take_4 : decode cX4_take 4 = .ok (.iconst 0, 1) := by decide +kernel
theorem dX4_take_5 : decode cX4_take 5 = .ok (.aload_n 0, 1) := by decide +kernel
theorem dX4_take_6 : decode cX4_take 6 = .ok (.getfield 13, 3) := by decide +kernel
theorem dX4_take_9 : decode cX4_take 9 = .ok (.iconst 0, 1) := by decide +kernel
theorem dX4_take_10 : decode cX4_take 10 = .ok (.aload_n 1, 1) := by decide +kernel
theorem dX4_take_11 : decode cX4_take 11 = .ok (.getfield 13, 3) := by decide +kernel
theorem dX4_take_14 : decode cX4_take 14 = .ok (.arraylength, 1) := by decide +kernel
theorem dX4_take_15 : decode cX4_take 15 = .ok (.aload_n 0, 1) := by decide +kernel
theorem dX4_take_16 : decode cX4_take 16 = .ok (.getfield 13, 3) := by decide +kernel
theorem dX4_take_19 : decode cX4_take 19 = .ok (.arraylength, 1) := by decide +kernel
theorem dX4_take_20 : decode cX4_take 20 = .ok (.invokestatic 25, 3) := by decide +kernel
theorem dX4_take_23 : decode cX4_take 23 = .ok (.invokestatic 28, 3) := by decide +kernel
theorem dX4_take_26 : decode cX4_take 26 = .ok (.return_, 1) := by decide +kernel
set_option maxRecDepth 20000 in
theorem ggX5_init_X4_init : GoodIn wsX5_init wsX4_init := goodIn_r _ [10, 11, 2, 3, 12, 13, 14, 15, 16, 17, 18] (by decide +kernel) (by decide +kernel)
set_option maxRecDepth 20000 in
theorem gX5_init_X4_init : GoodIn wsX5_init (wsX4_init) := ggX5_init_X4_init
theorem dX5_init_0 : decode cX5_init 0 = .ok (.aload_n 0, 1) := by decide +kernel
theorem dX5_init_1 : decode cX5_init 1 = .ok (.invokespecial 3, 3) := by decide +kernel
theorem dX5_init_4 : decode cX5_init 4 = .ok (.aload_n 0, 1) := by decide +kernel
theorem dX5_init_5 : decode cX5_init 5 = .ok (.new 9, 3) := by decide +kernel
theorem dX5_init_8 : decode cX5_init 8 = .ok (.dup, 1) := by decide +kernel
theorem dX5_init_9 : decode cX5_init 9 = .ok (.sipush 210, 3) := by decide +kernel
theorem dX5_init_12 : decode cX5_init 12 = .ok (.invokespecial 11, 3) := by decide +kernel
theorem dX5_init_15 : decode cX5_init 15 = .ok (.putfield 14, 3) := by decide +kernel
theorem dX5_init_18 : decode cX5_init 18 = .ok (.return_, 1) := by decide +kernel
set_option maxRecDepth 20000 in
theorem ggX5_build_X4_fill : GoodIn wsX5_build wsX4_fill := goodIn_r _ [10, 11, 12, 13, 14, 15, 160] (by decide +kernel) (by decide +kernel)
set_option maxRecDepth 20000 in
theorem gX5_build_X4_fill : GoodIn wsX5_build (wsV RX5 32 RX4 yX4_fill wsX4_fill) := goodIn_app (goodIn_of _ (by decide +kernel)) ggX5_build_X4_fill
set_option maxRecDepth 20000 in
theorem ggX5_build_X4_at : GoodIn wsX5_build wsX4_at := goodIn_r _ [19, 11, 160] (by decide +kernel) (by decide +kernel)
set_option maxRecDepth 20000 in
theorem gX5_build_X4_at : GoodIn wsX5_build (wsV RX5 38 RX4 yX4_at wsX4_at) := goodIn_app (goodIn_of _ (by decide +kernel)) ggX5_build_X4_at
set_option maxRecDepth 20000 in
theorem ggX5_build_X5_layLetter : GoodIn wsX5_build wsX5_layLetter := goodIn_r _ [24, 4, 2, 25, 26, 23, 27, 28, 29, 30, 31, 32, 33, 34, 35, 36, 37, 38, 39, 40, 41, 42, 43, 44, 45, 46, 47, 48, 49, 50, 51, 52, 53, 54, 55, 56, 57, 58, 59, 60, 61, 62, 63, 64, 65, 66, 67, 68, 69, 70, 71, 72, 73, 74, 75, 76, 77, 78, 79, 80, 81, 82, 83, 84, 85, 86, 87, 88, 89, 90, 91, 92, 93, 94, 95, 96, 97, 98, 99, 100, 101, 102, 103, 104, 105, 106, 107, 108, 109, 110, 111, 112, 113, 114, 115, 116, 117, 118, 119, 9, 120, 11, 154, 155, 156, 157, 158, 159, 160] (by decide +kernel) (by decide +kernel)
set_option maxRecDepth 20000 in
theorem gX5_build_X5_layLetter : GoodIn wsX5_build (wsV RX5 42 RX5 yX5_layLetter wsX5_layLetter) := goodIn_app (goodIn_of _ (by decide +kernel)) ggX5_build_X5_layLetter
set_option maxRecDepth 20000 in
theorem ggX5_build_X5_baseCell : GoodIn wsX5_build wsX5_baseCell := goodIn_r _ [124, 2, 154, 155, 156, 157, 158, 159] (by decide +kernel) (by decide +kernel)
set_option maxRecDepth 20000 in
theorem gX5_build_X5_baseCell : GoodIn wsX5_build (wsV RX5 46 RX5 yX5_baseCell wsX5_baseCell) := goodIn_app (goodIn_of _ (by decide +kernel)) ggX5_build_X5_baseCell
set_option maxRecDepth 20000 in
theorem ggX5_build_X4_put : GoodIn wsX5_build wsX4_put := goodIn_r _ [120, 11, 160] (by decide +kernel) (by decide +kernel)
set_option maxRecDepth 20000 in
theorem gX5_build_X4_put : GoodIn wsX5_build (wsV RX5 50 RX4 yX4_put wsX4_put) := goodIn_app (goodIn_of _ (by decide +kernel)) ggX5_build_X4_put
set_option maxRecDepth 20000 in
theorem ggX5_build_X5_countRoomsAndDoors : GoodIn wsX5_build wsX5_countRoomsAndDoors := goodIn_r _ [128, 129, 130, 131, 132, 133, 134, 23, 135, 4, 16, 17, 18, 9, 19, 11, 136, 137, 138, 139, 140, 141, 142, 143, 2, 144, 145, 146, 147, 154, 155, 156, 157, 158, 159, 160] (by decide +kernel) (by decide +kernel)
set_option maxRecDepth 20000 in
theorem gX5_build_X5_countRoomsAndDoors : GoodIn wsX5_build (wsV RX5 53 RX5 yX5_countRoomsAndDoors wsX5_countRoomsAndDoors) := goodIn_app (goodIn_of _ (by decide +kernel)) ggX5_build_X5_countRoomsAndDoors
theorem dX5_build_0 : decode cX5_build 0 = .ok (.aload_n 0, 1) := by decide +kernel
theorem dX5_build_1 : decode cX5_build 1 = .ok (.bipush 6, 2) := by decide +kernel
theorem dX5_build_3 : decode cX5_build 3 = .ok (.aload_n 1, 1) := by decide +kernel
theorem dX5_build_4 : decode cX5_build 4 = .ok (.getfield 20, 3) := by decide +kernel
theorem dX5_build_7 : decode cX5_build 7 = .ok (.imul, 1) := by decide +kernel
theorem dX5_build_8 : decode cX5_build 8 = .ok (.iconst 1, 1) := by decide +kernel
theorem dX5_build_9 : decode cX5_build 9 = .ok (.isub, 1) := by decide +kernel
theorem dX5_build_10 : decode cX5_build 10 = .ok (.putfield 26, 3) := by decide +kernel
theorem dX5_build_13 : decode cX5_build 13 = .ok (.aload_n 0, 1) := by decide +kernel
theorem dX5_build_14 : decode cX5_build 14 = .ok (.bipush 6, 2) := by decide +kernel
theorem dX5_build_16 : decode cX5_build 16 = .ok (.aload_n 0, 1) := by decide +kernel
theorem dX5_build_17 : decode cX5_build 17 = .ok (.getfield 26, 3) := by decide +kernel
theorem dX5_build_20 : decode cX5_build 20 = .ok (.imul, 1) := by decide +kernel
theorem dX5_build_21 : decode cX5_build 21 = .ok (.putfield 29, 3) := by decide +kernel
theorem dX5_build_24 : decode cX5_build 24 = .ok (.aload_n 0, 1) := by decide +kernel
theorem dX5_build_25 : decode cX5_build 25 = .ok (.getfield 14, 3) := by decide +kernel
theorem dX5_build_28 : decode cX5_build 28 = .ok (.iconst 0, 1) := by decide +kernel
theorem dX5_build_29 : decode cX5_build 29 = .ok (.invokevirtual 32, 3) := by decide +kernel
theorem dX5_build_32 : decode cX5_build 32 = .ok (.iconst 0, 1) := by decide +kernel
theorem dX5_build_33 : decode cX5_build 33 = .ok (.istore_n 2, 1) := by decide +kernel
theorem dX5_build_34 : decode cX5_build 34 = .ok (.iload_n 2, 1) := by decide +kernel
theorem dX5_build_35 : decode cX5_build 35 = .ok (.aload_n 1, 1) := by decide +kernel
theorem dX5_build_36 : decode cX5_build 36 = .ok (.getfield 20, 3) := by decide +kernel
theorem dX5_build_39 : decode cX5_build 39 = .ok (.if_icmp .ge 28, 3) := by decide +kernel
theorem dX5_build_42 : decode cX5_build 42 = .ok (.iload_n 2, 1) := by decide +kernel
theorem dX5_build_43 : decode cX5_build 43 = .ok (.bipush 6, 2) := by decide +kernel
theorem dX5_build_45 : decode cX5_build 45 = .ok (.if_icmp .ge 22, 3) := by decide +kernel
theorem dX5_build_48 : decode cX5_build 48 = .ok (.aload_n 0, 1) := by decide +kernel
theorem dX5_build_49 : decode cX5_build 49 = .ok (.iload_n 2, 1) := by decide +kernel
theorem dX5_build_50 : decode cX5_build 50 = .ok (.aload_n 1, 1) := by decide +kernel
theorem dX5_build_51 : decode cX5_build 51 = .ok (.getfield 35, 3) := by decide +kernel
theorem dX5_build_54 : decode cX5_build 54 = .ok (.iload_n 2, 1) := by decide +kernel
theorem dX5_build_55 : decode cX5_build 55 = .ok (.invokevirtual 38, 3) := by decide +kernel
theorem dX5_build_58 : decode cX5_build 58 = .ok (.invokevirtual 42, 3) := by decide +kernel
theorem dX5_build_61 : decode cX5_build 61 = .ok (.iinc 2 1, 3) := by decide +kernel
theorem dX5_build_64 : decode cX5_build 64 = .ok (.goto (-30), 3) := by decide +kernel
theorem dX5_build_67 : decode cX5_build 67 = .ok (.iconst 0, 1) := by decide +kernel
theorem dX5_build_68 : decode cX5_build 68 = .ok (.istore_n 2, 1) := by decide +kernel
theorem dX5_build_69 : decode cX5_build 69 = .ok (.iload_n 2, 1) := by decide +kernel
theorem dX5_build_70 : decode cX5_build 70 = .ok (.aload_n 0, 1) := by decide +kernel
theorem dX5_build_71 : decode cX5_build 71 = .ok (.getfield 26, 3) := by decide +kernel
theorem dX5_build_74 : decode cX5_build 74 = .ok (.if_icmp .ge 29, 3) := by decide +kernel
theorem dX5_build_77 : decode cX5_build 77 = .ok (.iload_n 2, 1) := by decide +kernel
theorem dX5_build_78 : decode cX5_build 78 = .ok (.bipush 35, 2) := by decide +kernel
theorem dX5_build_80 : decode cX5_build 80 = .ok (.if_icmp .ge 23, 3) := by decide +kernel
theorem dX5_build_83 : decode cX5_build 83 = .ok (.aload_n 0, 1) := by decide +kernel
theorem dX5_build_84 : decode cX5_build 84 = .ok (.getfield 14, 3) := by decide +kernel
theorem dX5_build_87 : decode cX5_build 87 = .ok (.aload_n 0, 1) := by decide +kernel
theorem dX5_build_88 : decode cX5_build 88 = .ok (.invokevirtual 46, 3) := by decide +kernel
theorem dX5_build_91 : decode cX5_build 91 = .ok (.iload_n 2, 1) := by decide +kernel
theorem dX5_build_92 : decode cX5_build 92 = .ok (.iadd, 1) := by decide +kernel
theorem dX5_build_93 : decode cX5_build 93 = .ok (.iconst 1, 1) := by decide +kernel
theorem dX5_build_94 : decode cX5_build 94 = .ok (.invokevirtual 50, 3) := by decide +kernel
theorem dX5_build_97 : decode cX5_build 97 = .ok (.iinc 2 1, 3) := by decide +kernel
theorem dX5_build_100 : decode cX5_build 100 = .ok (.goto (-31), 3) := by decide +kernel
theorem dX5_build_103 : decode cX5_build 103 = .ok (.aload_n 0, 1) := by decide +kernel
theorem dX5_build_104 : decode cX5_build 104 = .ok (.invokevirtual 53, 3) := by decide +kernel
theorem dX5_build_107 : decode cX5_build 107 = .ok (.return_, 1) := by decide +kernel
set_option maxRecDepth 20000 in
theorem ggX5_layLetter_X5_patternRow : GoodIn wsX5_layLetter wsX5_patternRow := goodIn_r _ [6, 7, 8, 9, 10, 11, 12, 13, 14, 15, 16, 17, 18, 19, 20, 21, 22, 23, 24, 25, 26, 27, 28, 29, 30, 31, 32, 33, 34, 35, 36, 37, 38, 39, 40, 41, 42, 43, 44, 45, 46, 47, 48, 49, 50, 51, 52, 53, 54, 55, 56, 57, 58, 59, 60, 61, 62, 63, 64, 65, 66, 67, 68, 69, 70, 71, 72, 73, 74, 75, 76, 77, 78, 79, 80, 81, 82, 83, 84, 85, 86, 87, 88, 89, 90, 91, 92, 93, 94, 95] (by decide +kernel) (by decide +kernel)
set_option maxRecDepth 20000 in
theorem gX5_layLetter_X5_patternRow : GoodIn wsX5_layLetter (va_wsS RX5 56 yX5_patternRow wsX5_patternRow) := goodIn_app (goodIn_of _ (by decide +kernel)) ggX5_layLetter_X5_patternRow
set_option maxRecDepth 20000 in
theorem ggX5_layLetter_X4_put : GoodIn wsX5_layLetter wsX4_put := goodIn_r _ [100, 101, 108] (by decide +kernel) (by decide +kernel)
set_option maxRecDepth 20000 in
theorem gX5_layLetter_X4_put : GoodIn wsX5_layLetter (wsV RX5 50 RX4 yX4_put wsX4_put) := goodIn_app (goodIn_of _ (by decide +kernel)) ggX5_layLetter_X4_put
theorem dX5_layLetter_0 : decode cX5_layLetter 0 = .ok (.iconst 0, 1) := by decide +kernel
theorem dX5_layLetter_1 : decode cX5_layLetter 1 = .ok (.istore_n 3, 1) := by decide +kernel
theorem dX5_layLetter_2 : decode cX5_layLetter 2 = .ok (.iload_n 3, 1) := by decide +kernel
theorem dX5_layLetter_3 : decode cX5_layLetter 3 = .ok (.iconst 5, 1) := by decide +kernel
theorem dX5_layLetter_4 : decode cX5_layLetter 4 = .ok (.if_icmp .ge 68, 3) := by decide +kernel
theorem dX5_layLetter_7 : decode cX5_layLetter 7 = .ok (.iload_n 2, 1) := by decide +kernel
theorem dX5_layLetter_8 : decode cX5_layLetter 8 = .ok (.iload_n 3, 1) := by decide +kernel
theorem dX5_layLetter_9 : decode cX5_layLetter 9 = .ok (.invokestatic 56, 3) := by decide +kernel
theorem dX5_layLetter_12 : decode cX5_layLetter 12 = .ok (.istore 4, 2) := by decide +kernel
theorem dX5_layLetter_14 : decode cX5_layLetter 14 = .ok (.iconst 0, 1) := by decide +kernel
theorem dX5_layLetter_15 : decode cX5_layLetter 15 = .ok (.istore 5, 2) := by decide +kernel
theorem dX5_layLetter_17 : decode cX5_layLetter 17 = .ok (.iload 5, 2) := by decide +kernel
theorem dX5_layLetter_19 : decode cX5_layLetter 19 = .ok (.iconst 5, 1) := by decide +kernel
theorem dX5_layLetter_20 : decode cX5_layLetter 20 = .ok (.if_icmp .ge 46, 3) := by decide +kernel
theorem dX5_layLetter_23 : decode cX5_layLetter 23 = .ok (.iload 4, 2) := by decide +kernel
theorem dX5_layLetter_25 : decode cX5_layLetter 25 = .ok (.iconst 4, 1) := by decide +kernel
theorem dX5_layLetter_26 : decode cX5_layLetter 26 = .ok (.iload 5, 2) := by decide +kernel
theorem dX5_layLetter_28 : decode cX5_layLetter 28 = .ok (.isub, 1) := by decide +kernel
theorem dX5_layLetter_29 : decode cX5_layLetter 29 = .ok (.ishr, 1) := by decide +kernel
theorem dX5_layLetter_30 : decode cX5_layLetter 30 = .ok (.iconst 1, 1) := by decide +kernel
theorem dX5_layLetter_31 : decode cX5_layLetter 31 = .ok (.iand, 1) := by decide +kernel
theorem dX5_layLetter_32 : decode cX5_layLetter 32 = .ok (.iconst 1, 1) := by decide +kernel
theorem dX5_layLetter_33 : decode cX5_layLetter 33 = .ok (.if_icmp .ne 27, 3) := by decide +kernel
theorem dX5_layLetter_36 : decode cX5_layLetter 36 = .ok (.aload_n 0, 1) := by decide +kernel
theorem dX5_layLetter_37 : decode cX5_layLetter 37 = .ok (.getfield 14, 3) := by decide +kernel
theorem dX5_layLetter_40 : decode cX5_layLetter 40 = .ok (.iload_n 3, 1) := by decide +kernel
theorem dX5_layLetter_41 : decode cX5_layLetter 41 = .ok (.aload_n 0, 1) := by decide +kernel
theorem dX5_layLetter_42 : decode cX5_layLetter 42 = .ok (.getfield 26, 3) := by decide +kernel
theorem dX5_layLetter_45 : decode cX5_layLetter 45 = .ok (.imul, 1) := by decide +kernel
theorem dX5_layLetter_46 : decode cX5_layLetter 46 = .ok (.bipush 6, 2) := by decide +kernel
theorem dX5_layLetter_48 : decode cX5_layLetter 48 = .ok (.iload_n 1, 1) := by decide +kernel
theorem dX5_layLetter_49 : decode cX5_layLetter 49 = .ok (.imul, 1) := by decide +kernel
theorem dX5_layLetter_50 : decode cX5_layLetter 50 = .ok (.iadd, 1) := by decide +kernel
theorem dX5_layLetter_51 : decode cX5_layLetter 51 = .ok (.iload 5, 2) := by decide +kernel
theorem dX5_layLetter_53 : decode cX5_layLetter 53 = .ok (.iadd, 1) := by decide +kernel
theorem dX5_layLetter_54 : decode cX5_layLetter 54 = .ok (.iconst 2, 1) := by decide +kernel
theorem dX5_layLetter_55 : decode cX5_layLetter 55 = .ok (.iload_n 1, 1) := by decide +kernel
theorem dX5_layLetter_56 : decode cX5_layLetter 56 = .ok (.iadd, 1) := by decide +kernel
theorem dX5_layLetter_57 : decode cX5_layLetter 57 = .ok (.invokevirtual 50, 3) := by decide +kernel
theorem dX5_layLetter_60 : decode cX5_layLetter 60 = .ok (.iinc 5 1, 3) := by decide +kernel
theorem dX5_layLetter_63 : decode cX5_layLetter 63 = .ok (.goto (-46), 3) := by decide +kernel
theorem dX5_layLetter_66 : decode cX5_layLetter 66 = .ok (.iinc 3 1, 3) := by decide +kernel
theorem dX5_layLetter_69 : decode cX5_layLetter 69 = .ok (.goto (-67), 3) := by decide +kernel
theorem dX5_layLetter_72 : decode cX5_layLetter 72 = .ok (.return_, 1) := by decide +kernel
set_option maxRecDepth 20000 in
theorem ggX5_patternRow_J0_indexOf_0f7a4 : GoodIn wsX5_patternRow wsJ0_indexOf_0f7a4 := goodIn_r _ [5, 6, 7, 8, 4, 9, 10, 11, 12, 13, 14, 15, 16, 17, 18, 19, 20, 21, 22, 23, 24, 25, 26, 27, 28, 29, 30, 31, 32, 33, 34, 35, 36, 37, 38, 39, 40, 41, 42, 43, 44, 45, 46, 47, 48, 49, 50, 51, 52, 53, 54, 55, 56, 57, 58, 59, 60, 61, 62, 63, 64, 65, 66, 67, 68, 69, 70, 71, 72, 73, 74, 75, 76, 77, 78, 79, 80, 81, 82, 83, 84, 85, 86, 87, 88, 89] (by decide +kernel) (by decide +kernel)
set_option maxRecDepth 20000 in
theorem gX5_patternRow_J0_indexOf_0f7a4 : GoodIn wsX5_patternRow (wsV RX5 62 RJ0 yJ0_indexOf_0f7a4 wsJ0_indexOf_0f7a4) := goodIn_app (goodIn_of _ (by decide +kernel)) ggX5_patternRow_J0_indexOf_0f7a4
theorem dX5_patternRow_0 : decode cX5_patternRow 0 = .ok (.ldc 60, 2) := by decide +kernel
theorem dX5_patternRow_2 : decode cX5_patternRow 2 = .ok (.iload_n 0, 1) := by decide +kernel
theorem dX5_patternRow_3 : decode cX5_patternRow 3 = .ok (.i2c, 1) := by decide +kernel
theorem dX5_patternRow_4 : decode cX5_patternRow 4 = .ok (.invokevirtual 62, 3) := by decide +kernel
theorem dX5_patternRow_7 : decode cX5_patternRow 7 = .ok (.iconst 5, 1) := by decide +kernel
theorem dX5_patternRow_8 : decode cX5_patternRow 8 = .ok (.imul, 1) := by decide +kernel
theorem dX5_patternRow_9 : decode cX5_patternRow 9 = .ok (.iload_n 1, 1) := by decide +kernel
theorem dX5_patternRow_10 : decode cX5_patternRow 10 = .ok (.iadd, 1) := by decide +kernel
theorem dX5_patternRow_11 : decode cX5_patternRow 11 = .ok (.istore_n 2, 1) := by decide +kernel
theorem dX5_patternRow_12 : decode cX5_patternRow 12 = .ok (.iload_n 2, 1) := by decide +kernel
theorem dX5_patternRow_13 : decode cX5_patternRow 13 = .ok (.ifCond .lt 19, 3) := by decide +kernel
theorem dX5_patternRow_16 : decode cX5_patternRow 16 = .ok (.iload_n 2, 1) := by decide +kernel
theorem dX5_patternRow_17 : decode cX5_patternRow 17 = .ok (.getstatic 67, 3) := by decide +kernel
theorem dX5_patternRow_20 : decode cX5_patternRow 20 = .ok (.arraylength, 1) := by decide +kernel
theorem dX5_patternRow_21 : decode cX5_patternRow 21 = .ok (.if_icmp .ge 11, 3) := by decide +kernel
theorem dX5_patternRow_24 : decode cX5_patternRow 24 = .ok (.getstatic 67, 3) := by decide +kernel
theorem dX5_patternRow_27 : decode cX5_patternRow 27 = .ok (.iload_n 2, 1) := by decide +kernel
theorem dX5_patternRow_28 : decode cX5_patternRow 28 = .ok (.iaload, 1) := by decide +kernel
theorem dX5_patternRow_29 : decode cX5_patternRow 29 = .ok (.goto 4, 3) := by decide +kernel
theorem dX5_patternRow_32 : decode cX5_patternRow 32 = .ok (.iconst 0, 1) := by decide +kernel
theorem dX5_patternRow_33 : decode cX5_patternRow 33 = .ok (.ireturn, 1) := by decide +kernel
set_option maxRecDepth 20000 in
theorem ggX5_countRoomsAndDoors_X5_holds : GoodIn wsX5_countRoomsAndDoors wsX5_holds := goodIn_r _ [8, 9, 10, 11, 12, 13, 14, 15, 29, 30, 31, 32, 33, 34, 35] (by decide +kernel) (by decide +kernel)
set_option maxRecDepth 20000 in
theorem gX5_countRoomsAndDoors_X5_holds : GoodIn wsX5_countRoomsAndDoors (wsV RX5 80 RX5 yX5_holds wsX5_holds) := goodIn_app (goodIn_of _ (by decide +kernel)) ggX5_countRoomsAndDoors_X5_holds
set_option maxRecDepth 20000 in
theorem ggX5_countRoomsAndDoors_X5_hasDoor : GoodIn wsX5_countRoomsAndDoors wsX5_hasDoor := goodIn_r _ [19, 4, 5, 6, 7, 8, 9, 10, 11, 12, 13, 14, 15, 20, 21, 22, 23, 24, 25, 26, 27, 28, 29, 30, 31, 32, 33, 34, 35] (by decide +kernel) (by decide +kernel)
set_option maxRecDepth 20000 in
theorem gX5_countRoomsAndDoors_X5_hasDoor : GoodIn wsX5_countRoomsAndDoors (wsV RX5 84 RX5 yX5_hasDoor wsX5_hasDoor) := goodIn_app (goodIn_of _ (by decide +kernel)) ggX5_countRoomsAndDoors_X5_hasDoor
theorem dX5_countRoomsAndDoors_0 : decode cX5_countRoomsAndDoors 0 = .ok (.aload_n 0, 1) := by decide +kernel
theorem dX5_countRoomsAndDoors_1 : decode cX5_countRoomsAndDoors 1 = .ok (.iconst 0, 1) := by decide +kernel
theorem dX5_countRoomsAndDoors_2 : decode cX5_countRoomsAndDoors 2 = .ok (.putfield 71, 3) := by decide +kernel
theorem dX5_countRoomsAndDoors_5 : decode cX5_countRoomsAndDoors 5 = .ok (.aload_n 0, 1) := by decide +kernel
theorem dX5_countRoomsAndDoors_6 : decode cX5_countRoomsAndDoors 6 = .ok (.iconst 0, 1) := by decide +kernel
theorem dX5_countRoomsAndDoors_7 : decode cX5_countRoomsAndDoors 7 = .ok (.putfield 74, 3) := by decide +kernel
theorem dX5_countRoomsAndDoors_10 : decode cX5_countRoomsAndDoors 10 = .ok (.aload_n 0, 1) := by decide +kernel
theorem dX5_countRoomsAndDoors_11 : decode cX5_countRoomsAndDoors 11 = .ok (.iconst (-1), 1) := by decide +kernel
theorem dX5_countRoomsAndDoors_12 : decode cX5_countRoomsAndDoors 12 = .ok (.putfield 77, 3) := by decide +kernel
theorem dX5_countRoomsAndDoors_15 : decode cX5_countRoomsAndDoors 15 = .ok (.iconst 0, 1) := by decide +kernel
theorem dX5_countRoomsAndDoors_16 : decode cX5_countRoomsAndDoors 16 = .ok (.istore_n 1, 1) := by decide +kernel
theorem dX5_countRoomsAndDoors_17 : decode cX5_countRoomsAndDoors 17 = .ok (.iload_n 1, 1) := by decide +kernel
theorem dX5_countRoomsAndDoors_18 : decode cX5_countRoomsAndDoors 18 = .ok (.sipush 210, 3) := by decide +kernel
theorem dX5_countRoomsAndDoors_21 : decode cX5_countRoomsAndDoors 21 = .ok (.if_icmp .ge 93, 3) := by decide +kernel
theorem dX5_countRoomsAndDoors_24 : decode cX5_countRoomsAndDoors 24 = .ok (.aload_n 0, 1) := by decide +kernel
theorem dX5_countRoomsAndDoors_25 : decode cX5_countRoomsAndDoors 25 = .ok (.iload_n 1, 1) := by decide +kernel
theorem dX5_countRoomsAndDoors_26 : decode cX5_countRoomsAndDoors 26 = .ok (.invokevirtual 80, 3) := by decide +kernel
theorem dX5_countRoomsAndDoors_29 : decode cX5_countRoomsAndDoors 29 = .ok (.ifCond .eq 79, 3) := by decide +kernel
theorem dX5_countRoomsAndDoors_32 : decode cX5_countRoomsAndDoors 32 = .ok (.aload_n 0, 1) := by decide +kernel
theorem dX5_countRoomsAndDoors_33 : decode cX5_countRoomsAndDoors 33 = .ok (.dup, 1) := by decide +kernel
theorem dX5_countRoomsAndDoors_34 : decode cX5_countRoomsAndDoors 34 = .ok (.getfield 71, 3) := by decide +kernel
theorem dX5_countRoomsAndDoors_37 : decode cX5_countRoomsAndDoors 37 = .ok (.iconst 1, 1) := by decide +kernel
theorem dX5_countRoomsAndDoors_38 : decode cX5_countRoomsAndDoors 38 = .ok (.iadd, 1) := by decide +kernel
theorem dX5_countRoomsAndDoors_39 : decode cX5_countRoomsAndDoors 39 = .ok (.putfield 71, 3) := by decide +kernel
theorem dX5_countRoomsAndDoors_42 : decode cX5_countRoomsAndDoors 42 = .ok (.aload_n 0, 1) := by decide +kernel
theorem dX5_countRoomsAndDoors_43 : decode cX5_countRoomsAndDoors 43 = .ok (.aload_n 0, 1) := by decide +kernel
theorem dX5_countRoomsAndDoors_44 : decode cX5_countRoomsAndDoors 44 = .ok (.getfield 77, 3) := by decide +kernel
theorem dX5_countRoomsAndDoors_47 : decode cX5_countRoomsAndDoors 47 = .ok (.iconst (-1), 1) := by decide +kernel
theorem dX5_countRoomsAndDoors_48 : decode cX5_countRoomsAndDoors 48 = .ok (.if_icmp .ne 7, 3) := by decide +kernel
theorem dX5_countRoomsAndDoors_51 : decode cX5_countRoomsAndDoors 51 = .ok (.iload_n 1, 1) := by decide +kernel
theorem dX5_countRoomsAndDoors_52 : decode cX5_countRoomsAndDoors 52 = .ok (.goto 7, 3) := by decide +kernel
theorem dX5_countRoomsAndDoors_55 : decode cX5_countRoomsAndDoors 55 = .ok (.aload_n 0, 1) := by decide +kernel
theorem dX5_countRoomsAndDoors_56 : decode cX5_countRoomsAndDoors 56 = .ok (.getfield 77, 3) := by decide +kernel
theorem dX5_countRoomsAndDoors_59 : decode cX5_countRoomsAndDoors 59 = .ok (.putfield 77, 3) := by decide +kernel
theorem dX5_countRoomsAndDoors_62 : decode cX5_countRoomsAndDoors 62 = .ok (.aload_n 0, 1) := by decide +kernel
theorem dX5_countRoomsAndDoors_63 : decode cX5_countRoomsAndDoors 63 = .ok (.dup, 1) := by decide +kernel
theorem dX5_countRoomsAndDoors_64 : decode cX5_countRoomsAndDoors 64 = .ok (.getfield 74, 3) := by decide +kernel
theorem dX5_countRoomsAndDoors_67 : decode cX5_countRoomsAndDoors 67 = .ok (.aload_n 0, 1) := by decide +kernel
theorem dX5_countRoomsAndDoors_68 : decode cX5_countRoomsAndDoors 68 = .ok (.iload_n 1, 1) := by decide +kernel
theorem dX5_countRoomsAndDoors_69 : decode cX5_countRoomsAndDoors 69 = .ok (.iconst 1, 1) := by decide +kernel
theorem dX5_countRoomsAndDoors_70 : decode cX5_countRoomsAndDoors 70 = .ok (.invokevirtual 84, 3) := by decide +kernel
theorem dX5_countRoomsAndDoors_73 : decode cX5_countRoomsAndDoors 73 = .ok (.ifCond .eq 7, 3) := by decide +kernel
theorem dX5_countRoomsAndDoors_76 : decode cX5_countRoomsAndDoors 76 = .ok (.iconst 1, 1) := by decide +kernel
theorem dX5_countRoomsAndDoors_77 : decode cX5_countRoomsAndDoors 77 = .ok (.goto 4, 3) := by decide +kernel
theorem dX5_countRoomsAndDoors_80 : decode cX5_countRoomsAndDoors 80 = .ok (.iconst 0, 1) := by decide +kernel
theorem dX5_countRoomsAndDoors_81 : decode cX5_countRoomsAndDoors 81 = .ok (.iadd, 1) := by decide +kernel
theorem dX5_countRoomsAndDoors_82 : decode cX5_countRoomsAndDoors 82 = .ok (.putfield 74, 3) := by decide +kernel
theorem dX5_countRoomsAndDoors_85 : decode cX5_countRoomsAndDoors 85 = .ok (.aload_n 0, 1) := by decide +kernel
theorem dX5_countRoomsAndDoors_86 : decode cX5_countRoomsAndDoors 86 = .ok (.dup, 1) := by decide +kernel
theorem dX5_countRoomsAndDoors_87 : decode cX5_countRoomsAndDoors 87 = .ok (.getfield 74, 3) := by decide +kernel
theorem dX5_countRoomsAndDoors_90 : decode cX5_countRoomsAndDoors 90 = .ok (.aload_n 0, 1) := by decide +kernel
theorem dX5_countRoomsAndDoors_91 : decode cX5_countRoomsAndDoors 91 = .ok (.iload_n 1, 1) := by decide +kernel
theorem dX5_countRoomsAndDoors_92 : decode cX5_countRoomsAndDoors 92 = .ok (.iconst 2, 1) := by decide +kernel
theorem dX5_countRoomsAndDoors_93 : decode cX5_countRoomsAndDoors 93 = .ok (.invokevirtual 84, 3) := by decide +kernel
theorem dX5_countRoomsAndDoors_96 : decode cX5_countRoomsAndDoors 96 = .ok (.ifCond .eq 7, 3) := by decide +kernel
theorem dX5_countRoomsAndDoors_99 : decode cX5_countRoomsAndDoors 99 = .ok (.iconst 1, 1) := by decide +kernel
theorem dX5_countRoomsAndDoors_100 : decode cX5_countRoomsAndDoors 100 = .ok (.goto 4, 3) := by decide +kernel
theorem dX5_countRoomsAndDoors_103 : decode cX5_countRoomsAndDoors 103 = .ok (.iconst 0, 1) := by decide +kernel
theorem dX5_countRoomsAndDoors_104 : decode cX5_countRoomsAndDoors 104 = .ok (.iadd, 1) := by decide +kernel
theorem dX5_countRoomsAndDoors_105 : decode cX5_countRoomsAndDoors 105 = .ok (.putfield 74, 3) := by decide +kernel
theorem dX5_countRoomsAndDoors_108 : decode cX5_countRoomsAndDoors 108 = .ok (.iinc 1 1, 3) := by decide +kernel
theorem dX5_countRoomsAndDoors_111 : decode cX5_countRoomsAndDoors 111 = .ok (.goto (-94), 3) := by decide +kernel
theorem dX5_countRoomsAndDoors_114 : decode cX5_countRoomsAndDoors 114 = .ok (.return_, 1) := by decide +kernel
theorem dX5_baseCell_0 : decode cX5_baseCell 0 = .ok (.iconst 5, 1) := by decide +kernel
theorem dX5_baseCell_1 : decode cX5_baseCell 1 = .ok (.aload_n 0, 1) := by decide +kernel
theorem dX5_baseCell_2 : decode cX5_baseCell 2 = .ok (.getfield 26, 3) := by decide +kernel
theorem dX5_baseCell_5 : decode cX5_baseCell 5 = .ok (.imul, 1) := by decide +kernel
theorem dX5_baseCell_6 : decode cX5_baseCell 6 = .ok (.ireturn, 1) := by decide +kernel
set_option maxRecDepth 20000 in
theorem ggX5_holds_X4_at : GoodIn wsX5_holds wsX4_at := goodIn_r _ [6, 7, 14] (by decide +kernel) (by decide +kernel)
set_option maxRecDepth 20000 in
theorem gX5_holds_X4_at : GoodIn wsX5_holds (wsV RX5 38 RX4 yX4_at wsX4_at) := goodIn_app (goodIn_of _ (by decide +kernel)) ggX5_holds_X4_at
theorem dX5_holds_0 : decode cX5_holds 0 = .ok (.aload_n 0, 1) := by decide +kernel
theorem dX5_holds_1 : decode cX5_holds 1 = .ok (.getfield 14, 3) := by decide +kernel
theorem dX5_holds_4 : decode cX5_holds 4 = .ok (.iload_n 1, 1) := by decide +kernel
theorem dX5_holds_5 : decode cX5_holds 5 = .ok (.invokevirtual 38, 3) := by decide +kernel
theorem dX5_holds_8 : decode cX5_holds 8 = .ok (.ifCond .eq 7, 3) := by decide +kernel
theorem dX5_holds_11 : decode cX5_holds 11 = .ok (.iconst 1, 1) := by decide +kernel
theorem dX5_holds_12 : decode cX5_holds 12 = .ok (.goto 4, 3) := by decide +kernel
theorem dX5_holds_15 : decode cX5_holds 15 = .ok (.iconst 0, 1) := by decide +kernel
theorem dX5_holds_16 : decode cX5_holds 16 = .ok (.ireturn, 1) := by decide +kernel
set_option maxRecDepth 20000 in
theorem ggX5_roomsOf_X4_at : GoodIn wsX5_roomsOf wsX4_at := goodIn_r _ [6, 7, 14] (by decide +kernel) (by decide +kernel)
set_option maxRecDepth 20000 in
theorem gX5_roomsOf_X4_at : GoodIn wsX5_roomsOf (wsV RX5 38 RX4 yX4_at wsX4_at) := goodIn_app (goodIn_of _ (by decide +kernel)) ggX5_roomsOf_X4_at
theorem dX5_roomsOf_0 : decode cX5_roomsOf 0 = .ok (.iconst 0, 1) := by decide +kernel
theorem dX5_roomsOf_1 : decode cX5_roomsOf 1 = .ok (.istore_n 2, 1) := by decide +kernel
theorem dX5_roomsOf_2 : decode cX5_roomsOf 2 = .ok (.iconst 0, 1) := by decide +kernel
theorem dX5_roomsOf_3 : decode cX5_roomsOf 3 = .ok (.istore_n 3, 1) := by decide +kernel
theorem dX5_roomsOf_4 : decode cX5_roomsOf 4 = .ok (.iload_n 3, 1) := by decide +kernel
theorem dX5_roomsOf_5 : decode cX5_roomsOf 5 = .ok (.sipush 210, 3) := by decide +kernel
theorem dX5_roomsOf_8 : decode cX5_roomsOf 8 = .ok (.if_icmp .ge 24, 3) := by decide +kernel
theorem dX5_roomsOf_11 : decode cX5_roomsOf 11 = .ok (.aload_n 0, 1) := by decide +kernel
theorem dX5_roomsOf_12 : decode cX5_roomsOf 12 = .ok (.getfield 14, 3) := by decide +kernel
theorem dX5_roomsOf_15 : decode cX5_roomsOf 15 = .ok (.iload_n 3, 1) := by decide +kernel
theorem dX5_roomsOf_16 : decode cX5_roomsOf 16 = .ok (.invokevirtual 38, 3) := by decide +kernel
theorem dX5_roomsOf_19 : decode cX5_roomsOf 19 = .ok (.iload_n 1, 1) := by decide +kernel
theorem dX5_roomsOf_20 : decode cX5_roomsOf 20 = .ok (.if_icmp .ne 6, 3) := by decide +kernel
theorem dX5_roomsOf_23 : decode cX5_roomsOf 23 = .ok (.iinc 2 1, 3) := by decide +kernel
theorem dX5_roomsOf_26 : decode cX5_roomsOf 26 = .ok (.iinc 3 1, 3) := by decide +kernel
theorem dX5_roomsOf_29 : decode cX5_roomsOf 29 = .ok (.goto (-25), 3) := by decide +kernel
theorem dX5_roomsOf_32 : decode cX5_roomsOf 32 = .ok (.iload_n 2, 1) := by decide +kernel
theorem dX5_roomsOf_33 : decode cX5_roomsOf 33 = .ok (.ireturn, 1) := by decide +kernel
theorem dX5_stride_0 : decode cX5_stride 0 = .ok (.iload_n 1, 1) := by decide +kernel
theorem dX5_stride_1 : decode cX5_stride 1 = .ok (.tableswitch 36 1 3 #[27, 29, 34], 27) := by decide +kernel
theorem dX5_stride_28 : decode cX5_stride 28 = .ok (.iconst 1, 1) := by decide +kernel
theorem dX5_stride_29 : decode cX5_stride 29 = .ok (.ireturn, 1) := by decide +kernel
theorem dX5_stride_30 : decode cX5_stride 30 = .ok (.aload_n 0, 1) := by decide +kernel
theorem dX5_stride_31 : decode cX5_stride 31 = .ok (.getfield 26, 3) := by decide +kernel
theorem dX5_stride_34 : decode cX5_stride 34 = .ok (.ireturn, 1) := by decide +kernel
theorem dX5_stride_35 : decode cX5_stride 35 = .ok (.iconst (-1), 1) := by decide +kernel
theorem dX5_stride_36 : decode cX5_stride 36 = .ok (.ireturn, 1) := by decide +kernel
theorem dX5_stride_37 : decode cX5_stride 37 = .ok (.aload_n 0, 1) := by decide +kernel
theorem dX5_stride_38 : decode cX5_stride 38 = .ok (.getfield 26, 3) := by decide +kernel
theorem dX5_stride_41 : decode cX5_stride 41 = .ok (.ineg, 1) := by decide +kernel
theorem dX5_stride_42 : decode cX5_stride 42 = .ok (.ireturn, 1) := by decide +kernel
set_option maxRecDepth 20000 in
theorem ggX5_beside_X5_stride : GoodIn wsX5_beside wsX5_stride := goodIn_r _ [6, 1, 18, 19, 20, 21, 22, 23] (by decide +kernel) (by decide +kernel)
set_option maxRecDepth 20000 in
theorem gX5_beside_X5_stride : GoodIn wsX5_beside (wsV RX5 88 RX5 yX5_stride wsX5_stride) := goodIn_app (goodIn_of _ (by decide +kernel)) ggX5_beside_X5_stride
set_option maxRecDepth 20000 in
theorem ggX5_beside_X5_holds : GoodIn wsX5_beside wsX5_holds := goodIn_r _ [10, 11, 12, 13, 14, 15, 16, 17, 18, 19, 20, 21, 22, 23, 24] (by decide +kernel) (by decide +kernel)
set_option maxRecDepth 20000 in
theorem gX5_beside_X5_holds : GoodIn wsX5_beside (wsV RX5 80 RX5 yX5_holds wsX5_holds) := goodIn_app (goodIn_of _ (by decide +kernel)) ggX5_beside_X5_holds
theorem dX5_beside_0 : decode cX5_beside 0 = .ok (.aload_n 0, 1) := by decide +kernel
theorem dX5_beside_1 : decode cX5_beside 1 = .ok (.getfield 26, 3) := by decide +kernel
theorem dX5_beside_4 : decode cX5_beside 4 = .ok (.ifCond .le 12, 3) := by decide +kernel
theorem dX5_beside_7 : decode cX5_beside 7 = .ok (.iload_n 1, 1) := by decide +kernel
theorem dX5_beside_8 : decode cX5_beside 8 = .ok (.aload_n 0, 1) := by decide +kernel
theorem dX5_beside_9 : decode cX5_beside 9 = .ok (.getfield 26, 3) := by decide +kernel
theorem dX5_beside_12 : decode cX5_beside 12 = .ok (.irem, 1) := by decide +kernel
theorem dX5_beside_13 : decode cX5_beside 13 = .ok (.goto 4, 3) := by decide +kernel
theorem dX5_beside_16 : decode cX5_beside 16 = .ok (.iconst 0, 1) := by decide +kernel
theorem dX5_beside_17 : decode cX5_beside 17 = .ok (.istore_n 3, 1) := by decide +kernel
theorem dX5_beside_18 : decode cX5_beside 18 = .ok (.iload_n 2, 1) := by decide +kernel
theorem dX5_beside_19 : decode cX5_beside 19 = .ok (.iconst 1, 1) := by decide +kernel
theorem dX5_beside_20 : decode cX5_beside 20 = .ok (.if_icmp .ne 13, 3) := by decide +kernel
theorem dX5_beside_23 : decode cX5_beside 23 = .ok (.iload_n 3, 1) := by decide +kernel
theorem dX5_beside_24 : decode cX5_beside 24 = .ok (.aload_n 0, 1) := by decide +kernel
theorem dX5_beside_25 : decode cX5_beside 25 = .ok (.getfield 26, 3) := by decide +kernel
theorem dX5_beside_28 : decode cX5_beside 28 = .ok (.iconst 1, 1) := by decide +kernel
theorem dX5_beside_29 : decode cX5_beside 29 = .ok (.isub, 1) := by decide +kernel
theorem dX5_beside_30 : decode cX5_beside 30 = .ok (.if_icmp .eq 12, 3) := by decide +kernel
theorem dX5_beside_33 : decode cX5_beside 33 = .ok (.iload_n 2, 1) := by decide +kernel
theorem dX5_beside_34 : decode cX5_beside 34 = .ok (.iconst 3, 1) := by decide +kernel
theorem dX5_beside_35 : decode cX5_beside 35 = .ok (.if_icmp .ne 9, 3) := by decide +kernel
theorem dX5_beside_38 : decode cX5_beside 38 = .ok (.iload_n 3, 1) := by decide +kernel
theorem dX5_beside_39 : decode cX5_beside 39 = .ok (.ifCond .ne 5, 3) := by decide +kernel
theorem dX5_beside_42 : decode cX5_beside 42 = .ok (.iconst (-1), 1) := by decide +kernel
theorem dX5_beside_43 : decode cX5_beside 43 = .ok (.ireturn, 1) := by decide +kernel
theorem dX5_beside_44 : decode cX5_beside 44 = .ok (.iload_n 1, 1) := by decide +kernel
theorem dX5_beside_45 : decode cX5_beside 45 = .ok (.aload_n 0, 1) := by decide +kernel
theorem dX5_beside_46 : decode cX5_beside 46 = .ok (.iload_n 2, 1) := by decide +kernel
theorem dX5_beside_47 : decode cX5_beside 47 = .ok (.invokevirtual 88, 3) := by decide +kernel
theorem dX5_beside_50 : decode cX5_beside 50 = .ok (.iadd, 1) := by decide +kernel
theorem dX5_beside_51 : decode cX5_beside 51 = .ok (.istore 4, 2) := by decide +kernel
theorem dX5_beside_53 : decode cX5_beside 53 = .ok (.aload_n 0, 1) := by decide +kernel
theorem dX5_beside_54 : decode cX5_beside 54 = .ok (.iload 4, 2) := by decide +kernel
theorem dX5_beside_56 : decode cX5_beside 56 = .ok (.invokevirtual 80, 3) := by decide +kernel
theorem dX5_beside_59 : decode cX5_beside 59 = .ok (.ifCond .eq 8, 3) := by decide +kernel
theorem dX5_beside_62 : decode cX5_beside 62 = .ok (.iload 4, 2) := by decide +kernel
theorem dX5_beside_64 : decode cX5_beside 64 = .ok (.goto 4, 3) := by decide +kernel
theorem dX5_beside_67 : decode cX5_beside 67 = .ok (.iconst (-1), 1) := by decide +kernel
theorem dX5_beside_68 : decode cX5_beside 68 = .ok (.ireturn, 1) := by decide +kernel
set_option maxRecDepth 20000 in
theorem ggX5_hasDoor_X5_holds : GoodIn wsX5_hasDoor wsX5_holds := goodIn_r _ [5, 6, 7, 8, 9, 10, 11, 12, 22, 23, 24, 25, 26, 27, 28] (by decide +kernel) (by decide +kernel)
set_option maxRecDepth 20000 in
theorem gX5_hasDoor_X5_holds : GoodIn wsX5_hasDoor (wsV RX5 80 RX5 yX5_holds wsX5_holds) := goodIn_app (goodIn_of _ (by decide +kernel)) ggX5_hasDoor_X5_holds
set_option maxRecDepth 20000 in
theorem ggX5_hasDoor_X5_beside : GoodIn wsX5_hasDoor wsX5_beside := goodIn_r _ [16, 17, 18, 19, 20, 4, 21, 1, 2, 3, 5, 6, 7, 8, 9, 10, 11, 12, 22, 23, 24, 25, 26, 27, 28] (by decide +kernel) (by decide +kernel)
set_option maxRecDepth 20000 in
theorem gX5_hasDoor_X5_beside : GoodIn wsX5_hasDoor (wsV RX5 91 RX5 yX5_beside wsX5_beside) := goodIn_app (goodIn_of _ (by decide +kernel)) ggX5_hasDoor_X5_beside
theorem dX5_hasDoor_0 : decode cX5_hasDoor 0 = .ok (.aload_n 0, 1) := by decide +kernel
theorem dX5_hasDoor_1 : decode cX5_hasDoor 1 = .ok (.iload_n 1, 1) := by decide +kernel
theorem dX5_hasDoor_2 : decode cX5_hasDoor 2 = .ok (.invokevirtual 80, 3) := by decide +kernel
theorem dX5_hasDoor_5 : decode cX5_hasDoor 5 = .ok (.ifCond .eq 17, 3) := by decide +kernel
theorem dX5_hasDoor_8 : decode cX5_hasDoor 8 = .ok (.aload_n 0, 1) := by decide +kernel
theorem dX5_hasDoor_9 : decode cX5_hasDoor 9 = .ok (.iload_n 1, 1) := by decide +kernel
theorem dX5_hasDoor_10 : decode cX5_hasDoor 10 = .ok (.iload_n 2, 1) := by decide +kernel
theorem dX5_hasDoor_11 : decode cX5_hasDoor 11 = .ok (.invokevirtual 91, 3) := by decide +kernel
theorem dX5_hasDoor_14 : decode cX5_hasDoor 14 = .ok (.iconst (-1), 1) := by decide +kernel
theorem dX5_hasDoor_15 : decode cX5_hasDoor 15 = .ok (.if_icmp .eq 7, 3) := by decide +kernel
theorem dX5_hasDoor_18 : decode cX5_hasDoor 18 = .ok (.iconst 1, 1) := by decide +kernel
theorem dX5_hasDoor_19 : decode cX5_hasDoor 19 = .ok (.goto 4, 3) := by decide +kernel
theorem dX5_hasDoor_22 : decode cX5_hasDoor 22 = .ok (.iconst 0, 1) := by decide +kernel
theorem dX5_hasDoor_23 : decode cX5_hasDoor 23 = .ok (.ireturn, 1) := by decide +kernel
set_option maxRecDepth 20000 in
theorem ggX6_init_X4_init : GoodIn wsX6_init wsX4_init := goodIn_r _ [12, 13, 2, 3, 14, 15, 16, 17, 18, 19, 20] (by decide +kernel) (by decide +kernel)
set_option maxRecDepth 20000 in
theorem gX6_init_X4_init : GoodIn wsX6_init (wsX4_init) := ggX6_init_X4_init
theorem dX6_init_0 : decode cX6_init 0 = .ok (.aload_n 0, 1) := by decide +kernel
theorem dX6_init_1 : decode cX6_init 1 = .ok (.invokespecial 3, 3) := by decide +kernel
theorem dX6_init_4 : decode cX6_init 4 = .ok (.aload_n 0, 1) := by decide +kernel
theorem dX6_init_5 : decode cX6_init 5 = .ok (.new 9, 3) := by decide +kernel
theorem dX6_init_8 : decode cX6_init 8 = .ok (.dup, 1) := by decide +kernel
theorem dX6_init_9 : decode cX6_init 9 = .ok (.bipush 6, 2) := by decide +kernel
theorem dX6_init_11 : decode cX6_init 11 = .ok (.invokespecial 11, 3) := by decide +kernel
theorem dX6_init_14 : decode cX6_init 14 = .ok (.putfield 14, 3) := by decide +kernel
theorem dX6_init_17 : decode cX6_init 17 = .ok (.aload_n 0, 1) := by decide +kernel
theorem dX6_init_18 : decode cX6_init 18 = .ok (.new 9, 3) := by decide +kernel
theorem dX6_init_21 : decode cX6_init 21 = .ok (.dup, 1) := by decide +kernel
theorem dX6_init_22 : decode cX6_init 22 = .ok (.sipush 210, 3) := by decide +kernel
theorem dX6_init_25 : decode cX6_init 25 = .ok (.invokespecial 11, 3) := by decide +kernel
theorem dX6_init_28 : decode cX6_init 28 = .ok (.putfield 20, 3) := by decide +kernel
theorem dX6_init_31 : decode cX6_init 31 = .ok (.aload_n 0, 1) := by decide +kernel
theorem dX6_init_32 : decode cX6_init 32 = .ok (.new 9, 3) := by decide +kernel
theorem dX6_init_35 : decode cX6_init 35 = .ok (.dup, 1) := by decide +kernel
theorem dX6_init_36 : decode cX6_init 36 = .ok (.sipush 210, 3) := by decide +kernel
theorem dX6_init_39 : decode cX6_init 39 = .ok (.invokespecial 11, 3) := by decide +kernel
theorem dX6_init_42 : decode cX6_init 42 = .ok (.putfield 23, 3) := by decide +kernel
theorem dX6_init_45 : decode cX6_init 45 = .ok (.return_, 1) := by decide +kernel
set_option maxRecDepth 20000 in
theorem ggX6_take_X4_take : GoodIn wsX6_take wsX4_take := goodIn_r _ [11, 12, 13, 14, 15, 16, 17, 18, 19, 20, 27] (by decide +kernel) (by decide +kernel)
set_option maxRecDepth 20000 in
theorem gX6_take_X4_take : GoodIn wsX6_take (wsV RX6 26 RX4 yX4_take wsX4_take) := goodIn_app (goodIn_of _ (by decide +kernel)) ggX6_take_X4_take
theorem dX6_take_0 : decode cX6_take 0 = .ok (.aload_n 0, 1) := by decide +kernel
theorem dX6_take_1 : decode cX6_take 1 = .ok (.getfield 14, 3) := by decide +kernel
theorem dX6_take_4 : decode cX6_take 4 = .ok (.aload_n 1, 1) := by decide +kernel
theorem dX6_take_5 : decode cX6_take 5 = .ok (.getfield 14, 3) := by decide +kernel
theorem dX6_take_8 : decode cX6_take 8 = .ok (.invokevirtual 26, 3) := by decide +kernel
theorem dX6_take_11 : decode cX6_take 11 = .ok (.aload_n 0, 1) := by decide +kernel
theorem dX6_take_12 : decode cX6_take 12 = .ok (.getfield 20, 3) := by decide +kernel
theorem dX6_take_15 : decode cX6_take 15 = .ok (.aload_n 1, 1) := by decide +kernel
theorem dX6_take_16 : decode cX6_take 16 = .ok (.getfield 20, 3) := by decide +kernel
theorem dX6_take_19 : decode cX6_take 19 = .ok (.invokevirtual 26, 3) := by decide +kernel
theorem dX6_take_22 : decode cX6_take 22 = .ok (.aload_n 0, 1) := by decide +kernel
theorem dX6_take_23 : decode cX6_take 23 = .ok (.getfield 23, 3) := by decide +kernel
theorem dX6_take_26 : decode cX6_take 26 = .ok (.aload_n 1, 1) := by decide +kernel
theorem dX6_take_27 : decode cX6_take 27 = .ok (.getfield 23, 3) := by decide +kernel
theorem dX6_take_30 : decode cX6_take 30 = .ok (.invokevirtual 26, 3) := by decide +kernel
theorem dX6_take_33 : decode cX6_take 33 = .ok (.aload_n 0, 1) := by decide +kernel
theorem dX6_take_34 : decode cX6_take 34 = .ok (.aload_n 1, 1) := by decide +kernel
theorem dX6_take_35 : decode cX6_take 35 = .ok (.getfield 30, 3) := by decide +kernel
theorem dX6_take_38 : decode cX6_take 38 = .ok (.putfield 30, 3) := by decide +kernel
theorem dX6_take_41 : decode cX6_take 41 = .ok (.aload_n 0, 1) := by decide +kernel
theorem dX6_take_42 : decode cX6_take 42 = .ok (.aload_n 1, 1) := by decide +kernel
theorem dX6_take_43 : decode cX6_take 43 = .ok (.getfield 34, 3) := by decide +kernel
theorem dX6_take_46 : decode cX6_take 46 = .ok (.putfield 34, 3) := by decide +kernel
theorem dX6_take_49 : decode cX6_take 49 = .ok (.aload_n 0, 1) := by decide +kernel
theorem dX6_take_50 : decode cX6_take 50 = .ok (.aload_n 1, 1) := by decide +kernel
theorem dX6_take_51 : decode cX6_take 51 = .ok (.getfield 37, 3) := by decide +kernel
theorem dX6_take_54 : decode cX6_take 54 = .ok (.putfield 37, 3) := by decide +kernel
theorem dX6_take_57 : decode cX6_take 57 = .ok (.return_, 1) := by decide +kernel
set_option maxRecDepth 20000 in
theorem ggX7_init_X4_init : GoodIn wsX7_init wsX4_init := goodIn_r _ [10, 11, 2, 3, 12, 13, 14, 15, 16, 17, 18] (by decide +kernel) (by decide +kernel)
set_option maxRecDepth 20000 in
theorem gX7_init_X4_init : GoodIn wsX7_init (wsX4_init) := ggX7_init_X4_init
theorem dX7_init_0 : decode cX7_init 0 = .ok (.aload_n 0, 1) := by decide +kernel
theorem dX7_init_1 : decode cX7_init 1 = .ok (.invokespecial 3, 3) := by decide +kernel
theorem dX7_init_4 : decode cX7_init 4 = .ok (.aload_n 0, 1) := by decide +kernel
theorem dX7_init_5 : decode cX7_init 5 = .ok (.new 9, 3) := by decide +kernel
theorem dX7_init_8 : decode cX7_init 8 = .ok (.dup, 1) := by decide +kernel
theorem dX7_init_9 : decode cX7_init 9 = .ok (.sipush 200, 3) := by decide +kernel
theorem dX7_init_12 : decode cX7_init 12 = .ok (.invokespecial 11, 3) := by decide +kernel
theorem dX7_init_15 : decode cX7_init 15 = .ok (.putfield 14, 3) := by decide +kernel
theorem dX7_init_18 : decode cX7_init 18 = .ok (.return_, 1) := by decide +kernel
set_option maxRecDepth 20000 in
theorem ggX7_isWord_X4_at : GoodIn wsX7_isWord wsX4_at := goodIn_r _ [7, 8, 100] (by decide +kernel) (by decide +kernel)
set_option maxRecDepth 20000 in
theorem gX7_isWord_X4_at : GoodIn wsX7_isWord (wsV RX7 26 RX4 yX4_at wsX4_at) := goodIn_app (goodIn_of _ (by decide +kernel)) ggX7_isWord_X4_at
set_option maxRecDepth 20000 in
theorem ggX7_isWord_J0_indexOf_0f7a4 : GoodIn wsX7_isWord wsJ0_indexOf_0f7a4 := goodIn_r _ [13, 14, 15, 16, 12, 17, 18, 19, 20, 21, 22, 23, 24, 25, 26, 27, 28, 29, 30, 31, 32, 33, 34, 35, 36, 37, 38, 39, 40, 41, 42, 43, 44, 45, 46, 47, 48, 49, 50, 51, 52, 53, 54, 55, 56, 57, 58, 59, 60, 61, 62, 63, 64, 65, 66, 67, 68, 69, 70, 71, 72, 73, 74, 75, 76, 77, 78, 79, 80, 81, 82, 83, 84, 85, 86, 87, 88, 89, 90, 91, 92, 93, 94, 95, 96, 97] (by decide +kernel) (by decide +kernel)
set_option maxRecDepth 20000 in
theorem gX7_isWord_J0_indexOf_0f7a4 : GoodIn wsX7_isWord (wsV RX7 30 RJ0 yJ0_indexOf_0f7a4 wsJ0_indexOf_0f7a4) := goodIn_app (goodIn_of _ (by decide +kernel)) ggX7_isWord_J0_indexOf_0f7a4
theorem dX7_isWord_0 : decode cX7_isWord 0 = .ok (.aload_n 0, 1) := by decide +kernel
theorem dX7_isWord_1 : decode cX7_isWord 1 = .ok (.getfield 20, 3) := by decide +kernel
theorem dX7_isWord_4 : decode cX7_isWord 4 = .ok (.iconst 1, 1) := by decide +kernel
theorem dX7_isWord_5 : decode cX7_isWord 5 = .ok (.if_icmp .lt 12, 3) := by decide +kernel
theorem dX7_isWord_8 : decode cX7_isWord 8 = .ok (.aload_n 0, 1) := by decide +kernel
theorem dX7_isWord_9 : decode cX7_isWord 9 = .ok (.getfield 20, 3) := by decide +kernel
theorem dX7_isWord_12 : decode cX7_isWord 12 = .ok (.bipush 6, 2) := by decide +kernel
theorem dX7_isWord_14 : decode cX7_isWord 14 = .ok (.if_icmp .le 5, 3) := by decide +kernel
theorem dX7_isWord_17 : decode cX7_isWord 17 = .ok (.iconst 0, 1) := by decide +kernel
theorem dX7_isWord_18 : decode cX7_isWord 18 = .ok (.ireturn, 1) := by decide +kernel
theorem dX7_isWord_19 : decode cX7_isWord 19 = .ok (.iconst 0, 1) := by decide +kernel
theorem dX7_isWord_20 : decode cX7_isWord 20 = .ok (.istore_n 1, 1) := by decide +kernel
theorem dX7_isWord_21 : decode cX7_isWord 21 = .ok (.iload_n 1, 1) := by decide +kernel
theorem dX7_isWord_22 : decode cX7_isWord 22 = .ok (.aload_n 0, 1) := by decide +kernel
theorem dX7_isWord_23 : decode cX7_isWord 23 = .ok (.getfield 20, 3) := by decide +kernel
theorem dX7_isWord_26 : decode cX7_isWord 26 = .ok (.if_icmp .ge 28, 3) := by decide +kernel
theorem dX7_isWord_29 : decode cX7_isWord 29 = .ok (.ldc 24, 2) := by decide +kernel
theorem dX7_isWord_31 : decode cX7_isWord 31 = .ok (.aload_n 0, 1) := by decide +kernel
theorem dX7_isWord_32 : decode cX7_isWord 32 = .ok (.getfield 14, 3) := by decide +kernel
theorem dX7_isWord_35 : decode cX7_isWord 35 = .ok (.iload_n 1, 1) := by decide +kernel
theorem dX7_isWord_36 : decode cX7_isWord 36 = .ok (.invokevirtual 26, 3) := by decide +kernel
theorem dX7_isWord_39 : decode cX7_isWord 39 = .ok (.i2c, 1) := by decide +kernel
theorem dX7_isWord_40 : decode cX7_isWord 40 = .ok (.invokevirtual 30, 3) := by decide +kernel
theorem dX7_isWord_43 : decode cX7_isWord 43 = .ok (.ifCond .ge 5, 3) := by decide +kernel
theorem dX7_isWord_46 : decode cX7_isWord 46 = .ok (.iconst 0, 1) := by decide +kernel
theorem dX7_isWord_47 : decode cX7_isWord 47 = .ok (.ireturn, 1) := by decide +kernel
theorem dX7_isWord_48 : decode cX7_isWord 48 = .ok (.iinc 1 1, 3) := by decide +kernel
theorem dX7_isWord_51 : decode cX7_isWord 51 = .ok (.goto (-30), 3) := by decide +kernel
theorem dX7_isWord_54 : decode cX7_isWord 54 = .ok (.iconst 1, 1) := by decide +kernel
theorem dX7_isWord_55 : decode cX7_isWord 55 = .ok (.ireturn, 1) := by decide +kernel
set_option maxRecDepth 20000 in
theorem ggX8_init_X4_init : GoodIn wsX8_init wsX4_init := goodIn_r _ [10, 11, 2, 3, 12, 13, 14, 15, 16, 17, 18] (by decide +kernel) (by decide +kernel)
set_option maxRecDepth 20000 in
theorem gX8_init_X4_init : GoodIn wsX8_init (wsX4_init) := ggX8_init_X4_init
theorem dX8_init_0 : decode cX8_init 0 = .ok (.aload_n 0, 1) := by decide +kernel
theorem dX8_init_1 : decode cX8_init 1 = .ok (.invokespecial 3, 3) := by decide +kernel
theorem dX8_init_4 : decode cX8_init 4 = .ok (.aload_n 0, 1) := by decide +kernel
theorem dX8_init_5 : decode cX8_init 5 = .ok (.new 9, 3) := by decide +kernel
theorem dX8_init_8 : decode cX8_init 8 = .ok (.dup, 1) := by decide +kernel
theorem dX8_init_9 : decode cX8_init 9 = .ok (.sipush 210, 3) := by decide +kernel
theorem dX8_init_12 : decode cX8_init 12 = .ok (.invokespecial 11, 3) := by decide +kernel
theorem dX8_init_15 : decode cX8_init 15 = .ok (.putfield 14, 3) := by decide +kernel
theorem dX8_init_18 : decode cX8_init 18 = .ok (.return_, 1) := by decide +kernel
set_option maxRecDepth 20000 in
theorem ggX8_go_X9_spread : GoodIn wsX8_go wsX9_spread := goodIn_r _ [14, 15, 16, 17, 18, 19, 20, 21, 22, 23, 24, 25, 26, 27, 28, 29, 30, 31, 13, 32, 33, 34, 35, 36, 37, 38, 39, 40, 41, 42, 43, 44, 45, 46, 47, 48, 49, 50, 51, 52, 53, 54, 133, 134, 135, 136, 137, 138, 139, 120, 121, 140, 122, 123, 124, 125, 126, 127, 141, 142, 143, 144, 145, 146] (by decide +kernel) (by decide +kernel)
set_option maxRecDepth 20000 in
theorem gX8_go_X9_spread : GoodIn wsX8_go (wsV RX8 32 RX9 yX9_spread wsX9_spread) := goodIn_app (goodIn_of _ (by decide +kernel)) ggX8_go_X9_spread
set_option maxRecDepth 20000 in
theorem ggX8_go_X4_fill : GoodIn wsX8_go wsX4_fill := goodIn_r _ [23, 24, 25, 26, 27, 28, 140] (by decide +kernel) (by decide +kernel)
set_option maxRecDepth 20000 in
theorem gX8_go_X4_fill : GoodIn wsX8_go (wsV RX8 38 RX4 yX4_fill wsX4_fill) := goodIn_app (goodIn_of _ (by decide +kernel)) ggX8_go_X4_fill
set_option maxRecDepth 20000 in
theorem ggX8_go_X8_enter : GoodIn wsX8_go wsX8_enter := goodIn_r _ [60, 8, 3, 5, 61, 34, 35, 22, 36, 24, 62, 38, 39, 40, 128, 129, 130, 131, 132, 140] (by decide +kernel) (by decide +kernel)
set_option maxRecDepth 20000 in
theorem gX8_go_X8_enter : GoodIn wsX8_go (wsV RX8 53 RX8 yX8_enter wsX8_enter) := goodIn_app (goodIn_of _ (by decide +kernel)) ggX8_go_X8_enter
set_option maxRecDepth 20000 in
theorem ggX8_go_X8_choose : GoodIn wsX8_go wsX8_choose := goodIn_r _ [66, 8, 67, 68, 69, 44, 70, 71, 72, 73, 74, 46, 75, 48, 34, 35, 22, 36, 24, 76, 77, 78, 79, 80, 81, 82, 83, 47, 84, 85, 86, 87, 88, 89, 90, 91, 92, 93, 13, 94, 95, 96, 97, 98, 99, 100, 101, 102, 41, 42, 43, 45, 103, 104, 105, 106, 15, 18, 33, 49, 50, 51, 52, 53, 54, 107, 108, 109, 110, 111, 112, 113, 59, 114, 6, 115, 128, 129, 130, 131, 132, 120, 121, 122, 123, 124, 125, 126, 127, 140, 133, 134, 135, 136, 137, 138, 139, 141, 142, 143, 144, 145, 146] (by decide +kernel) (by decide +kernel)
set_option maxRecDepth 20000 in
theorem gX8_go_X8_choose : GoodIn wsX8_go (wsV RX8 59 RX8 yX8_choose wsX8_choose) := goodIn_app (goodIn_of _ (by decide +kernel)) ggX8_go_X8_choose
set_option maxRecDepth 20000 in
theorem ggX8_go_X10_opposite : GoodIn wsX8_go wsX10_opposite := goodIn_r _ [118] (by decide +kernel) (by decide +kernel)
set_option maxRecDepth 20000 in
theorem gX8_go_X10_opposite_n63 : GoodIn wsX8_go (wsX10_opposite) := ggX8_go_X10_opposite
set_option maxRecDepth 20000 in
theorem ggX8_go_X5_stride : GoodIn wsX8_go wsX5_stride := goodIn_r _ [53, 54, 141, 142, 143, 144, 145, 146] (by decide +kernel) (by decide +kernel)
set_option maxRecDepth 20000 in
theorem gX8_go_X5_stride : GoodIn wsX8_go (wsV RX8 71 RX5 yX5_stride wsX5_stride) := goodIn_app (goodIn_of _ (by decide +kernel)) ggX8_go_X5_stride
theorem dX8_go_0 : decode cX8_go 0 = .ok (.aload_n 2, 1) := by decide +kernel
theorem dX8_go_1 : decode cX8_go 1 = .ok (.aload_n 1, 1) := by decide +kernel
theorem dX8_go_2 : decode cX8_go 2 = .ok (.aload_n 1, 1) := by decide +kernel
theorem dX8_go_3 : decode cX8_go 3 = .ok (.getfield 20, 3) := by decide +kernel
theorem dX8_go_6 : decode cX8_go 6 = .ok (.getfield 26, 3) := by decide +kernel
theorem dX8_go_9 : decode cX8_go 9 = .ok (.invokevirtual 32, 3) := by decide +kernel
theorem dX8_go_12 : decode cX8_go 12 = .ok (.aload_n 0, 1) := by decide +kernel
theorem dX8_go_13 : decode cX8_go 13 = .ok (.getfield 14, 3) := by decide +kernel
theorem dX8_go_16 : decode cX8_go 16 = .ok (.iconst 0, 1) := by decide +kernel
theorem dX8_go_17 : decode cX8_go 17 = .ok (.invokevirtual 38, 3) := by decide +kernel
theorem dX8_go_20 : decode cX8_go 20 = .ok (.aload_n 0, 1) := by decide +kernel
theorem dX8_go_21 : decode cX8_go 21 = .ok (.iconst 0, 1) := by decide +kernel
theorem dX8_go_22 : decode cX8_go 22 = .ok (.putfield 41, 3) := by decide +kernel
theorem dX8_go_25 : decode cX8_go 25 = .ok (.aload_n 0, 1) := by decide +kernel
theorem dX8_go_26 : decode cX8_go 26 = .ok (.iconst 0, 1) := by decide +kernel
theorem dX8_go_27 : decode cX8_go 27 = .ok (.putfield 44, 3) := by decide +kernel
theorem dX8_go_30 : decode cX8_go 30 = .ok (.aload_n 0, 1) := by decide +kernel
theorem dX8_go_31 : decode cX8_go 31 = .ok (.iconst 2, 1) := by decide +kernel
theorem dX8_go_32 : decode cX8_go 32 = .ok (.putfield 47, 3) := by decide +kernel
theorem dX8_go_35 : decode cX8_go 35 = .ok (.aload_n 0, 1) := by decide +kernel
theorem dX8_go_36 : decode cX8_go 36 = .ok (.aload_n 1, 1) := by decide +kernel
theorem dX8_go_37 : decode cX8_go 37 = .ok (.getfield 20, 3) := by decide +kernel
theorem dX8_go_40 : decode cX8_go 40 = .ok (.getfield 50, 3) := by decide +kernel
theorem dX8_go_43 : decode cX8_go 43 = .ok (.invokevirtual 53, 3) := by decide +kernel
theorem dX8_go_46 : decode cX8_go 46 = .ok (.iconst 0, 1) := by decide +kernel
theorem dX8_go_47 : decode cX8_go 47 = .ok (.istore 4, 2) := by decide +kernel
theorem dX8_go_49 : decode cX8_go 49 = .ok (.iload 4, 2) := by decide +kernel
theorem dX8_go_51 : decode cX8_go 51 = .ok (.iload_n 3, 1) := by decide +kernel
theorem dX8_go_52 : decode cX8_go 52 = .ok (.if_icmp .ge 77, 3) := by decide +kernel
theorem dX8_go_55 : decode cX8_go 55 = .ok (.aload_n 0, 1) := by decide +kernel
theorem dX8_go_56 : decode cX8_go 56 = .ok (.getfield 56, 3) := by decide +kernel
theorem dX8_go_59 : decode cX8_go 59 = .ok (.aload_n 1, 1) := by decide +kernel
theorem dX8_go_60 : decode cX8_go 60 = .ok (.getfield 20, 3) := by decide +kernel
theorem dX8_go_63 : decode cX8_go 63 = .ok (.getfield 26, 3) := by decide +kernel
theorem dX8_go_66 : decode cX8_go 66 = .ok (.if_icmp .eq 63, 3) := by decide +kernel
theorem dX8_go_69 : decode cX8_go 69 = .ok (.aload_n 0, 1) := by decide +kernel
theorem dX8_go_70 : decode cX8_go 70 = .ok (.aload_n 1, 1) := by decide +kernel
theorem dX8_go_71 : decode cX8_go 71 = .ok (.aload_n 2, 1) := by decide +kernel
theorem dX8_go_72 : decode cX8_go 72 = .ok (.invokevirtual 59, 3) := by decide +kernel
theorem dX8_go_75 : decode cX8_go 75 = .ok (.istore 5, 2) := by decide +kernel
theorem dX8_go_77 : decode cX8_go 77 = .ok (.iload 5, 2) := by decide +kernel
theorem dX8_go_79 : decode cX8_go 79 = .ok (.iconst (-1), 1) := by decide +kernel
theorem dX8_go_80 : decode cX8_go 80 = .ok (.if_icmp .ne 6, 3) := by decide +kernel
theorem dX8_go_83 : decode cX8_go 83 = .ok (.goto 46, 3) := by decide +kernel
theorem dX8_go_86 : decode cX8_go 86 = .ok (.aload_n 0, 1) := by decide +kernel
theorem dX8_go_87 : decode cX8_go 87 = .ok (.dup, 1) := by decide +kernel
theorem dX8_go_88 : decode cX8_go 88 = .ok (.getfield 41, 3) := by decide +kernel
theorem dX8_go_91 : decode cX8_go 91 = .ok (.iconst 1, 1) := by decide +kernel
theorem dX8_go_92 : decode cX8_go 92 = .ok (.iadd, 1) := by decide +kernel
theorem dX8_go_93 : decode cX8_go 93 = .ok (.putfield 41, 3) := by decide +kernel
theorem dX8_go_96 : decode cX8_go 96 = .ok (.aload_n 0, 1) := by decide +kernel
theorem dX8_go_97 : decode cX8_go 97 = .ok (.iload 5, 2) := by decide +kernel
theorem dX8_go_99 : decode cX8_go 99 = .ok (.invokestatic 63, 3) := by decide +kernel
theorem dX8_go_102 : decode cX8_go 102 = .ok (.putfield 47, 3) := by decide +kernel
theorem dX8_go_105 : decode cX8_go 105 = .ok (.aload_n 0, 1) := by decide +kernel
theorem dX8_go_106 : decode cX8_go 106 = .ok (.aload_n 0, 1) := by decide +kernel
theorem dX8_go_107 : decode cX8_go 107 = .ok (.getfield 56, 3) := by decide +kernel
theorem dX8_go_110 : decode cX8_go 110 = .ok (.aload_n 1, 1) := by decide +kernel
theorem dX8_go_111 : decode cX8_go 111 = .ok (.getfield 67, 3) := by decide +kernel
theorem dX8_go_114 : decode cX8_go 114 = .ok (.iload 5, 2) := by decide +kernel
theorem dX8_go_116 : decode cX8_go 116 = .ok (.invokevirtual 71, 3) := by decide +kernel
theorem dX8_go_119 : decode cX8_go 119 = .ok (.iadd, 1) := by decide +kernel
theorem dX8_go_120 : decode cX8_go 120 = .ok (.invokevirtual 53, 3) := by decide +kernel
theorem dX8_go_123 : decode cX8_go 123 = .ok (.iinc 4 1, 3) := by decide +kernel
theorem dX8_go_126 : decode cX8_go 126 = .ok (.goto (-77), 3) := by decide +kernel
theorem dX8_go_129 : decode cX8_go 129 = .ok (.return_, 1) := by decide +kernel
set_option maxRecDepth 20000 in
theorem ggX8_enter_X4_at : GoodIn wsX8_enter wsX4_at := goodIn_r _ [8, 9, 19] (by decide +kernel) (by decide +kernel)
set_option maxRecDepth 20000 in
theorem gX8_enter_X4_at : GoodIn wsX8_enter (wsV RX8 76 RX4 yX4_at wsX4_at) := goodIn_app (goodIn_of _ (by decide +kernel)) ggX8_enter_X4_at
set_option maxRecDepth 20000 in
theorem ggX8_enter_X4_put : GoodIn wsX8_enter wsX4_put := goodIn_r _ [13, 9, 19] (by decide +kernel) (by decide +kernel)
set_option maxRecDepth 20000 in
theorem gX8_enter_X4_put : GoodIn wsX8_enter (wsV RX8 79 RX4 yX4_put wsX4_put) := goodIn_app (goodIn_of _ (by decide +kernel)) ggX8_enter_X4_put
theorem dX8_enter_0 : decode cX8_enter 0 = .ok (.aload_n 0, 1) := by decide +kernel
theorem dX8_enter_1 : decode cX8_enter 1 = .ok (.iload_n 1, 1) := by decide +kernel
theorem dX8_enter_2 : decode cX8_enter 2 = .ok (.putfield 56, 3) := by decide +kernel
theorem dX8_enter_5 : decode cX8_enter 5 = .ok (.aload_n 0, 1) := by decide +kernel
theorem dX8_enter_6 : decode cX8_enter 6 = .ok (.getfield 14, 3) := by decide +kernel
theorem dX8_enter_9 : decode cX8_enter 9 = .ok (.iload_n 1, 1) := by decide +kernel
theorem dX8_enter_10 : decode cX8_enter 10 = .ok (.invokevirtual 76, 3) := by decide +kernel
theorem dX8_enter_13 : decode cX8_enter 13 = .ok (.ifCond .ne 22, 3) := by decide +kernel
theorem dX8_enter_16 : decode cX8_enter 16 = .ok (.aload_n 0, 1) := by decide +kernel
theorem dX8_enter_17 : decode cX8_enter 17 = .ok (.getfield 14, 3) := by decide +kernel
theorem dX8_enter_20 : decode cX8_enter 20 = .ok (.iload_n 1, 1) := by decide +kernel
theorem dX8_enter_21 : decode cX8_enter 21 = .ok (.iconst 1, 1) := by decide +kernel
theorem dX8_enter_22 : decode cX8_enter 22 = .ok (.invokevirtual 79, 3) := by decide +kernel
theorem dX8_enter_25 : decode cX8_enter 25 = .ok (.aload_n 0, 1) := by decide +kernel
theorem dX8_enter_26 : decode cX8_enter 26 = .ok (.dup, 1) := by decide +kernel
theorem dX8_enter_27 : decode cX8_enter 27 = .ok (.getfield 44, 3) := by decide +kernel
theorem dX8_enter_30 : decode cX8_enter 30 = .ok (.iconst 1, 1) := by decide +kernel
theorem dX8_enter_31 : decode cX8_enter 31 = .ok (.iadd, 1) := by decide +kernel
theorem dX8_enter_32 : decode cX8_enter 32 = .ok (.putfield 44, 3) := by decide +kernel
theorem dX8_enter_35 : decode cX8_enter 35 = .ok (.return_, 1) := by decide +kernel
set_option maxRecDepth 20000 in
theorem ggX8_choose_X1_signCounts : GoodIn wsX8_choose wsX1_signCounts := goodIn_r _ [6, 7, 8, 9, 5, 10, 11, 12, 13, 14, 15, 16, 17, 18, 19, 20, 21, 22, 23, 24, 25, 26, 27, 28, 29, 30, 31, 32, 33, 34, 81, 82, 83, 84, 85, 86, 87, 88, 89] (by decide +kernel) (by decide +kernel)
set_option maxRecDepth 20000 in
theorem gX8_choose_X1_signCounts : GoodIn wsX8_choose (wsV RX8 83 RX1 yX1_signCounts wsX1_signCounts) := goodIn_app (goodIn_of _ (by decide +kernel)) ggX8_choose_X1_signCounts
set_option maxRecDepth 20000 in
theorem ggX8_choose_X9_signDirection : GoodIn wsX8_choose wsX9_signDirection := goodIn_r _ [39, 40, 41, 42, 5, 43, 11, 12, 13, 14, 15, 16, 17, 18, 44, 45, 46, 47, 48, 49, 50, 51, 27, 52, 53, 54, 38, 55, 56, 57, 58, 59, 60, 61, 62, 63, 64, 65, 66, 67, 68, 81, 82, 83, 84, 85, 86, 87, 88, 89, 90, 91, 92, 93, 94, 95, 96, 97, 98, 99, 100, 101, 102] (by decide +kernel) (by decide +kernel)
set_option maxRecDepth 20000 in
theorem gX8_choose_X9_signDirection : GoodIn wsX8_choose (wsV RX8 87 RX9 yX9_signDirection wsX9_signDirection) := goodIn_app (goodIn_of _ (by decide +kernel)) ggX8_choose_X9_signDirection
set_option maxRecDepth 20000 in
theorem ggX8_choose_X8_chooseWithoutSign : GoodIn wsX8_choose wsX8_chooseWithoutSign := goodIn_r _ [73, 74, 1, 75, 49, 50, 5, 51, 11, 27, 13, 14, 15, 16, 17, 18, 76, 77, 78, 79, 80, 81, 82, 83, 84, 85, 86, 87, 88, 89] (by decide +kernel) (by decide +kernel)
set_option maxRecDepth 20000 in
theorem gX8_choose_X8_chooseWithoutSign : GoodIn wsX8_choose (wsV RX8 91 RX8 yX8_chooseWithoutSign wsX8_chooseWithoutSign) := goodIn_app (goodIn_of _ (by decide +kernel)) ggX8_choose_X8_chooseWithoutSign
theorem dX8_choose_0 : decode cX8_choose 0 = .ok (.aload_n 1, 1) := by decide +kernel
theorem dX8_choose_1 : decode cX8_choose 1 = .ok (.aload_n 0, 1) := by decide +kernel
theorem dX8_choose_2 : decode cX8_choose 2 = .ok (.getfield 56, 3) := by decide +kernel
theorem dX8_choose_5 : decode cX8_choose 5 = .ok (.invokevirtual 83, 3) := by decide +kernel
theorem dX8_choose_8 : decode cX8_choose 8 = .ok (.ifCond .eq 15, 3) := by decide +kernel
theorem dX8_choose_11 : decode cX8_choose 11 = .ok (.aload_n 2, 1) := by decide +kernel
theorem dX8_choose_12 : decode cX8_choose 12 = .ok (.aload_n 1, 1) := by decide +kernel
theorem dX8_choose_13 : decode cX8_choose 13 = .ok (.aload_n 0, 1) := by decide +kernel
theorem dX8_choose_14 : decode cX8_choose 14 = .ok (.getfield 56, 3) := by decide +kernel
theorem dX8_choose_17 : decode cX8_choose 17 = .ok (.invokevirtual 87, 3) := by decide +kernel
theorem dX8_choose_20 : decode cX8_choose 20 = .ok (.goto 4, 3) := by decide +kernel
theorem dX8_choose_23 : decode cX8_choose 23 = .ok (.iconst (-1), 1) := by decide +kernel
theorem dX8_choose_24 : decode cX8_choose 24 = .ok (.istore_n 3, 1) := by decide +kernel
theorem dX8_choose_25 : decode cX8_choose 25 = .ok (.iload_n 3, 1) := by decide +kernel
theorem dX8_choose_26 : decode cX8_choose 26 = .ok (.iconst (-1), 1) := by decide +kernel
theorem dX8_choose_27 : decode cX8_choose 27 = .ok (.if_icmp .ne 11, 3) := by decide +kernel
theorem dX8_choose_30 : decode cX8_choose 30 = .ok (.aload_n 0, 1) := by decide +kernel
theorem dX8_choose_31 : decode cX8_choose 31 = .ok (.aload_n 1, 1) := by decide +kernel
theorem dX8_choose_32 : decode cX8_choose 32 = .ok (.invokevirtual 91, 3) := by decide +kernel
theorem dX8_choose_35 : decode cX8_choose 35 = .ok (.goto 4, 3) := by decide +kernel
theorem dX8_choose_38 : decode cX8_choose 38 = .ok (.iload_n 3, 1) := by decide +kernel
theorem dX8_choose_39 : decode cX8_choose 39 = .ok (.ireturn, 1) := by decide +kernel
set_option maxRecDepth 20000 in
theorem ggX8_chooseWithoutSign_X1_isOpen : GoodIn wsX8_chooseWithoutSign wsX1_isOpen := goodIn_r _ [7, 8, 9, 10, 11, 12, 13, 14, 15, 21, 22, 23, 24, 25, 26, 27, 28, 29] (by decide +kernel) (by decide +kernel)
set_option maxRecDepth 20000 in
theorem gX8_chooseWithoutSign_X1_isOpen : GoodIn wsX8_chooseWithoutSign (wsV RX8 95 RX1 yX1_isOpen wsX1_isOpen) := goodIn_app (goodIn_of _ (by decide +kernel)) ggX8_chooseWithoutSign_X1_isOpen
theorem dX8_chooseWithoutSign_0 : decode cX8_chooseWithoutSign 0 = .ok (.iconst 1, 1) := by decide +kernel
theorem dX8_chooseWithoutSign_1 : decode cX8_chooseWithoutSign 1 = .ok (.istore_n 2, 1) := by decide +kernel
theorem dX8_chooseWithoutSign_2 : decode cX8_chooseWithoutSign 2 = .ok (.iload_n 2, 1) := by decide +kernel
theorem dX8_chooseWithoutSign_3 : decode cX8_chooseWithoutSign 3 = .ok (.iconst 4, 1) := by decide +kernel
theorem dX8_chooseWithoutSign_4 : decode cX8_chooseWithoutSign 4 = .ok (.if_icmp .gt 32, 3) := by decide +kernel
theorem dX8_chooseWithoutSign_7 : decode cX8_chooseWithoutSign 7 = .ok (.aload_n 0, 1) := by decide +kernel
theorem dX8_chooseWithoutSign_8 : decode cX8_chooseWithoutSign 8 = .ok (.getfield 47, 3) := by decide +kernel
theorem dX8_chooseWithoutSign_11 : decode cX8_chooseWithoutSign 11 = .ok (.iload_n 2, 1) := by decide +kernel
theorem dX8_chooseWithoutSign_12 : decode cX8_chooseWithoutSign 12 = .ok (.iadd, 1) := by decide +kernel
theorem dX8_chooseWithoutSign_13 : decode cX8_chooseWithoutSign 13 = .ok (.iconst 4, 1) := by decide +kernel
theorem dX8_chooseWithoutSign_14 : decode cX8_chooseWithoutSign 14 = .ok (.irem, 1) := by decide +kernel
theorem dX8_chooseWithoutSign_15 : decode cX8_chooseWithoutSign 15 = .ok (.istore_n 3, 1) := by decide +kernel
theorem dX8_chooseWithoutSign_16 : decode cX8_chooseWithoutSign 16 = .ok (.aload_n 1, 1) := by decide +kernel
theorem dX8_chooseWithoutSign_17 : decode cX8_chooseWithoutSign 17 = .ok (.aload_n 0, 1) := by decide +kernel
theorem dX8_chooseWithoutSign_18 : decode cX8_chooseWithoutSign 18 = .ok (.getfield 56, 3) := by decide +kernel
theorem dX8_chooseWithoutSign_21 : decode cX8_chooseWithoutSign 21 = .ok (.iload_n 3, 1) := by decide +kernel
theorem dX8_chooseWithoutSign_22 : decode cX8_chooseWithoutSign 22 = .ok (.invokevirtual 95, 3) := by decide +kernel
theorem dX8_chooseWithoutSign_25 : decode cX8_chooseWithoutSign 25 = .ok (.ifCond .eq 5, 3) := by decide +kernel
theorem dX8_chooseWithoutSign_28 : decode cX8_chooseWithoutSign 28 = .ok (.iload_n 3, 1) := by decide +kernel
theorem dX8_chooseWithoutSign_29 : decode cX8_chooseWithoutSign 29 = .ok (.ireturn, 1) := by decide +kernel
theorem dX8_chooseWithoutSign_30 : decode cX8_chooseWithoutSign 30 = .ok (.iinc 2 1, 3) := by decide +kernel
theorem dX8_chooseWithoutSign_33 : decode cX8_chooseWithoutSign 33 = .ok (.goto (-31), 3) := by decide +kernel
theorem dX8_chooseWithoutSign_36 : decode cX8_chooseWithoutSign 36 = .ok (.iconst (-1), 1) := by decide +kernel
theorem dX8_chooseWithoutSign_37 : decode cX8_chooseWithoutSign 37 = .ok (.ireturn, 1) := by decide +kernel
set_option maxRecDepth 20000 in
theorem ggX9_init_X4_init : GoodIn wsX9_init wsX4_init := goodIn_r _ [12, 13, 2, 3, 14, 15, 16, 17, 18, 19, 20] (by decide +kernel) (by decide +kernel)
set_option maxRecDepth 20000 in
theorem gX9_init_X4_init : GoodIn wsX9_init (wsX4_init) := ggX9_init_X4_init
theorem dX9_init_0 : decode cX9_init 0 = .ok (.aload_n 0, 1) := by decide +kernel
theorem dX9_init_1 : decode cX9_init 1 = .ok (.invokespecial 3, 3) := by decide +kernel
theorem dX9_init_4 : decode cX9_init 4 = .ok (.aload_n 0, 1) := by decide +kernel
theorem dX9_init_5 : decode cX9_init 5 = .ok (.new 9, 3) := by decide +kernel
theorem dX9_init_8 : decode cX9_init 8 = .ok (.dup, 1) := by decide +kernel
theorem dX9_init_9 : decode cX9_init 9 = .ok (.sipush 210, 3) := by decide +kernel
theorem dX9_init_12 : decode cX9_init 12 = .ok (.invokespecial 11, 3) := by decide +kernel
theorem dX9_init_15 : decode cX9_init 15 = .ok (.putfield 14, 3) := by decide +kernel
theorem dX9_init_18 : decode cX9_init 18 = .ok (.aload_n 0, 1) := by decide +kernel
theorem dX9_init_19 : decode cX9_init 19 = .ok (.new 9, 3) := by decide +kernel
theorem dX9_init_22 : decode cX9_init 22 = .ok (.dup, 1) := by decide +kernel
theorem dX9_init_23 : decode cX9_init 23 = .ok (.sipush 210, 3) := by decide +kernel
theorem dX9_init_26 : decode cX9_init 26 = .ok (.invokespecial 11, 3) := by decide +kernel
theorem dX9_init_29 : decode cX9_init 29 = .ok (.putfield 20, 3) := by decide +kernel
theorem dX9_init_32 : decode cX9_init 32 = .ok (.aload_n 0, 1) := by decide +kernel
theorem dX9_init_33 : decode cX9_init 33 = .ok (.new 9, 3) := by decide +kernel
theorem dX9_init_36 : decode cX9_init 36 = .ok (.dup, 1) := by decide +kernel
theorem dX9_init_37 : decode cX9_init 37 = .ok (.sipush 210, 3) := by decide +kernel
theorem dX9_init_40 : decode cX9_init 40 = .ok (.invokespecial 11, 3) := by decide +kernel
theorem dX9_init_43 : decode cX9_init 43 = .ok (.putfield 23, 3) := by decide +kernel
theorem dX9_init_46 : decode cX9_init 46 = .ok (.return_, 1) := by decide +kernel
set_option maxRecDepth 20000 in
theorem ggX9_spread_X4_fill : GoodIn wsX9_spread wsX4_fill := goodIn_r _ [9, 10, 11, 12, 13, 14, 51] (by decide +kernel) (by decide +kernel)
set_option maxRecDepth 20000 in
theorem gX9_spread_X4_fill : GoodIn wsX9_spread (wsV RX9 26 RX4 yX4_fill wsX4_fill) := goodIn_app (goodIn_of _ (by decide +kernel)) ggX9_spread_X4_fill
set_option maxRecDepth 20000 in
theorem ggX9_spread_X9_reach : GoodIn wsX9_spread wsX9_reach := goodIn_r _ [19, 1, 3, 2, 20, 21, 22, 8, 23, 10, 24, 25, 26, 27, 42, 43, 44, 45, 46, 47, 48, 51] (by decide +kernel) (by decide +kernel)
set_option maxRecDepth 20000 in
theorem gX9_spread_X9_reach : GoodIn wsX9_spread (wsV RX9 33 RX9 yX9_reach wsX9_reach) := goodIn_app (goodIn_of _ (by decide +kernel)) ggX9_spread_X9_reach
set_option maxRecDepth 20000 in
theorem ggX9_spread_X4_at : GoodIn wsX9_spread wsX4_at := goodIn_r _ [23, 10, 51] (by decide +kernel) (by decide +kernel)
set_option maxRecDepth 20000 in
theorem gX9_spread_X4_at : GoodIn wsX9_spread (wsV RX9 37 RX4 yX4_at wsX4_at) := goodIn_app (goodIn_of _ (by decide +kernel)) ggX9_spread_X4_at
set_option maxRecDepth 20000 in
theorem ggX9_spread_X1_isOpen : GoodIn wsX9_spread wsX1_isOpen := goodIn_r _ [32, 33, 34, 35, 21, 22, 8, 23, 10, 49, 50, 52, 53, 54, 55, 56, 57, 51] (by decide +kernel) (by decide +kernel)
set_option maxRecDepth 20000 in
theorem gX9_spread_X1_isOpen : GoodIn wsX9_spread (wsV RX9 41 RX1 yX1_isOpen wsX1_isOpen) := goodIn_app (goodIn_of _ (by decide +kernel)) ggX9_spread_X1_isOpen
set_option maxRecDepth 20000 in
theorem ggX9_spread_X5_stride : GoodIn wsX9_spread wsX5_stride := goodIn_r _ [40, 41, 58, 59, 60, 61, 62, 63] (by decide +kernel) (by decide +kernel)
set_option maxRecDepth 20000 in
theorem gX9_spread_X5_stride : GoodIn wsX9_spread (wsV RX9 51 RX5 yX5_stride wsX5_stride) := goodIn_app (goodIn_of _ (by decide +kernel)) ggX9_spread_X5_stride
theorem dX9_spread_0 : decode cX9_spread 0 = .ok (.aload_n 0, 1) := by decide +kernel
theorem dX9_spread_1 : decode cX9_spread 1 = .ok (.getfield 14, 3) := by decide +kernel
theorem dX9_spread_4 : decode cX9_spread 4 = .ok (.iconst (-1), 1) := by decide +kernel
theorem dX9_spread_5 : decode cX9_spread 5 = .ok (.invokevirtual 26, 3) := by decide +kernel
theorem dX9_spread_8 : decode cX9_spread 8 = .ok (.aload_n 0, 1) := by decide +kernel
theorem dX9_spread_9 : decode cX9_spread 9 = .ok (.iconst 0, 1) := by decide +kernel
theorem dX9_spread_10 : decode cX9_spread 10 = .ok (.putfield 29, 3) := by decide +kernel
theorem dX9_spread_13 : decode cX9_spread 13 = .ok (.aload_n 0, 1) := by decide +kernel
theorem dX9_spread_14 : decode cX9_spread 14 = .ok (.iload_n 2, 1) := by decide +kernel
theorem dX9_spread_15 : decode cX9_spread 15 = .ok (.iconst 0, 1) := by decide +kernel
theorem dX9_spread_16 : decode cX9_spread 16 = .ok (.invokevirtual 33, 3) := by decide +kernel
theorem dX9_spread_19 : decode cX9_spread 19 = .ok (.iconst 0, 1) := by decide +kernel
theorem dX9_spread_20 : decode cX9_spread 20 = .ok (.istore_n 3, 1) := by decide +kernel
theorem dX9_spread_21 : decode cX9_spread 21 = .ok (.iload_n 3, 1) := by decide +kernel
theorem dX9_spread_22 : decode cX9_spread 22 = .ok (.aload_n 0, 1) := by decide +kernel
theorem dX9_spread_23 : decode cX9_spread 23 = .ok (.getfield 29, 3) := by decide +kernel
theorem dX9_spread_26 : decode cX9_spread 26 = .ok (.if_icmp .ge 83, 3) := by decide +kernel
theorem dX9_spread_29 : decode cX9_spread 29 = .ok (.iload_n 3, 1) := by decide +kernel
theorem dX9_spread_30 : decode cX9_spread 30 = .ok (.sipush 210, 3) := by decide +kernel
theorem dX9_spread_33 : decode cX9_spread 33 = .ok (.if_icmp .ge 76, 3) := by decide +kernel
theorem dX9_spread_36 : decode cX9_spread 36 = .ok (.aload_n 0, 1) := by decide +kernel
theorem dX9_spread_37 : decode cX9_spread 37 = .ok (.getfield 23, 3) := by decide +kernel
theorem dX9_spread_40 : decode cX9_spread 40 = .ok (.iload_n 3, 1) := by decide +kernel
theorem dX9_spread_41 : decode cX9_spread 41 = .ok (.invokevirtual 37, 3) := by decide +kernel
theorem dX9_spread_44 : decode cX9_spread 44 = .ok (.istore 4, 2) := by decide +kernel
theorem dX9_spread_46 : decode cX9_spread 46 = .ok (.aload_n 0, 1) := by decide +kernel
theorem dX9_spread_47 : decode cX9_spread 47 = .ok (.getfield 14, 3) := by decide +kernel
theorem dX9_spread_50 : decode cX9_spread 50 = .ok (.iload 4, 2) := by decide +kernel
theorem dX9_spread_52 : decode cX9_spread 52 = .ok (.invokevirtual 37, 3) := by decide +kernel
theorem dX9_spread_55 : decode cX9_spread 55 = .ok (.iconst 1, 1) := by decide +kernel
theorem dX9_spread_56 : decode cX9_spread 56 = .ok (.iadd, 1) := by decide +kernel
theorem dX9_spread_57 : decode cX9_spread 57 = .ok (.istore 5, 2) := by decide +kernel
theorem dX9_spread_59 : decode cX9_spread 59 = .ok (.iconst 0, 1) := by decide +kernel
theorem dX9_spread_60 : decode cX9_spread 60 = .ok (.istore 6, 2) := by decide +kernel
theorem dX9_spread_62 : decode cX9_spread 62 = .ok (.iload 6, 2) := by decide +kernel
theorem dX9_spread_64 : decode cX9_spread 64 = .ok (.iconst 4, 1) := by decide +kernel
theorem dX9_spread_65 : decode cX9_spread 65 = .ok (.if_icmp .ge 38, 3) := by decide +kernel
theorem dX9_spread_68 : decode cX9_spread 68 = .ok (.aload_n 1, 1) := by decide +kernel
theorem dX9_spread_69 : decode cX9_spread 69 = .ok (.iload 4, 2) := by decide +kernel
theorem dX9_spread_71 : decode cX9_spread 71 = .ok (.iload 6, 2) := by decide +kernel
theorem dX9_spread_73 : decode cX9_spread 73 = .ok (.invokevirtual 41, 3) := by decide +kernel
theorem dX9_spread_76 : decode cX9_spread 76 = .ok (.ifCond .eq 21, 3) := by decide +kernel
theorem dX9_spread_79 : decode cX9_spread 79 = .ok (.aload_n 0, 1) := by decide +kernel
theorem dX9_spread_80 : decode cX9_spread 80 = .ok (.iload 4, 2) := by decide +kernel
theorem dX9_spread_82 : decode cX9_spread 82 = .ok (.aload_n 1, 1) := by decide +kernel
theorem dX9_spread_83 : decode cX9_spread 83 = .ok (.getfield 47, 3) := by decide +kernel
theorem dX9_spread_86 : decode cX9_spread 86 = .ok (.iload 6, 2) := by decide +kernel
theorem dX9_spread_88 : decode cX9_spread 88 = .ok (.invokevirtual 51, 3) := by decide +kernel
theorem dX9_spread_91 : decode cX9_spread 91 = .ok (.iadd, 1) := by decide +kernel
theorem dX9_spread_92 : decode cX9_spread 92 = .ok (.iload 5, 2) := by decide +kernel
theorem dX9_spread_94 : decode cX9_spread 94 = .ok (.invokevirtual 33, 3) := by decide +kernel
theorem dX9_spread_97 : decode cX9_spread 97 = .ok (.iinc 6 1, 3) := by decide +kernel
theorem dX9_spread_100 : decode cX9_spread 100 = .ok (.goto (-38), 3) := by decide +kernel
theorem dX9_spread_103 : decode cX9_spread 103 = .ok (.iinc 3 1, 3) := by decide +kernel
theorem dX9_spread_106 : decode cX9_spread 106 = .ok (.goto (-85), 3) := by decide +kernel
theorem dX9_spread_109 : decode cX9_spread 109 = .ok (.return_, 1) := by decide +kernel
set_option maxRecDepth 20000 in
theorem ggX9_reach_X4_at : GoodIn wsX9_reach wsX4_at := goodIn_r _ [8, 9, 21] (by decide +kernel) (by decide +kernel)
set_option maxRecDepth 20000 in
theorem gX9_reach_X4_at : GoodIn wsX9_reach (wsV RX9 37 RX4 yX4_at wsX4_at) := goodIn_app (goodIn_of _ (by decide +kernel)) ggX9_reach_X4_at
set_option maxRecDepth 20000 in
theorem ggX9_reach_X4_put : GoodIn wsX9_reach wsX4_put := goodIn_r _ [13, 9, 21] (by decide +kernel) (by decide +kernel)
set_option maxRecDepth 20000 in
theorem gX9_reach_X4_put : GoodIn wsX9_reach (wsV RX9 56 RX4 yX4_put wsX4_put) := goodIn_app (goodIn_of _ (by decide +kernel)) ggX9_reach_X4_put
theorem dX9_reach_0 : decode cX9_reach 0 = .ok (.aload_n 0, 1) := by decide +kernel
theorem dX9_reach_1 : decode cX9_reach 1 = .ok (.getfield 14, 3) := by decide +kernel
theorem dX9_reach_4 : decode cX9_reach 4 = .ok (.iload_n 1, 1) := by decide +kernel
theorem dX9_reach_5 : decode cX9_reach 5 = .ok (.invokevirtual 37, 3) := by decide +kernel
theorem dX9_reach_8 : decode cX9_reach 8 = .ok (.iconst (-1), 1) := by decide +kernel
theorem dX9_reach_9 : decode cX9_reach 9 = .ok (.if_icmp .ne 34, 3) := by decide +kernel
theorem dX9_reach_12 : decode cX9_reach 12 = .ok (.aload_n 0, 1) := by decide +kernel
theorem dX9_reach_13 : decode cX9_reach 13 = .ok (.getfield 14, 3) := by decide +kernel
theorem dX9_reach_16 : decode cX9_reach 16 = .ok (.iload_n 1, 1) := by decide +kernel
theorem dX9_reach_17 : decode cX9_reach 17 = .ok (.iload_n 2, 1) := by decide +kernel
theorem dX9_reach_18 : decode cX9_reach 18 = .ok (.invokevirtual 56, 3) := by decide +kernel
theorem dX9_reach_21 : decode cX9_reach 21 = .ok (.aload_n 0, 1) := by decide +kernel
theorem dX9_reach_22 : decode cX9_reach 22 = .ok (.getfield 23, 3) := by decide +kernel
theorem dX9_reach_25 : decode cX9_reach 25 = .ok (.aload_n 0, 1) := by decide +kernel
theorem dX9_reach_26 : decode cX9_reach 26 = .ok (.getfield 29, 3) := by decide +kernel
theorem dX9_reach_29 : decode cX9_reach 29 = .ok (.iload_n 1, 1) := by decide +kernel
theorem dX9_reach_30 : decode cX9_reach 30 = .ok (.invokevirtual 56, 3) := by decide +kernel
theorem dX9_reach_33 : decode cX9_reach 33 = .ok (.aload_n 0, 1) := by decide +kernel
theorem dX9_reach_34 : decode cX9_reach 34 = .ok (.dup, 1) := by decide +kernel
theorem dX9_reach_35 : decode cX9_reach 35 = .ok (.getfield 29, 3) := by decide +kernel
theorem dX9_reach_38 : decode cX9_reach 38 = .ok (.iconst 1, 1) := by decide +kernel
theorem dX9_reach_39 : decode cX9_reach 39 = .ok (.iadd, 1) := by decide +kernel
theorem dX9_reach_40 : decode cX9_reach 40 = .ok (.putfield 29, 3) := by decide +kernel
theorem dX9_reach_43 : decode cX9_reach 43 = .ok (.return_, 1) := by decide +kernel
set_option maxRecDepth 20000 in
theorem ggX9_findParts_X4_fill : GoodIn wsX9_findParts wsX4_fill := goodIn_r _ [9, 10, 11, 12, 13, 14, 62] (by decide +kernel) (by decide +kernel)
set_option maxRecDepth 20000 in
theorem gX9_findParts_X4_fill : GoodIn wsX9_findParts (wsV RX9 26 RX4 yX4_fill wsX4_fill) := goodIn_app (goodIn_of _ (by decide +kernel)) ggX9_findParts_X4_fill
set_option maxRecDepth 20000 in
theorem ggX9_findParts_X5_holds : GoodIn wsX9_findParts wsX5_holds := goodIn_r _ [19, 20, 21, 22, 23, 8, 24, 10, 63, 64, 65, 66, 67, 68, 62] (by decide +kernel) (by decide +kernel)
set_option maxRecDepth 20000 in
theorem gX9_findParts_X5_holds : GoodIn wsX9_findParts (wsV RX9 59 RX5 yX5_holds wsX5_holds) := goodIn_app (goodIn_of _ (by decide +kernel)) ggX9_findParts_X5_holds
set_option maxRecDepth 20000 in
theorem ggX9_findParts_X4_at : GoodIn wsX9_findParts wsX4_at := goodIn_r _ [24, 10, 62] (by decide +kernel) (by decide +kernel)
set_option maxRecDepth 20000 in
theorem gX9_findParts_X4_at : GoodIn wsX9_findParts (wsV RX9 37 RX4 yX4_at wsX4_at) := goodIn_app (goodIn_of _ (by decide +kernel)) ggX9_findParts_X4_at
set_option maxRecDepth 20000 in
theorem ggX9_findParts_X9_spread : GoodIn wsX9_findParts wsX9_spread := goodIn_r _ [30, 31, 3, 4, 2, 5, 6, 7, 8, 9, 10, 11, 12, 13, 14, 32, 33, 34, 29, 35, 25, 22, 23, 24, 36, 37, 38, 39, 40, 41, 42, 43, 44, 45, 46, 47, 48, 49, 50, 18, 51, 52, 53, 54, 55, 56, 57, 58, 59, 60, 61, 62, 69, 70, 71, 72, 73, 74, 63, 64, 65, 66, 67, 68] (by decide +kernel) (by decide +kernel)
set_option maxRecDepth 20000 in
theorem gX9_findParts_X9_spread : GoodIn wsX9_findParts (wsV RX9 63 RX9 yX9_spread wsX9_spread) := goodIn_app (goodIn_of _ (by decide +kernel)) ggX9_findParts_X9_spread
set_option maxRecDepth 20000 in
theorem ggX9_findParts_X4_put : GoodIn wsX9_findParts wsX4_put := goodIn_r _ [39, 10, 62] (by decide +kernel) (by decide +kernel)
set_option maxRecDepth 20000 in
theorem gX9_findParts_X4_put : GoodIn wsX9_findParts (wsV RX9 56 RX4 yX4_put wsX4_put) := goodIn_app (goodIn_of _ (by decide +kernel)) ggX9_findParts_X4_put
theorem dX9_findParts_0 : decode cX9_findParts 0 = .ok (.aload_n 0, 1) := by decide +kernel
theorem dX9_findParts_1 : decode cX9_findParts 1 = .ok (.getfield 20, 3) := by decide +kernel
theorem dX9_findParts_4 : decode cX9_findParts 4 = .ok (.iconst (-1), 1) := by decide +kernel
theorem dX9_findParts_5 : decode cX9_findParts 5 = .ok (.invokevirtual 26, 3) := by decide +kernel
theorem dX9_findParts_8 : decode cX9_findParts 8 = .ok (.iconst 0, 1) := by decide +kernel
theorem dX9_findParts_9 : decode cX9_findParts 9 = .ok (.istore_n 2, 1) := by decide +kernel
theorem dX9_findParts_10 : decode cX9_findParts 10 = .ok (.iconst 0, 1) := by decide +kernel
theorem dX9_findParts_11 : decode cX9_findParts 11 = .ok (.istore_n 3, 1) := by decide +kernel
theorem dX9_findParts_12 : decode cX9_findParts 12 = .ok (.iload_n 3, 1) := by decide +kernel
theorem dX9_findParts_13 : decode cX9_findParts 13 = .ok (.sipush 210, 3) := by decide +kernel
theorem dX9_findParts_16 : decode cX9_findParts 16 = .ok (.if_icmp .ge 84, 3) := by decide +kernel
theorem dX9_findParts_19 : decode cX9_findParts 19 = .ok (.aload_n 1, 1) := by decide +kernel
theorem dX9_findParts_20 : decode cX9_findParts 20 = .ok (.getfield 47, 3) := by decide +kernel
theorem dX9_findParts_23 : decode cX9_findParts 23 = .ok (.iload_n 3, 1) := by decide +kernel
theorem dX9_findParts_24 : decode cX9_findParts 24 = .ok (.invokevirtual 59, 3) := by decide +kernel
theorem dX9_findParts_27 : decode cX9_findParts 27 = .ok (.ifCond .eq 67, 3) := by decide +kernel
theorem dX9_findParts_30 : decode cX9_findParts 30 = .ok (.aload_n 0, 1) := by decide +kernel
theorem dX9_findParts_31 : decode cX9_findParts 31 = .ok (.getfield 20, 3) := by decide +kernel
theorem dX9_findParts_34 : decode cX9_findParts 34 = .ok (.iload_n 3, 1) := by decide +kernel
theorem dX9_findParts_35 : decode cX9_findParts 35 = .ok (.invokevirtual 37, 3) := by decide +kernel
theorem dX9_findParts_38 : decode cX9_findParts 38 = .ok (.iconst (-1), 1) := by decide +kernel
theorem dX9_findParts_39 : decode cX9_findParts 39 = .ok (.if_icmp .ne 55, 3) := by decide +kernel
theorem dX9_findParts_42 : decode cX9_findParts 42 = .ok (.aload_n 0, 1) := by decide +kernel
theorem dX9_findParts_43 : decode cX9_findParts 43 = .ok (.aload_n 1, 1) := by decide +kernel
theorem dX9_findParts_44 : decode cX9_findParts 44 = .ok (.iload_n 3, 1) := by decide +kernel
theorem dX9_findParts_45 : decode cX9_findParts 45 = .ok (.invokevirtual 63, 3) := by decide +kernel
theorem dX9_findParts_48 : decode cX9_findParts 48 = .ok (.iconst 0, 1) := by decide +kernel
theorem dX9_findParts_49 : decode cX9_findParts 49 = .ok (.istore 4, 2) := by decide +kernel
theorem dX9_findParts_51 : decode cX9_findParts 51 = .ok (.iload 4, 2) := by decide +kernel
theorem dX9_findParts_53 : decode cX9_findParts 53 = .ok (.aload_n 0, 1) := by decide +kernel
theorem dX9_findParts_54 : decode cX9_findParts 54 = .ok (.getfield 29, 3) := by decide +kernel
theorem dX9_findParts_57 : decode cX9_findParts 57 = .ok (.if_icmp .ge 34, 3) := by decide +kernel
theorem dX9_findParts_60 : decode cX9_findParts 60 = .ok (.iload 4, 2) := by decide +kernel
theorem dX9_findParts_62 : decode cX9_findParts 62 = .ok (.sipush 210, 3) := by decide +kernel
theorem dX9_findParts_65 : decode cX9_findParts 65 = .ok (.if_icmp .ge 26, 3) := by decide +kernel
theorem dX9_findParts_68 : decode cX9_findParts 68 = .ok (.aload_n 0, 1) := by decide +kernel
theorem dX9_findParts_69 : decode cX9_findParts 69 = .ok (.getfield 20, 3) := by decide +kernel
theorem dX9_findParts_72 : decode cX9_findParts 72 = .ok (.aload_n 0, 1) := by decide +kernel
theorem dX9_findParts_73 : decode cX9_findParts 73 = .ok (.getfield 23, 3) := by decide +kernel
theorem dX9_findParts_76 : decode cX9_findParts 76 = .ok (.iload 4, 2) := by decide +kernel
theorem dX9_findParts_78 : decode cX9_findParts 78 = .ok (.invokevirtual 37, 3) := by decide +kernel
theorem dX9_findParts_81 : decode cX9_findParts 81 = .ok (.iload_n 2, 1) := by decide +kernel
theorem dX9_findParts_82 : decode cX9_findParts 82 = .ok (.invokevirtual 56, 3) := by decide +kernel
theorem dX9_findParts_85 : decode cX9_findParts 85 = .ok (.iinc 4 1, 3) := by decide +kernel
theorem dX9_findParts_88 : decode cX9_findParts 88 = .ok (.goto (-37), 3) := by decide +kernel
theorem dX9_findParts_91 : decode cX9_findParts 91 = .ok (.iinc 2 1, 3) := by decide +kernel
theorem dX9_findParts_94 : decode cX9_findParts 94 = .ok (.iinc 3 1, 3) := by decide +kernel
theorem dX9_findParts_97 : decode cX9_findParts 97 = .ok (.goto (-85), 3) := by decide +kernel
theorem dX9_findParts_100 : decode cX9_findParts 100 = .ok (.iload_n 2, 1) := by decide +kernel
theorem dX9_findParts_101 : decode cX9_findParts 101 = .ok (.ireturn, 1) := by decide +kernel
set_option maxRecDepth 20000 in
theorem ggX9_loopCount_X1_openCount : GoodIn wsX9_loopCount wsX1_openCount := goodIn_r _ [7, 8, 9, 10, 6, 11, 12, 13, 14, 15, 16, 17, 18, 19, 20, 21, 22, 23, 24, 25, 26, 73, 74, 81, 82, 83, 84, 85, 86, 87] (by decide +kernel) (by decide +kernel)
set_option maxRecDepth 20000 in
theorem gX9_loopCount_X1_openCount : GoodIn wsX9_loopCount (wsV RX9 67 RX1 yX1_openCount wsX1_openCount) := goodIn_app (goodIn_of _ (by decide +kernel)) ggX9_loopCount_X1_openCount
set_option maxRecDepth 20000 in
theorem ggX9_loopCount_X9_findParts : GoodIn wsX9_loopCount wsX9_findParts := goodIn_r _ [31, 32, 1, 33, 34, 35, 36, 37, 17, 38, 19, 39, 40, 41, 42, 43, 44, 45, 46, 47, 48, 49, 15, 16, 18, 50, 51, 52, 53, 30, 54, 55, 56, 57, 58, 59, 60, 61, 62, 63, 64, 65, 66, 6, 67, 12, 13, 14, 68, 69, 70, 71, 72, 88, 89, 90, 91, 92, 93, 94, 73, 74, 87, 75, 76, 77, 78, 79, 80, 81, 82, 83, 84, 85, 86] (by decide +kernel) (by decide +kernel)
set_option maxRecDepth 20000 in
theorem gX9_loopCount_X9_findParts : GoodIn wsX9_loopCount (wsV RX9 74 RX9 yX9_findParts wsX9_findParts) := goodIn_app (goodIn_of _ (by decide +kernel)) ggX9_loopCount_X9_findParts
theorem dX9_loopCount_0 : decode cX9_loopCount 0 = .ok (.aload_n 1, 1) := by decide +kernel
theorem dX9_loopCount_1 : decode cX9_loopCount 1 = .ok (.invokevirtual 67, 3) := by decide +kernel
theorem dX9_loopCount_4 : decode cX9_loopCount 4 = .ok (.aload_n 1, 1) := by decide +kernel
theorem dX9_loopCount_5 : decode cX9_loopCount 5 = .ok (.getfield 47, 3) := by decide +kernel
theorem dX9_loopCount_8 : decode cX9_loopCount 8 = .ok (.getfield 71, 3) := by decide +kernel
theorem dX9_loopCount_11 : decode cX9_loopCount 11 = .ok (.isub, 1) := by decide +kernel
theorem dX9_loopCount_12 : decode cX9_loopCount 12 = .ok (.aload_n 0, 1) := by decide +kernel
theorem dX9_loopCount_13 : decode cX9_loopCount 13 = .ok (.aload_n 1, 1) := by decide +kernel
theorem dX9_loopCount_14 : decode cX9_loopCount 14 = .ok (.invokevirtual 74, 3) := by decide +kernel
theorem dX9_loopCount_17 : decode cX9_loopCount 17 = .ok (.iadd, 1) := by decide +kernel
theorem dX9_loopCount_18 : decode cX9_loopCount 18 = .ok (.ireturn, 1) := by decide +kernel
set_option maxRecDepth 20000 in
theorem ggX9_isSingle_X9_loopCount : GoodIn wsX9_isSingle wsX9_loopCount := goodIn_r _ [5, 6, 7, 8, 9, 10, 11, 12, 13, 14, 15, 16, 17, 18, 19, 20, 21, 22, 23, 24, 25, 26, 27, 28, 29, 30, 31, 32, 33, 34, 4, 35, 36, 37, 38, 39, 40, 41, 42, 43, 44, 45, 46, 47, 48, 49, 50, 51, 52, 53, 54, 55, 56, 57, 58, 59, 60, 61, 62, 63, 64, 65, 66, 67, 68, 69, 70, 71, 72, 73, 74, 75, 76, 77, 78, 79, 80, 81, 82, 83, 84, 85, 86, 87, 88, 89, 90, 91, 92, 93, 94, 95, 96, 97, 98] (by decide +kernel) (by decide +kernel)
set_option maxRecDepth 20000 in
theorem gX9_isSingle_X9_loopCount : GoodIn wsX9_isSingle (wsV RX9 78 RX9 yX9_loopCount wsX9_loopCount) := goodIn_app (goodIn_of _ (by decide +kernel)) ggX9_isSingle_X9_loopCount
set_option maxRecDepth 20000 in
theorem ggX9_isSingle_X9_findParts : GoodIn wsX9_isSingle wsX9_findParts := goodIn_r _ [35, 36, 6, 37, 38, 39, 40, 41, 22, 42, 24, 43, 44, 45, 46, 47, 48, 49, 50, 51, 52, 53, 20, 21, 23, 54, 55, 56, 57, 4, 58, 59, 60, 61, 62, 63, 64, 65, 66, 67, 68, 69, 70, 11, 71, 17, 18, 19, 72, 73, 74, 75, 76, 92, 93, 94, 95, 96, 97, 98, 77, 78, 91, 79, 80, 81, 82, 83, 84, 85, 86, 87, 88, 89, 90] (by decide +kernel) (by decide +kernel)
set_option maxRecDepth 20000 in
theorem gX9_isSingle_X9_findParts : GoodIn wsX9_isSingle (wsV RX9 74 RX9 yX9_findParts wsX9_findParts) := goodIn_app (goodIn_of _ (by decide +kernel)) ggX9_isSingle_X9_findParts
theorem dX9_isSingle_0 : decode cX9_isSingle 0 = .ok (.aload_n 0, 1) := by decide +kernel
theorem dX9_isSingle_1 : decode cX9_isSingle 1 = .ok (.aload_n 1, 1) := by decide +kernel
theorem dX9_isSingle_2 : decode cX9_isSingle 2 = .ok (.invokevirtual 78, 3) := by decide +kernel
theorem dX9_isSingle_5 : decode cX9_isSingle 5 = .ok (.ifCond .ne 16, 3) := by decide +kernel
theorem dX9_isSingle_8 : decode cX9_isSingle 8 = .ok (.aload_n 0, 1) := by decide +kernel
theorem dX9_isSingle_9 : decode cX9_isSingle 9 = .ok (.aload_n 1, 1) := by decide +kernel
theorem dX9_isSingle_10 : decode cX9_isSingle 10 = .ok (.invokevirtual 74, 3) := by decide +kernel
theorem dX9_isSingle_13 : decode cX9_isSingle 13 = .ok (.iconst 1, 1) := by decide +kernel
theorem dX9_isSingle_14 : decode cX9_isSingle 14 = .ok (.if_icmp .ne 7, 3) := by decide +kernel
theorem dX9_isSingle_17 : decode cX9_isSingle 17 = .ok (.iconst 1, 1) := by decide +kernel
theorem dX9_isSingle_18 : decode cX9_isSingle 18 = .ok (.goto 4, 3) := by decide +kernel
theorem dX9_isSingle_21 : decode cX9_isSingle 21 = .ok (.iconst 0, 1) := by decide +kernel
theorem dX9_isSingle_22 : decode cX9_isSingle 22 = .ok (.ireturn, 1) := by decide +kernel
set_option maxRecDepth 20000 in
theorem ggX9_firstDirection_X4_at : GoodIn wsX9_firstDirection wsX4_at := goodIn_r _ [7, 8, 32] (by decide +kernel) (by decide +kernel)
set_option maxRecDepth 20000 in
theorem gX9_firstDirection_X4_at : GoodIn wsX9_firstDirection (wsV RX9 37 RX4 yX4_at wsX4_at) := goodIn_app (goodIn_of _ (by decide +kernel)) ggX9_firstDirection_X4_at
set_option maxRecDepth 20000 in
theorem ggX9_firstDirection_X1_isOpen : GoodIn wsX9_firstDirection wsX1_isOpen := goodIn_r _ [13, 14, 15, 16, 4, 5, 6, 7, 8, 30, 31, 33, 34, 35, 36, 37, 38, 32] (by decide +kernel) (by decide +kernel)
set_option maxRecDepth 20000 in
theorem gX9_firstDirection_X1_isOpen : GoodIn wsX9_firstDirection (wsV RX9 41 RX1 yX1_isOpen wsX1_isOpen) := goodIn_app (goodIn_of _ (by decide +kernel)) ggX9_firstDirection_X1_isOpen
set_option maxRecDepth 20000 in
theorem ggX9_firstDirection_X5_stride : GoodIn wsX9_firstDirection wsX5_stride := goodIn_r _ [21, 22, 39, 40, 41, 42, 43, 44] (by decide +kernel) (by decide +kernel)
set_option maxRecDepth 20000 in
theorem gX9_firstDirection_X5_stride : GoodIn wsX9_firstDirection (wsV RX9 51 RX5 yX5_stride wsX5_stride) := goodIn_app (goodIn_of _ (by decide +kernel)) ggX9_firstDirection_X5_stride
theorem dX9_firstDirection_0 : decode cX9_firstDirection 0 = .ok (.aload_n 0, 1) := by decide +kernel
theorem dX9_firstDirection_1 : decode cX9_firstDirection 1 = .ok (.getfield 14, 3) := by decide +kernel
theorem dX9_firstDirection_4 : decode cX9_firstDirection 4 = .ok (.iload_n 2, 1) := by decide +kernel
theorem dX9_firstDirection_5 : decode cX9_firstDirection 5 = .ok (.invokevirtual 37, 3) := by decide +kernel
theorem dX9_firstDirection_8 : decode cX9_firstDirection 8 = .ok (.iconst 1, 1) := by decide +kernel
theorem dX9_firstDirection_9 : decode cX9_firstDirection 9 = .ok (.isub, 1) := by decide +kernel
theorem dX9_firstDirection_10 : decode cX9_firstDirection 10 = .ok (.istore_n 3, 1) := by decide +kernel
theorem dX9_firstDirection_11 : decode cX9_firstDirection 11 = .ok (.iload_n 3, 1) := by decide +kernel
theorem dX9_firstDirection_12 : decode cX9_firstDirection 12 = .ok (.ifCond .ge 5, 3) := by decide +kernel
theorem dX9_firstDirection_15 : decode cX9_firstDirection 15 = .ok (.iconst (-1), 1) := by decide +kernel
theorem dX9_firstDirection_16 : decode cX9_firstDirection 16 = .ok (.ireturn, 1) := by decide +kernel
theorem dX9_firstDirection_17 : decode cX9_firstDirection 17 = .ok (.iconst 0, 1) := by decide +kernel
theorem dX9_firstDirection_18 : decode cX9_firstDirection 18 = .ok (.istore 4, 2) := by decide +kernel
theorem dX9_firstDirection_20 : decode cX9_firstDirection 20 = .ok (.iload 4, 2) := by decide +kernel
theorem dX9_firstDirection_22 : decode cX9_firstDirection 22 = .ok (.iconst 4, 1) := by decide +kernel
theorem dX9_firstDirection_23 : decode cX9_firstDirection 23 = .ok (.if_icmp .ge 44, 3) := by decide +kernel
theorem dX9_firstDirection_26 : decode cX9_firstDirection 26 = .ok (.aload_n 1, 1) := by decide +kernel
theorem dX9_firstDirection_27 : decode cX9_firstDirection 27 = .ok (.iload_n 2, 1) := by decide +kernel
theorem dX9_firstDirection_28 : decode cX9_firstDirection 28 = .ok (.iload 4, 2) := by decide +kernel
theorem dX9_firstDirection_30 : decode cX9_firstDirection 30 = .ok (.invokevirtual 41, 3) := by decide +kernel
theorem dX9_firstDirection_33 : decode cX9_firstDirection 33 = .ok (.ifCond .eq 28, 3) := by decide +kernel
theorem dX9_firstDirection_36 : decode cX9_firstDirection 36 = .ok (.aload_n 0, 1) := by decide +kernel
theorem dX9_firstDirection_37 : decode cX9_firstDirection 37 = .ok (.getfield 14, 3) := by decide +kernel
theorem dX9_firstDirection_40 : decode cX9_firstDirection 40 = .ok (.iload_n 2, 1) := by decide +kernel
theorem dX9_firstDirection_41 : decode cX9_firstDirection 41 = .ok (.aload_n 1, 1) := by decide +kernel
theorem dX9_firstDirection_42 : decode cX9_firstDirection 42 = .ok (.getfield 47, 3) := by decide +kernel
theorem dX9_firstDirection_45 : decode cX9_firstDirection 45 = .ok (.iload 4, 2) := by decide +kernel
theorem dX9_firstDirection_47 : decode cX9_firstDirection 47 = .ok (.invokevirtual 51, 3) := by decide +kernel
theorem dX9_firstDirection_50 : decode cX9_firstDirection 50 = .ok (.iadd, 1) := by decide +kernel
theorem dX9_firstDirection_51 : decode cX9_firstDirection 51 = .ok (.invokevirtual 37, 3) := by decide +kernel
theorem dX9_firstDirection_54 : decode cX9_firstDirection 54 = .ok (.iload_n 3, 1) := by decide +kernel
theorem dX9_firstDirection_55 : decode cX9_firstDirection 55 = .ok (.if_icmp .ne 6, 3) := by decide +kernel
theorem dX9_firstDirection_58 : decode cX9_firstDirection 58 = .ok (.iload 4, 2) := by decide +kernel
theorem dX9_firstDirection_60 : decode cX9_firstDirection 60 = .ok (.ireturn, 1) := by decide +kernel
theorem dX9_firstDirection_61 : decode cX9_firstDirection 61 = .ok (.iinc 4 1, 3) := by decide +kernel
theorem dX9_firstDirection_64 : decode cX9_firstDirection 64 = .ok (.goto (-44), 3) := by decide +kernel
theorem dX9_firstDirection_67 : decode cX9_firstDirection 67 = .ok (.iconst (-1), 1) := by decide +kernel
theorem dX9_firstDirection_68 : decode cX9_firstDirection 68 = .ok (.ireturn, 1) := by decide +kernel
set_option maxRecDepth 20000 in
theorem ggX9_nextRoom_X9_firstDirection : GoodIn wsX9_nextRoom wsX9_firstDirection := goodIn_r _ [6, 7, 1, 8, 9, 10, 11, 12, 13, 14, 15, 16, 17, 18, 19, 20, 21, 22, 23, 24, 25, 26, 27, 30, 31, 32, 33, 34, 35, 36, 28, 29, 37, 38, 39, 40, 41, 42, 43, 44, 45, 46, 47, 48, 49] (by decide +kernel) (by decide +kernel)
set_option maxRecDepth 20000 in
theorem gX9_nextRoom_X9_firstDirection : GoodIn wsX9_nextRoom (wsV RX9 81 RX9 yX9_firstDirection wsX9_firstDirection) := goodIn_app (goodIn_of _ (by decide +kernel)) ggX9_nextRoom_X9_firstDirection
set_option maxRecDepth 20000 in
theorem ggX9_nextRoom_X5_stride : GoodIn wsX9_nextRoom wsX5_stride := goodIn_r _ [26, 27, 44, 45, 46, 47, 48, 49] (by decide +kernel) (by decide +kernel)
set_option maxRecDepth 20000 in
theorem gX9_nextRoom_X5_stride : GoodIn wsX9_nextRoom (wsV RX9 51 RX5 yX5_stride wsX5_stride) := goodIn_app (goodIn_of _ (by decide +kernel)) ggX9_nextRoom_X5_stride
theorem dX9_nextRoom_0 : decode cX9_nextRoom 0 = .ok (.aload_n 0, 1) := by decide +kernel
theorem dX9_nextRoom_1 : decode cX9_nextRoom 1 = .ok (.aload_n 1, 1) := by decide +kernel
theorem dX9_nextRoom_2 : decode cX9_nextRoom 2 = .ok (.iload_n 2, 1) := by decide +kernel
theorem dX9_nextRoom_3 : decode cX9_nextRoom 3 = .ok (.invokevirtual 81, 3) := by decide +kernel
theorem dX9_nextRoom_6 : decode cX9_nextRoom 6 = .ok (.istore_n 3, 1) := by decide +kernel
theorem dX9_nextRoom_7 : decode cX9_nextRoom 7 = .ok (.iload_n 3, 1) := by decide +kernel
theorem dX9_nextRoom_8 : decode cX9_nextRoom 8 = .ok (.iconst (-1), 1) := by decide +kernel
theorem dX9_nextRoom_9 : decode cX9_nextRoom 9 = .ok (.if_icmp .ne 7, 3) := by decide +kernel
theorem dX9_nextRoom_12 : decode cX9_nextRoom 12 = .ok (.iload_n 2, 1) := by decide +kernel
theorem dX9_nextRoom_13 : decode cX9_nextRoom 13 = .ok (.goto 13, 3) := by decide +kernel
theorem dX9_nextRoom_16 : decode cX9_nextRoom 16 = .ok (.iload_n 2, 1) := by decide +kernel
theorem dX9_nextRoom_17 : decode cX9_nextRoom 17 = .ok (.aload_n 1, 1) := by decide +kernel
theorem dX9_nextRoom_18 : decode cX9_nextRoom 18 = .ok (.getfield 47, 3) := by decide +kernel
theorem dX9_nextRoom_21 : decode cX9_nextRoom 21 = .ok (.iload_n 3, 1) := by decide +kernel
theorem dX9_nextRoom_22 : decode cX9_nextRoom 22 = .ok (.invokevirtual 51, 3) := by decide +kernel
theorem dX9_nextRoom_25 : decode cX9_nextRoom 25 = .ok (.iadd, 1) := by decide +kernel
theorem dX9_nextRoom_26 : decode cX9_nextRoom 26 = .ok (.ireturn, 1) := by decide +kernel
set_option maxRecDepth 20000 in
theorem ggX9_roomAhead_X9_nextRoom : GoodIn wsX9_roomAhead wsX9_nextRoom := goodIn_r _ [5, 6, 7, 8, 9, 4, 10, 11, 12, 13, 14, 15, 16, 17, 18, 19, 20, 21, 22, 23, 24, 25, 26, 27, 28, 29, 30, 31, 32, 33, 34, 35, 36, 37, 38, 39, 40, 41, 42, 43, 44, 45, 46, 47, 48, 49, 50, 51, 52, 53] (by decide +kernel) (by decide +kernel)
set_option maxRecDepth 20000 in
theorem gX9_roomAhead_X9_nextRoom : GoodIn wsX9_roomAhead (wsV RX9 85 RX9 yX9_nextRoom wsX9_nextRoom) := goodIn_app (goodIn_of _ (by decide +kernel)) ggX9_roomAhead_X9_nextRoom
theorem dX9_roomAhead_0 : decode cX9_roomAhead 0 = .ok (.iload_n 2, 1) := by decide +kernel
theorem dX9_roomAhead_1 : decode cX9_roomAhead 1 = .ok (.istore 4, 2) := by decide +kernel
theorem dX9_roomAhead_3 : decode cX9_roomAhead 3 = .ok (.iconst 0, 1) := by decide +kernel
theorem dX9_roomAhead_4 : decode cX9_roomAhead 4 = .ok (.istore 5, 2) := by decide +kernel
theorem dX9_roomAhead_6 : decode cX9_roomAhead 6 = .ok (.iload 5, 2) := by decide +kernel
theorem dX9_roomAhead_8 : decode cX9_roomAhead 8 = .ok (.iload_n 3, 1) := by decide +kernel
theorem dX9_roomAhead_9 : decode cX9_roomAhead 9 = .ok (.if_icmp .ge 26, 3) := by decide +kernel
theorem dX9_roomAhead_12 : decode cX9_roomAhead 12 = .ok (.iload 5, 2) := by decide +kernel
theorem dX9_roomAhead_14 : decode cX9_roomAhead 14 = .ok (.sipush 210, 3) := by decide +kernel
theorem dX9_roomAhead_17 : decode cX9_roomAhead 17 = .ok (.if_icmp .ge 18, 3) := by decide +kernel
theorem dX9_roomAhead_20 : decode cX9_roomAhead 20 = .ok (.aload_n 0, 1) := by decide +kernel
theorem dX9_roomAhead_21 : decode cX9_roomAhead 21 = .ok (.aload_n 1, 1) := by decide +kernel
theorem dX9_roomAhead_22 : decode cX9_roomAhead 22 = .ok (.iload 4, 2) := by decide +kernel
theorem dX9_roomAhead_24 : decode cX9_roomAhead 24 = .ok (.invokevirtual 85, 3) := by decide +kernel
theorem dX9_roomAhead_27 : decode cX9_roomAhead 27 = .ok (.istore 4, 2) := by decide +kernel
theorem dX9_roomAhead_29 : decode cX9_roomAhead 29 = .ok (.iinc 5 1, 3) := by decide +kernel
theorem dX9_roomAhead_32 : decode cX9_roomAhead 32 = .ok (.goto (-26), 3) := by decide +kernel
theorem dX9_roomAhead_35 : decode cX9_roomAhead 35 = .ok (.iload 4, 2) := by decide +kernel
theorem dX9_roomAhead_37 : decode cX9_roomAhead 37 = .ok (.ireturn, 1) := by decide +kernel
set_option maxRecDepth 20000 in
theorem ggX9_forksAhead_X4_at : GoodIn wsX9_forksAhead wsX4_at := goodIn_r _ [6, 7, 54] (by decide +kernel) (by decide +kernel)
set_option maxRecDepth 20000 in
theorem gX9_forksAhead_X4_at : GoodIn wsX9_forksAhead (wsV RX9 37 RX4 yX4_at wsX4_at) := goodIn_app (goodIn_of _ (by decide +kernel)) ggX9_forksAhead_X4_at
set_option maxRecDepth 20000 in
theorem ggX9_forksAhead_X1_isFork : GoodIn wsX9_forksAhead wsX1_isFork := goodIn_r _ [12, 13, 14, 15, 11, 16, 17, 18, 19, 3, 4, 5, 6, 7, 20, 21, 22, 23, 24, 25, 26, 55, 56, 57, 58, 59, 60, 61, 62, 54] (by decide +kernel) (by decide +kernel)
set_option maxRecDepth 20000 in
theorem gX9_forksAhead_X1_isFork : GoodIn wsX9_forksAhead (wsV RX9 88 RX1 yX1_isFork wsX1_isFork) := goodIn_app (goodIn_of _ (by decide +kernel)) ggX9_forksAhead_X1_isFork
set_option maxRecDepth 20000 in
theorem ggX9_forksAhead_X9_nextRoom : GoodIn wsX9_forksAhead wsX9_nextRoom := goodIn_r _ [31, 32, 33, 34, 35, 30, 36, 1, 2, 3, 4, 5, 6, 7, 37, 38, 39, 11, 40, 17, 18, 19, 41, 42, 43, 44, 45, 46, 55, 56, 47, 48, 49, 50, 51, 52, 53, 54, 57, 58, 59, 60, 61, 62, 63, 64, 65, 66, 67, 68] (by decide +kernel) (by decide +kernel)
set_option maxRecDepth 20000 in
theorem gX9_forksAhead_X9_nextRoom : GoodIn wsX9_forksAhead (wsV RX9 85 RX9 yX9_nextRoom wsX9_nextRoom) := goodIn_app (goodIn_of _ (by decide +kernel)) ggX9_forksAhead_X9_nextRoom

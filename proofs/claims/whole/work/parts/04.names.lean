theorem dX11_grade_79 : decode cX11_grade 79 = .ok (.iload_n 2, 1) := by decide +kernel
theorem dX11_grade_80 : decode cX11_grade 80 = .ok (.if_icmp .eq 39, 3) := by decide +kernel
theorem dX11_grade_83 : decode cX11_grade 83 = .ok (.iload 4, 2) := by decide +kernel
theorem dX11_grade_85 : decode cX11_grade 85 = .ok (.aload_n 0, 1) := by decide +kernel
theorem dX11_grade_86 : decode cX11_grade 86 = .ok (.iload 5, 2) := by decide +kernel
theorem dX11_grade_88 : decode cX11_grade 88 = .ok (.invokevirtual 130, 3) := by decide +kernel
theorem dX11_grade_91 : decode cX11_grade 91 = .ok (.ifCond .eq 7, 3) := by decide +kernel
theorem dX11_grade_94 : decode cX11_grade 94 = .ok (.iconst 1, 1) := by decide +kernel
theorem dX11_grade_95 : decode cX11_grade 95 = .ok (.goto 4, 3) := by decide +kernel
theorem dX11_grade_98 : decode cX11_grade 98 = .ok (.iconst 0, 1) := by decide +kernel
theorem dX11_grade_99 : decode cX11_grade 99 = .ok (.iadd, 1) := by decide +kernel
theorem dX11_grade_100 : decode cX11_grade 100 = .ok (.istore 4, 2) := by decide +kernel
theorem dX11_grade_102 : decode cX11_grade 102 = .ok (.aload_n 0, 1) := by decide +kernel
theorem dX11_grade_103 : decode cX11_grade 103 = .ok (.iload 5, 2) := by decide +kernel
theorem dX11_grade_105 : decode cX11_grade 105 = .ok (.aload_n 0, 1) := by decide +kernel
theorem dX11_grade_106 : decode cX11_grade 106 = .ok (.iload 5, 2) := by decide +kernel
theorem dX11_grade_108 : decode cX11_grade 108 = .ok (.invokevirtual 154, 3) := by decide +kernel
theorem dX11_grade_111 : decode cX11_grade 111 = .ok (.invokevirtual 80, 3) := by decide +kernel
theorem dX11_grade_114 : decode cX11_grade 114 = .ok (.istore 5, 2) := by decide +kernel
theorem dX11_grade_116 : decode cX11_grade 116 = .ok (.goto (-39), 3) := by decide +kernel
theorem dX11_grade_119 : decode cX11_grade 119 = .ok (.aload_n 0, 1) := by decide +kernel
theorem dX11_grade_120 : decode cX11_grade 120 = .ok (.getfield 25, 3) := by decide +kernel
theorem dX11_grade_123 : decode cX11_grade 123 = .ok (.iload_n 1, 1) := by decide +kernel
theorem dX11_grade_124 : decode cX11_grade 124 = .ok (.iaload, 1) := by decide +kernel
theorem dX11_grade_125 : decode cX11_grade 125 = .ok (.iconst 4, 1) := by decide +kernel
theorem dX11_grade_126 : decode cX11_grade 126 = .ok (.iload 4, 2) := by decide +kernel
theorem dX11_grade_128 : decode cX11_grade 128 = .ok (.imul, 1) := by decide +kernel
theorem dX11_grade_129 : decode cX11_grade 129 = .ok (.iadd, 1) := by decide +kernel
theorem dX11_grade_130 : decode cX11_grade 130 = .ok (.iload_n 3, 1) := by decide +kernel
theorem dX11_grade_131 : decode cX11_grade 131 = .ok (.aload_n 0, 1) := by decide +kernel
theorem dX11_grade_132 : decode cX11_grade 132 = .ok (.getfield 25, 3) := by decide +kernel
theorem dX11_grade_135 : decode cX11_grade 135 = .ok (.iload_n 1, 1) := by decide +kernel
theorem dX11_grade_136 : decode cX11_grade 136 = .ok (.iaload, 1) := by decide +kernel
theorem dX11_grade_137 : decode cX11_grade 137 = .ok (.isub, 1) := by decide +kernel
theorem dX11_grade_138 : decode cX11_grade 138 = .ok (.iconst 1, 1) := by decide +kernel
theorem dX11_grade_139 : decode cX11_grade 139 = .ok (.isub, 1) := by decide +kernel
theorem dX11_grade_140 : decode cX11_grade 140 = .ok (.iconst 2, 1) := by decide +kernel
theorem dX11_grade_141 : decode cX11_grade 141 = .ok (.idiv, 1) := by decide +kernel
theorem dX11_grade_142 : decode cX11_grade 142 = .ok (.iadd, 1) := by decide +kernel
theorem dX11_grade_143 : decode cX11_grade 143 = .ok (.bipush 10, 2) := by decide +kernel
theorem dX11_grade_145 : decode cX11_grade 145 = .ok (.idiv, 1) := by decide +kernel
theorem dX11_grade_146 : decode cX11_grade 146 = .ok (.istore 6, 2) := by decide +kernel
theorem dX11_grade_148 : decode cX11_grade 148 = .ok (.iload 6, 2) := by decide +kernel
theorem dX11_grade_150 : decode cX11_grade 150 = .ok (.bipush 9, 2) := by decide +kernel
theorem dX11_grade_152 : decode cX11_grade 152 = .ok (.if_icmp .le 8, 3) := by decide +kernel
theorem dX11_grade_155 : decode cX11_grade 155 = .ok (.bipush 9, 2) := by decide +kernel
theorem dX11_grade_157 : decode cX11_grade 157 = .ok (.goto 5, 3) := by decide +kernel
theorem dX11_grade_160 : decode cX11_grade 160 = .ok (.iload 6, 2) := by decide +kernel
theorem dX11_grade_162 : decode cX11_grade 162 = .ok (.ireturn, 1) := by decide +kernel
set_option maxRecDepth 20000 in
theorem ggX11_sign_X11_hasRoom : GoodIn wsX11_sign wsX11_hasRoom := goodIn_r _ [6, 7, 8, 9, 5, 10, 11, 12, 13, 14, 1, 15, 16, 17, 18, 19, 20, 21, 22, 23, 24, 25, 26, 27, 58, 59, 60, 61, 62, 63, 64, 65, 66, 67, 68, 69, 70, 71, 72, 73, 74] (by decide +kernel) (by decide +kernel)
set_option maxRecDepth 20000 in
theorem gX11_sign_X11_hasRoom : GoodIn wsX11_sign (wsV RX11 74 RX11 yX11_hasRoom wsX11_hasRoom) := goodIn_app (goodIn_of _ (by decide +kernel)) ggX11_sign_X11_hasRoom
set_option maxRecDepth 20000 in
theorem ggX11_sign_X11_in : GoodIn wsX11_sign wsX11_in := goodIn_r _ [17] (by decide +kernel) (by decide +kernel)
set_option maxRecDepth 20000 in
theorem gX11_sign_X11_in : GoodIn wsX11_sign (va_wsS RX11 57 yX11_in wsX11_in) := goodIn_app (goodIn_of _ (by decide +kernel)) ggX11_sign_X11_in
set_option maxRecDepth 20000 in
theorem ggX11_sign_X11_signs : GoodIn wsX11_sign wsX11_signs := goodIn_r _ [31, 1, 7, 8, 9, 5, 10, 11, 12, 13, 14, 32, 33, 34, 35, 18, 19, 20, 21, 22, 23, 24, 25, 26, 27, 36, 37, 38, 39, 40, 41, 42, 43, 44, 45, 46, 47, 2, 3, 4, 6, 15, 16, 17, 48, 49, 50, 51, 58, 59, 60, 61, 62, 63, 64, 65, 66, 67, 68, 69, 70, 71, 72, 73, 74] (by decide +kernel) (by decide +kernel)
set_option maxRecDepth 20000 in
theorem gX11_sign_X11_signs : GoodIn wsX11_sign (wsV RX11 140 RX11 yX11_signs wsX11_signs) := goodIn_app (goodIn_of _ (by decide +kernel)) ggX11_sign_X11_signs
set_option maxRecDepth 20000 in
theorem ggX11_sign_X11_records : GoodIn wsX11_sign wsX11_records := goodIn_r _ [55, 56, 57, 1, 58, 59, 60, 61, 62, 63, 64, 65, 66, 67, 68, 69, 70, 71, 72, 73, 74] (by decide +kernel) (by decide +kernel)
set_option maxRecDepth 20000 in
theorem gX11_sign_X11_records : GoodIn wsX11_sign (wsV RX11 68 RX11 yX11_records wsX11_records) := goodIn_app (goodIn_of _ (by decide +kernel)) ggX11_sign_X11_records
theorem dX11_sign_0 : decode cX11_sign 0 = .ok (.aload_n 0, 1) := by decide +kernel
theorem dX11_sign_1 : decode cX11_sign 1 = .ok (.iload_n 1, 1) := by decide +kernel
theorem dX11_sign_2 : decode cX11_sign 2 = .ok (.invokevirtual 74, 3) := by decide +kernel
theorem dX11_sign_5 : decode cX11_sign 5 = .ok (.ifCond .eq 30, 3) := by decide +kernel
theorem dX11_sign_8 : decode cX11_sign 8 = .ok (.iload_n 2, 1) := by decide +kernel
theorem dX11_sign_9 : decode cX11_sign 9 = .ok (.iconst 0, 1) := by decide +kernel
theorem dX11_sign_10 : decode cX11_sign 10 = .ok (.iconst 2, 1) := by decide +kernel
theorem dX11_sign_11 : decode cX11_sign 11 = .ok (.invokestatic 57, 3) := by decide +kernel
theorem dX11_sign_14 : decode cX11_sign 14 = .ok (.ifCond .eq 21, 3) := by decide +kernel
theorem dX11_sign_17 : decode cX11_sign 17 = .ok (.iload_n 3, 1) := by decide +kernel
theorem dX11_sign_18 : decode cX11_sign 18 = .ok (.iconst 0, 1) := by decide +kernel
theorem dX11_sign_19 : decode cX11_sign 19 = .ok (.iload_n 2, 1) := by decide +kernel
theorem dX11_sign_20 : decode cX11_sign 20 = .ok (.iconst 2, 1) := by decide +kernel
theorem dX11_sign_21 : decode cX11_sign 21 = .ok (.if_icmp .ne 7, 3) := by decide +kernel
theorem dX11_sign_24 : decode cX11_sign 24 = .ok (.iconst 3, 1) := by decide +kernel
theorem dX11_sign_25 : decode cX11_sign 25 = .ok (.goto 4, 3) := by decide +kernel
theorem dX11_sign_28 : decode cX11_sign 28 = .ok (.iconst 0, 1) := by decide +kernel
theorem dX11_sign_29 : decode cX11_sign 29 = .ok (.invokestatic 57, 3) := by decide +kernel
theorem dX11_sign_32 : decode cX11_sign 32 = .ok (.ifCond .ne 5, 3) := by decide +kernel
theorem dX11_sign_35 : decode cX11_sign 35 = .ok (.iconst (-1), 1) := by decide +kernel
theorem dX11_sign_36 : decode cX11_sign 36 = .ok (.ireturn, 1) := by decide +kernel
theorem dX11_sign_37 : decode cX11_sign 37 = .ok (.aload_n 0, 1) := by decide +kernel
theorem dX11_sign_38 : decode cX11_sign 38 = .ok (.getfield 7, 3) := by decide +kernel
theorem dX11_sign_41 : decode cX11_sign 41 = .ok (.sipush 429, 3) := by decide +kernel
theorem dX11_sign_44 : decode cX11_sign 44 = .ok (.iload_n 1, 1) := by decide +kernel
theorem dX11_sign_45 : decode cX11_sign 45 = .ok (.iadd, 1) := by decide +kernel
theorem dX11_sign_46 : decode cX11_sign 46 = .ok (.iaload, 1) := by decide +kernel
theorem dX11_sign_47 : decode cX11_sign 47 = .ok (.ifCond .ne 16, 3) := by decide +kernel
theorem dX11_sign_50 : decode cX11_sign 50 = .ok (.aload_n 0, 1) := by decide +kernel
theorem dX11_sign_51 : decode cX11_sign 51 = .ok (.iconst 0, 1) := by decide +kernel
theorem dX11_sign_52 : decode cX11_sign 52 = .ok (.invokevirtual 140, 3) := by decide +kernel
theorem dX11_sign_55 : decode cX11_sign 55 = .ok (.bipush 20, 2) := by decide +kernel
theorem dX11_sign_57 : decode cX11_sign 57 = .ok (.if_icmp .ne 6, 3) := by decide +kernel
theorem dX11_sign_60 : decode cX11_sign 60 = .ok (.bipush (-3), 2) := by decide +kernel
theorem dX11_sign_62 : decode cX11_sign 62 = .ok (.ireturn, 1) := by decide +kernel
theorem dX11_sign_63 : decode cX11_sign 63 = .ok (.aload_n 0, 1) := by decide +kernel
theorem dX11_sign_64 : decode cX11_sign 64 = .ok (.invokevirtual 68, 3) := by decide +kernel
theorem dX11_sign_67 : decode cX11_sign 67 = .ok (.aload_n 0, 1) := by decide +kernel
theorem dX11_sign_68 : decode cX11_sign 68 = .ok (.getfield 7, 3) := by decide +kernel
theorem dX11_sign_71 : decode cX11_sign 71 = .ok (.sipush 429, 3) := by decide +kernel
theorem dX11_sign_74 : decode cX11_sign 74 = .ok (.iload_n 1, 1) := by decide +kernel
theorem dX11_sign_75 : decode cX11_sign 75 = .ok (.iadd, 1) := by decide +kernel
theorem dX11_sign_76 : decode cX11_sign 76 = .ok (.iconst 1, 1) := by decide +kernel
theorem dX11_sign_77 : decode cX11_sign 77 = .ok (.iconst 4, 1) := by decide +kernel
theorem dX11_sign_78 : decode cX11_sign 78 = .ok (.iload_n 2, 1) := by decide +kernel
theorem dX11_sign_79 : decode cX11_sign 79 = .ok (.imul, 1) := by decide +kernel
theorem dX11_sign_80 : decode cX11_sign 80 = .ok (.iadd, 1) := by decide +kernel
theorem dX11_sign_81 : decode cX11_sign 81 = .ok (.iload_n 3, 1) := by decide +kernel
theorem dX11_sign_82 : decode cX11_sign 82 = .ok (.iadd, 1) := by decide +kernel
theorem dX11_sign_83 : decode cX11_sign 83 = .ok (.iastore, 1) := by decide +kernel
theorem dX11_sign_84 : decode cX11_sign 84 = .ok (.aload_n 0, 1) := by decide +kernel
theorem dX11_sign_85 : decode cX11_sign 85 = .ok (.iconst 0, 1) := by decide +kernel
theorem dX11_sign_86 : decode cX11_sign 86 = .ok (.invokevirtual 140, 3) := by decide +kernel
theorem dX11_sign_89 : decode cX11_sign 89 = .ok (.ireturn, 1) := by decide +kernel
set_option maxRecDepth 20000 in
theorem ggX11_unsign_X11_hasRoom : GoodIn wsX11_unsign wsX11_hasRoom := goodIn_r _ [6, 7, 8, 9, 5, 10, 11, 12, 13, 14, 1, 15, 16, 17, 18, 19, 20, 21, 22, 23, 24, 25, 26, 27, 34, 35, 36, 37, 38, 39, 40, 41, 42, 43, 44, 45, 46, 47, 48, 49, 50] (by decide +kernel) (by decide +kernel)
set_option maxRecDepth 20000 in
theorem gX11_unsign_X11_hasRoom : GoodIn wsX11_unsign (wsV RX11 74 RX11 yX11_hasRoom wsX11_hasRoom) := goodIn_app (goodIn_of _ (by decide +kernel)) ggX11_unsign_X11_hasRoom
set_option maxRecDepth 20000 in
theorem ggX11_unsign_X11_records : GoodIn wsX11_unsign wsX11_records := goodIn_r _ [31, 32, 33, 1, 34, 35, 36, 37, 38, 39, 40, 41, 42, 43, 44, 45, 46, 47, 48, 49, 50] (by decide +kernel) (by decide +kernel)
set_option maxRecDepth 20000 in
theorem gX11_unsign_X11_records : GoodIn wsX11_unsign (wsV RX11 68 RX11 yX11_records wsX11_records) := goodIn_app (goodIn_of _ (by decide +kernel)) ggX11_unsign_X11_records
theorem dX11_unsign_0 : decode cX11_unsign 0 = .ok (.aload_n 0, 1) := by decide +kernel
theorem dX11_unsign_1 : decode cX11_unsign 1 = .ok (.iload_n 1, 1) := by decide +kernel
theorem dX11_unsign_2 : decode cX11_unsign 2 = .ok (.invokevirtual 74, 3) := by decide +kernel
theorem dX11_unsign_5 : decode cX11_unsign 5 = .ok (.ifCond .ne 5, 3) := by decide +kernel
theorem dX11_unsign_8 : decode cX11_unsign 8 = .ok (.iconst (-1), 1) := by decide +kernel
theorem dX11_unsign_9 : decode cX11_unsign 9 = .ok (.ireturn, 1) := by decide +kernel
theorem dX11_unsign_10 : decode cX11_unsign 10 = .ok (.aload_n 0, 1) := by decide +kernel
theorem dX11_unsign_11 : decode cX11_unsign 11 = .ok (.getfield 7, 3) := by decide +kernel
theorem dX11_unsign_14 : decode cX11_unsign 14 = .ok (.sipush 429, 3) := by decide +kernel
theorem dX11_unsign_17 : decode cX11_unsign 17 = .ok (.iload_n 1, 1) := by decide +kernel
theorem dX11_unsign_18 : decode cX11_unsign 18 = .ok (.iadd, 1) := by decide +kernel
theorem dX11_unsign_19 : decode cX11_unsign 19 = .ok (.iaload, 1) := by decide +kernel
theorem dX11_unsign_20 : decode cX11_unsign 20 = .ok (.ifCond .ne 6, 3) := by decide +kernel
theorem dX11_unsign_23 : decode cX11_unsign 23 = .ok (.bipush (-4), 2) := by decide +kernel
theorem dX11_unsign_25 : decode cX11_unsign 25 = .ok (.ireturn, 1) := by decide +kernel
theorem dX11_unsign_26 : decode cX11_unsign 26 = .ok (.aload_n 0, 1) := by decide +kernel
theorem dX11_unsign_27 : decode cX11_unsign 27 = .ok (.invokevirtual 68, 3) := by decide +kernel
theorem dX11_unsign_30 : decode cX11_unsign 30 = .ok (.aload_n 0, 1) := by decide +kernel
theorem dX11_unsign_31 : decode cX11_unsign 31 = .ok (.getfield 7, 3) := by decide +kernel
theorem dX11_unsign_34 : decode cX11_unsign 34 = .ok (.sipush 429, 3) := by decide +kernel
theorem dX11_unsign_37 : decode cX11_unsign 37 = .ok (.iload_n 1, 1) := by decide +kernel
theorem dX11_unsign_38 : decode cX11_unsign 38 = .ok (.iadd, 1) := by decide +kernel
theorem dX11_unsign_39 : decode cX11_unsign 39 = .ok (.iaload, 1) := by decide +kernel
theorem dX11_unsign_40 : decode cX11_unsign 40 = .ok (.istore_n 2, 1) := by decide +kernel
theorem dX11_unsign_41 : decode cX11_unsign 41 = .ok (.aload_n 0, 1) := by decide +kernel
theorem dX11_unsign_42 : decode cX11_unsign 42 = .ok (.getfield 7, 3) := by decide +kernel
theorem dX11_unsign_45 : decode cX11_unsign 45 = .ok (.sipush 429, 3) := by decide +kernel
theorem dX11_unsign_48 : decode cX11_unsign 48 = .ok (.iload_n 1, 1) := by decide +kernel
theorem dX11_unsign_49 : decode cX11_unsign 49 = .ok (.iadd, 1) := by decide +kernel
theorem dX11_unsign_50 : decode cX11_unsign 50 = .ok (.iconst 0, 1) := by decide +kernel
theorem dX11_unsign_51 : decode cX11_unsign 51 = .ok (.iastore, 1) := by decide +kernel
theorem dX11_unsign_52 : decode cX11_unsign 52 = .ok (.iload_n 2, 1) := by decide +kernel
theorem dX11_unsign_53 : decode cX11_unsign 53 = .ok (.iconst 1, 1) := by decide +kernel
theorem dX11_unsign_54 : decode cX11_unsign 54 = .ok (.isub, 1) := by decide +kernel
theorem dX11_unsign_55 : decode cX11_unsign 55 = .ok (.iconst 4, 1) := by decide +kernel
theorem dX11_unsign_56 : decode cX11_unsign 56 = .ok (.idiv, 1) := by decide +kernel
theorem dX11_unsign_57 : decode cX11_unsign 57 = .ok (.ireturn, 1) := by decide +kernel
set_option maxRecDepth 20000 in
theorem ggX11_pointed_X11_isOpen : GoodIn wsX11_pointed wsX11_isOpen := goodIn_r _ [7, 1, 8, 9, 10, 6, 11, 12, 13, 14, 15, 16, 17, 18, 19, 20, 21, 22, 23, 24, 25, 26, 27, 28, 29, 30, 31, 32, 33, 34, 35, 36, 37, 38, 39, 40, 45, 46, 47, 48, 49, 50, 51, 52, 53, 54, 55, 56, 57, 58, 59, 60, 61] (by decide +kernel) (by decide +kernel)
set_option maxRecDepth 20000 in
theorem gX11_pointed_X11_isOpen : GoodIn wsX11_pointed (wsV RX11 87 RX11 yX11_isOpen wsX11_isOpen) := goodIn_app (goodIn_of _ (by decide +kernel)) ggX11_pointed_X11_isOpen
set_option maxRecDepth 20000 in
theorem ggX11_pointed_X11_leads : GoodIn wsX11_pointed wsX11_leads := goodIn_r _ [44, 2, 3, 4, 5, 6, 7, 1, 8, 9, 10, 11, 12, 13, 14, 15, 16, 17, 18, 19, 20, 21, 22, 23, 24, 25, 26, 27, 28, 29, 30, 31, 32, 33, 34, 35, 36, 37, 38, 39, 40, 45, 46, 47, 48, 49, 50, 51, 52, 53, 54, 55, 56, 57, 58, 59, 60, 61] (by decide +kernel) (by decide +kernel)
set_option maxRecDepth 20000 in
theorem gX11_pointed_X11_leads : GoodIn wsX11_pointed (wsV RX11 154 RX11 yX11_leads wsX11_leads) := goodIn_app (goodIn_of _ (by decide +kernel)) ggX11_pointed_X11_leads
theorem dX11_pointed_0 : decode cX11_pointed 0 = .ok (.aload_n 0, 1) := by decide +kernel
theorem dX11_pointed_1 : decode cX11_pointed 1 = .ok (.getfield 7, 3) := by decide +kernel
theorem dX11_pointed_4 : decode cX11_pointed 4 = .ok (.sipush 429, 3) := by decide +kernel
theorem dX11_pointed_7 : decode cX11_pointed 7 = .ok (.iload_n 1, 1) := by decide +kernel
theorem dX11_pointed_8 : decode cX11_pointed 8 = .ok (.iadd, 1) := by decide +kernel
theorem dX11_pointed_9 : decode cX11_pointed 9 = .ok (.iaload, 1) := by decide +kernel
theorem dX11_pointed_10 : decode cX11_pointed 10 = .ok (.iconst 1, 1) := by decide +kernel
theorem dX11_pointed_11 : decode cX11_pointed 11 = .ok (.isub, 1) := by decide +kernel
theorem dX11_pointed_12 : decode cX11_pointed 12 = .ok (.iconst 4, 1) := by decide +kernel
theorem dX11_pointed_13 : decode cX11_pointed 13 = .ok (.idiv, 1) := by decide +kernel
theorem dX11_pointed_14 : decode cX11_pointed 14 = .ok (.istore_n 2, 1) := by decide +kernel
theorem dX11_pointed_15 : decode cX11_pointed 15 = .ok (.iload_n 2, 1) := by decide +kernel
theorem dX11_pointed_16 : decode cX11_pointed 16 = .ok (.iconst 2, 1) := by decide +kernel
theorem dX11_pointed_17 : decode cX11_pointed 17 = .ok (.if_icmp .ne 33, 3) := by decide +kernel
theorem dX11_pointed_20 : decode cX11_pointed 20 = .ok (.aload_n 0, 1) := by decide +kernel
theorem dX11_pointed_21 : decode cX11_pointed 21 = .ok (.getfield 7, 3) := by decide +kernel
theorem dX11_pointed_24 : decode cX11_pointed 24 = .ok (.sipush 429, 3) := by decide +kernel
theorem dX11_pointed_27 : decode cX11_pointed 27 = .ok (.iload_n 1, 1) := by decide +kernel
theorem dX11_pointed_28 : decode cX11_pointed 28 = .ok (.iadd, 1) := by decide +kernel
theorem dX11_pointed_29 : decode cX11_pointed 29 = .ok (.iaload, 1) := by decide +kernel
theorem dX11_pointed_30 : decode cX11_pointed 30 = .ok (.iconst 1, 1) := by decide +kernel
theorem dX11_pointed_31 : decode cX11_pointed 31 = .ok (.isub, 1) := by decide +kernel
theorem dX11_pointed_32 : decode cX11_pointed 32 = .ok (.iconst 4, 1) := by decide +kernel
theorem dX11_pointed_33 : decode cX11_pointed 33 = .ok (.irem, 1) := by decide +kernel
theorem dX11_pointed_34 : decode cX11_pointed 34 = .ok (.istore_n 3, 1) := by decide +kernel
theorem dX11_pointed_35 : decode cX11_pointed 35 = .ok (.aload_n 0, 1) := by decide +kernel
theorem dX11_pointed_36 : decode cX11_pointed 36 = .ok (.iload_n 1, 1) := by decide +kernel
theorem dX11_pointed_37 : decode cX11_pointed 37 = .ok (.iload_n 3, 1) := by decide +kernel
theorem dX11_pointed_38 : decode cX11_pointed 38 = .ok (.invokevirtual 87, 3) := by decide +kernel
theorem dX11_pointed_41 : decode cX11_pointed 41 = .ok (.ifCond .eq 7, 3) := by decide +kernel
theorem dX11_pointed_44 : decode cX11_pointed 44 = .ok (.iload_n 3, 1) := by decide +kernel
theorem dX11_pointed_45 : decode cX11_pointed 45 = .ok (.goto 4, 3) := by decide +kernel
theorem dX11_pointed_48 : decode cX11_pointed 48 = .ok (.iconst (-1), 1) := by decide +kernel
theorem dX11_pointed_49 : decode cX11_pointed 49 = .ok (.ireturn, 1) := by decide +kernel
theorem dX11_pointed_50 : decode cX11_pointed 50 = .ok (.iload_n 1, 1) := by decide +kernel
theorem dX11_pointed_51 : decode cX11_pointed 51 = .ok (.aload_n 0, 1) := by decide +kernel
theorem dX11_pointed_52 : decode cX11_pointed 52 = .ok (.getfield 7, 3) := by decide +kernel
theorem dX11_pointed_55 : decode cX11_pointed 55 = .ok (.bipush 8, 2) := by decide +kernel
theorem dX11_pointed_57 : decode cX11_pointed 57 = .ok (.iaload, 1) := by decide +kernel
theorem dX11_pointed_58 : decode cX11_pointed 58 = .ok (.if_icmp .eq 12, 3) := by decide +kernel
theorem dX11_pointed_61 : decode cX11_pointed 61 = .ok (.aload_n 0, 1) := by decide +kernel
theorem dX11_pointed_62 : decode cX11_pointed 62 = .ok (.getfield 25, 3) := by decide +kernel
theorem dX11_pointed_65 : decode cX11_pointed 65 = .ok (.iload_n 1, 1) := by decide +kernel
theorem dX11_pointed_66 : decode cX11_pointed 66 = .ok (.iaload, 1) := by decide +kernel
theorem dX11_pointed_67 : decode cX11_pointed 67 = .ok (.ifCond .ge 5, 3) := by decide +kernel
theorem dX11_pointed_70 : decode cX11_pointed 70 = .ok (.iconst (-1), 1) := by decide +kernel
theorem dX11_pointed_71 : decode cX11_pointed 71 = .ok (.ireturn, 1) := by decide +kernel
theorem dX11_pointed_72 : decode cX11_pointed 72 = .ok (.aload_n 0, 1) := by decide +kernel
theorem dX11_pointed_73 : decode cX11_pointed 73 = .ok (.iload_n 1, 1) := by decide +kernel
theorem dX11_pointed_74 : decode cX11_pointed 74 = .ok (.invokevirtual 154, 3) := by decide +kernel
theorem dX11_pointed_77 : decode cX11_pointed 77 = .ok (.istore_n 3, 1) := by decide +kernel
theorem dX11_pointed_78 : decode cX11_pointed 78 = .ok (.iload_n 2, 1) := by decide +kernel
theorem dX11_pointed_79 : decode cX11_pointed 79 = .ok (.iconst 1, 1) := by decide +kernel
theorem dX11_pointed_80 : decode cX11_pointed 80 = .ok (.if_icmp .ne 27, 3) := by decide +kernel
theorem dX11_pointed_83 : decode cX11_pointed 83 = .ok (.iload_n 3, 1) := by decide +kernel
theorem dX11_pointed_84 : decode cX11_pointed 84 = .ok (.iconst 1, 1) := by decide +kernel
theorem dX11_pointed_85 : decode cX11_pointed 85 = .ok (.iadd, 1) := by decide +kernel
theorem dX11_pointed_86 : decode cX11_pointed 86 = .ok (.iconst 4, 1) := by decide +kernel
theorem dX11_pointed_87 : decode cX11_pointed 87 = .ok (.irem, 1) := by decide +kernel
theorem dX11_pointed_88 : decode cX11_pointed 88 = .ok (.istore_n 3, 1) := by decide +kernel
theorem dX11_pointed_89 : decode cX11_pointed 89 = .ok (.aload_n 0, 1) := by decide +kernel
theorem dX11_pointed_90 : decode cX11_pointed 90 = .ok (.iload_n 1, 1) := by decide +kernel
theorem dX11_pointed_91 : decode cX11_pointed 91 = .ok (.iload_n 3, 1) := by decide +kernel
theorem dX11_pointed_92 : decode cX11_pointed 92 = .ok (.invokevirtual 87, 3) := by decide +kernel
theorem dX11_pointed_95 : decode cX11_pointed 95 = .ok (.ifCond .ne 12, 3) := by decide +kernel
theorem dX11_pointed_98 : decode cX11_pointed 98 = .ok (.iload_n 3, 1) := by decide +kernel
theorem dX11_pointed_99 : decode cX11_pointed 99 = .ok (.iconst 1, 1) := by decide +kernel
theorem dX11_pointed_100 : decode cX11_pointed 100 = .ok (.iadd, 1) := by decide +kernel
theorem dX11_pointed_101 : decode cX11_pointed 101 = .ok (.iconst 4, 1) := by decide +kernel
theorem dX11_pointed_102 : decode cX11_pointed 102 = .ok (.irem, 1) := by decide +kernel
theorem dX11_pointed_103 : decode cX11_pointed 103 = .ok (.istore_n 3, 1) := by decide +kernel
theorem dX11_pointed_104 : decode cX11_pointed 104 = .ok (.goto (-15), 3) := by decide +kernel
theorem dX11_pointed_107 : decode cX11_pointed 107 = .ok (.iload_n 3, 1) := by decide +kernel
theorem dX11_pointed_108 : decode cX11_pointed 108 = .ok (.ireturn, 1) := by decide +kernel
set_option maxRecDepth 20000 in
theorem ggX11_hasSign_X11_isFork : GoodIn wsX11_hasSign wsX11_isFork := goodIn_r _ [6, 7, 8, 9, 5, 10, 1, 11, 12, 13, 14, 15, 16, 17, 18, 19, 20, 21, 22, 23, 24, 25, 26, 27, 28, 29, 30, 31, 32, 33, 34, 35, 36, 37, 38, 39, 40, 41, 42, 43, 44, 45, 46, 47, 48, 49, 50, 51, 52, 53, 54, 55, 56, 57, 58, 59, 60, 61, 62, 63, 64] (by decide +kernel) (by decide +kernel)
set_option maxRecDepth 20000 in
theorem gX11_hasSign_X11_isFork : GoodIn wsX11_hasSign (wsV RX11 130 RX11 yX11_isFork wsX11_isFork) := goodIn_app (goodIn_of _ (by decide +kernel)) ggX11_hasSign_X11_isFork
theorem dX11_hasSign_0 : decode cX11_hasSign 0 = .ok (.aload_n 0, 1) := by decide +kernel
theorem dX11_hasSign_1 : decode cX11_hasSign 1 = .ok (.getfield 7, 3) := by decide +kernel
theorem dX11_hasSign_4 : decode cX11_hasSign 4 = .ok (.sipush 429, 3) := by decide +kernel
theorem dX11_hasSign_7 : decode cX11_hasSign 7 = .ok (.iload_n 1, 1) := by decide +kernel
theorem dX11_hasSign_8 : decode cX11_hasSign 8 = .ok (.iadd, 1) := by decide +kernel
theorem dX11_hasSign_9 : decode cX11_hasSign 9 = .ok (.iaload, 1) := by decide +kernel
theorem dX11_hasSign_10 : decode cX11_hasSign 10 = .ok (.ifCond .le 15, 3) := by decide +kernel
theorem dX11_hasSign_13 : decode cX11_hasSign 13 = .ok (.aload_n 0, 1) := by decide +kernel
theorem dX11_hasSign_14 : decode cX11_hasSign 14 = .ok (.iload_n 1, 1) := by decide +kernel
theorem dX11_hasSign_15 : decode cX11_hasSign 15 = .ok (.invokevirtual 130, 3) := by decide +kernel
theorem dX11_hasSign_18 : decode cX11_hasSign 18 = .ok (.ifCond .eq 7, 3) := by decide +kernel
theorem dX11_hasSign_21 : decode cX11_hasSign 21 = .ok (.iconst 1, 1) := by decide +kernel
theorem dX11_hasSign_22 : decode cX11_hasSign 22 = .ok (.goto 4, 3) := by decide +kernel
theorem dX11_hasSign_25 : decode cX11_hasSign 25 = .ok (.iconst 0, 1) := by decide +kernel
theorem dX11_hasSign_26 : decode cX11_hasSign 26 = .ok (.ireturn, 1) := by decide +kernel
set_option maxRecDepth 20000 in
theorem ggX11_points_X11_hasRoom : GoodIn wsX11_points wsX11_hasRoom := goodIn_r _ [6, 7, 8, 9, 5, 10, 11, 12, 13, 14, 1, 15, 16, 17, 18, 19, 20, 21, 22, 23, 24, 25, 26, 27, 66, 67, 68, 69, 70, 71, 72, 73, 74, 75, 76, 77, 78, 79, 80, 81, 82] (by decide +kernel) (by decide +kernel)
set_option maxRecDepth 20000 in
theorem gX11_points_X11_hasRoom : GoodIn wsX11_points (wsV RX11 74 RX11 yX11_hasRoom wsX11_hasRoom) := goodIn_app (goodIn_of _ (by decide +kernel)) ggX11_points_X11_hasRoom
set_option maxRecDepth 20000 in
theorem ggX11_points_X11_hasSign : GoodIn wsX11_points wsX11_hasSign := goodIn_r _ [31, 1, 32, 33, 34, 5, 35, 18, 19, 20, 21, 11, 12, 13, 14, 22, 23, 24, 25, 26, 27, 36, 37, 38, 39, 40, 41, 42, 43, 44, 45, 46, 47, 2, 3, 4, 6, 7, 8, 9, 10, 15, 16, 17, 48, 49, 50, 51, 66, 67, 68, 69, 70, 71, 72, 73, 74, 75, 76, 77, 78, 79, 80, 81, 82] (by decide +kernel) (by decide +kernel)
set_option maxRecDepth 20000 in
theorem gX11_points_X11_hasSign : GoodIn wsX11_points (wsV RX11 160 RX11 yX11_hasSign wsX11_hasSign) := goodIn_app (goodIn_of _ (by decide +kernel)) ggX11_points_X11_hasSign
set_option maxRecDepth 20000 in
theorem ggX11_points_X11_lays : GoodIn wsX11_points wsX11_lays := goodIn_r _ [55, 56, 57, 7, 8, 9, 5, 10, 11, 12, 13, 14, 1, 40, 41, 42, 43, 44, 45, 46, 47, 2, 3, 4, 6, 15, 16, 17, 18, 19, 20, 21, 22, 23, 24, 25, 26, 27, 48, 49, 50, 51, 66, 67, 68, 69, 70, 71, 72, 73, 74, 75, 76, 77, 78, 79, 80, 81, 82] (by decide +kernel) (by decide +kernel)
set_option maxRecDepth 20000 in
theorem gX11_points_X11_lays : GoodIn wsX11_points (wsV RX11 147 RX11 yX11_lays wsX11_lays) := goodIn_app (goodIn_of _ (by decide +kernel)) ggX11_points_X11_lays
set_option maxRecDepth 20000 in
theorem ggX11_points_X11_pointed : GoodIn wsX11_points wsX11_pointed := goodIn_r _ [61, 1, 56, 40, 41, 42, 5, 43, 44, 45, 46, 47, 11, 12, 13, 14, 2, 3, 4, 6, 7, 8, 9, 10, 15, 16, 17, 18, 19, 20, 21, 22, 23, 24, 25, 26, 27, 48, 49, 50, 51, 62, 63, 64, 65, 66, 67, 68, 69, 70, 71, 72, 73, 74, 75, 76, 77, 78, 79, 80, 81, 82] (by decide +kernel) (by decide +kernel)
set_option maxRecDepth 20000 in
theorem gX11_points_X11_pointed : GoodIn wsX11_points (wsV RX11 163 RX11 yX11_pointed wsX11_pointed) := goodIn_app (goodIn_of _ (by decide +kernel)) ggX11_points_X11_pointed
theorem dX11_points_0 : decode cX11_points 0 = .ok (.aload_n 0, 1) := by decide +kernel
theorem dX11_points_1 : decode cX11_points 1 = .ok (.iload_n 1, 1) := by decide +kernel
theorem dX11_points_2 : decode cX11_points 2 = .ok (.invokevirtual 74, 3) := by decide +kernel
theorem dX11_points_5 : decode cX11_points 5 = .ok (.ifCond .ne 5, 3) := by decide +kernel
theorem dX11_points_8 : decode cX11_points 8 = .ok (.iconst (-1), 1) := by decide +kernel
theorem dX11_points_9 : decode cX11_points 9 = .ok (.ireturn, 1) := by decide +kernel
theorem dX11_points_10 : decode cX11_points 10 = .ok (.aload_n 0, 1) := by decide +kernel
theorem dX11_points_11 : decode cX11_points 11 = .ok (.iload_n 1, 1) := by decide +kernel
theorem dX11_points_12 : decode cX11_points 12 = .ok (.invokevirtual 160, 3) := by decide +kernel
theorem dX11_points_15 : decode cX11_points 15 = .ok (.ifCond .ne 6, 3) := by decide +kernel
theorem dX11_points_18 : decode cX11_points 18 = .ok (.bipush (-2), 2) := by decide +kernel
theorem dX11_points_20 : decode cX11_points 20 = .ok (.ireturn, 1) := by decide +kernel
theorem dX11_points_21 : decode cX11_points 21 = .ok (.aload_n 0, 1) := by decide +kernel
theorem dX11_points_22 : decode cX11_points 22 = .ok (.aload_n 0, 1) := by decide +kernel
theorem dX11_points_23 : decode cX11_points 23 = .ok (.getfield 7, 3) := by decide +kernel
theorem dX11_points_26 : decode cX11_points 26 = .ok (.bipush 8, 2) := by decide +kernel
theorem dX11_points_28 : decode cX11_points 28 = .ok (.iaload, 1) := by decide +kernel
theorem dX11_points_29 : decode cX11_points 29 = .ok (.invokevirtual 147, 3) := by decide +kernel
theorem dX11_points_32 : decode cX11_points 32 = .ok (.aload_n 0, 1) := by decide +kernel
theorem dX11_points_33 : decode cX11_points 33 = .ok (.iload_n 1, 1) := by decide +kernel
theorem dX11_points_34 : decode cX11_points 34 = .ok (.invokevirtual 163, 3) := by decide +kernel
theorem dX11_points_37 : decode cX11_points 37 = .ok (.istore_n 2, 1) := by decide +kernel
theorem dX11_points_38 : decode cX11_points 38 = .ok (.iload_n 2, 1) := by decide +kernel
theorem dX11_points_39 : decode cX11_points 39 = .ok (.ifCond .ge 8, 3) := by decide +kernel
theorem dX11_points_42 : decode cX11_points 42 = .ok (.bipush (-4), 2) := by decide +kernel
theorem dX11_points_44 : decode cX11_points 44 = .ok (.goto 4, 3) := by decide +kernel
theorem dX11_points_47 : decode cX11_points 47 = .ok (.iload_n 2, 1) := by decide +kernel
theorem dX11_points_48 : decode cX11_points 48 = .ok (.ireturn, 1) := by decide +kernel
set_option maxRecDepth 20000 in
theorem ggX11_goes_X11_hasSign : GoodIn wsX11_goes wsX11_hasSign := goodIn_r _ [7, 8, 9, 10, 11, 6, 12, 13, 14, 15, 16, 17, 18, 19, 20, 21, 22, 23, 24, 25, 26, 27, 28, 29, 30, 31, 32, 33, 34, 35, 36, 37, 38, 39, 40, 41, 42, 43, 44, 45, 46, 47, 48, 49, 50, 51, 52, 53, 63, 64, 65, 66, 67, 68, 69, 70, 71, 72, 73, 74, 75, 76, 77, 78, 79] (by decide +kernel) (by decide +kernel)
set_option maxRecDepth 20000 in
theorem gX11_goes_X11_hasSign : GoodIn wsX11_goes (wsV RX11 160 RX11 yX11_hasSign wsX11_hasSign) := goodIn_app (goodIn_of _ (by decide +kernel)) ggX11_goes_X11_hasSign
set_option maxRecDepth 20000 in
theorem ggX11_goes_X11_pointed : GoodIn wsX11_goes wsX11_pointed := goodIn_r _ [57, 8, 58, 31, 32, 33, 6, 34, 35, 36, 37, 38, 17, 18, 19, 20, 39, 40, 41, 42, 43, 44, 45, 46, 47, 48, 49, 13, 14, 15, 16, 21, 22, 23, 24, 25, 26, 50, 51, 52, 53, 59, 60, 61, 62, 63, 64, 65, 66, 67, 68, 69, 70, 71, 72, 73, 74, 75, 76, 77, 78, 79] (by decide +kernel) (by decide +kernel)
set_option maxRecDepth 20000 in
theorem gX11_goes_X11_pointed : GoodIn wsX11_goes (wsV RX11 163 RX11 yX11_pointed wsX11_pointed) := goodIn_app (goodIn_of _ (by decide +kernel)) ggX11_goes_X11_pointed
set_option maxRecDepth 20000 in
theorem ggX11_goes_X11_isOpen : GoodIn wsX11_goes wsX11_isOpen := goodIn_r _ [34, 8, 35, 36, 37, 6, 38, 17, 18, 19, 20, 39, 40, 41, 42, 43, 44, 45, 46, 47, 48, 49, 13, 14, 15, 16, 21, 22, 23, 24, 25, 26, 50, 51, 52, 53, 63, 64, 65, 66, 67, 68, 69, 70, 71, 72, 73, 74, 75, 76, 77, 78, 79] (by decide +kernel) (by decide +kernel)
set_option maxRecDepth 20000 in
theorem gX11_goes_X11_isOpen : GoodIn wsX11_goes (wsV RX11 87 RX11 yX11_isOpen wsX11_isOpen) := goodIn_app (goodIn_of _ (by decide +kernel)) ggX11_goes_X11_isOpen
theorem dX11_goes_0 : decode cX11_goes 0 = .ok (.aload_n 0, 1) := by decide +kernel
theorem dX11_goes_1 : decode cX11_goes 1 = .ok (.aload_n 0, 1) := by decide +kernel
theorem dX11_goes_2 : decode cX11_goes 2 = .ok (.getfield 166, 3) := by decide +kernel
theorem dX11_goes_5 : decode cX11_goes 5 = .ok (.invokevirtual 160, 3) := by decide +kernel
theorem dX11_goes_8 : decode cX11_goes 8 = .ok (.ifCond .eq 14, 3) := by decide +kernel
theorem dX11_goes_11 : decode cX11_goes 11 = .ok (.aload_n 0, 1) := by decide +kernel
theorem dX11_goes_12 : decode cX11_goes 12 = .ok (.aload_n 0, 1) := by decide +kernel
theorem dX11_goes_13 : decode cX11_goes 13 = .ok (.getfield 166, 3) := by decide +kernel
theorem dX11_goes_16 : decode cX11_goes 16 = .ok (.invokevirtual 163, 3) := by decide +kernel
theorem dX11_goes_19 : decode cX11_goes 19 = .ok (.goto 4, 3) := by decide +kernel
theorem dX11_goes_22 : decode cX11_goes 22 = .ok (.iconst (-1), 1) := by decide +kernel
theorem dX11_goes_23 : decode cX11_goes 23 = .ok (.istore_n 1, 1) := by decide +kernel
theorem dX11_goes_24 : decode cX11_goes 24 = .ok (.iconst 1, 1) := by decide +kernel
theorem dX11_goes_25 : decode cX11_goes 25 = .ok (.istore_n 2, 1) := by decide +kernel
theorem dX11_goes_26 : decode cX11_goes 26 = .ok (.iload_n 2, 1) := by decide +kernel
theorem dX11_goes_27 : decode cX11_goes 27 = .ok (.iconst 5, 1) := by decide +kernel
theorem dX11_goes_28 : decode cX11_goes 28 = .ok (.if_icmp .ge 45, 3) := by decide +kernel
theorem dX11_goes_31 : decode cX11_goes 31 = .ok (.iload_n 1, 1) := by decide +kernel
theorem dX11_goes_32 : decode cX11_goes 32 = .ok (.ifCond .ge 41, 3) := by decide +kernel
theorem dX11_goes_35 : decode cX11_goes 35 = .ok (.aload_n 0, 1) := by decide +kernel
theorem dX11_goes_36 : decode cX11_goes 36 = .ok (.aload_n 0, 1) := by decide +kernel
theorem dX11_goes_37 : decode cX11_goes 37 = .ok (.getfield 166, 3) := by decide +kernel
theorem dX11_goes_40 : decode cX11_goes 40 = .ok (.aload_n 0, 1) := by decide +kernel
theorem dX11_goes_41 : decode cX11_goes 41 = .ok (.getfield 169, 3) := by decide +kernel
theorem dX11_goes_44 : decode cX11_goes 44 = .ok (.iload_n 2, 1) := by decide +kernel
theorem dX11_goes_45 : decode cX11_goes 45 = .ok (.iadd, 1) := by decide +kernel
theorem dX11_goes_46 : decode cX11_goes 46 = .ok (.iconst 4, 1) := by decide +kernel
theorem dX11_goes_47 : decode cX11_goes 47 = .ok (.irem, 1) := by decide +kernel
theorem dX11_goes_48 : decode cX11_goes 48 = .ok (.invokevirtual 87, 3) := by decide +kernel
theorem dX11_goes_51 : decode cX11_goes 51 = .ok (.ifCond .eq 14, 3) := by decide +kernel
theorem dX11_goes_54 : decode cX11_goes 54 = .ok (.aload_n 0, 1) := by decide +kernel
theorem dX11_goes_55 : decode cX11_goes 55 = .ok (.getfield 169, 3) := by decide +kernel
theorem dX11_goes_58 : decode cX11_goes 58 = .ok (.iload_n 2, 1) := by decide +kernel
theorem dX11_goes_59 : decode cX11_goes 59 = .ok (.iadd, 1) := by decide +kernel
theorem dX11_goes_60 : decode cX11_goes 60 = .ok (.iconst 4, 1) := by decide +kernel
theorem dX11_goes_61 : decode cX11_goes 61 = .ok (.irem, 1) := by decide +kernel
theorem dX11_goes_62 : decode cX11_goes 62 = .ok (.goto 4, 3) := by decide +kernel
theorem dX11_goes_65 : decode cX11_goes 65 = .ok (.iconst (-1), 1) := by decide +kernel
theorem dX11_goes_66 : decode cX11_goes 66 = .ok (.istore_n 1, 1) := by decide +kernel
theorem dX11_goes_67 : decode cX11_goes 67 = .ok (.iinc 2 1, 3) := by decide +kernel
theorem dX11_goes_70 : decode cX11_goes 70 = .ok (.goto (-44), 3) := by decide +kernel
theorem dX11_goes_73 : decode cX11_goes 73 = .ok (.iload_n 1, 1) := by decide +kernel
theorem dX11_goes_74 : decode cX11_goes 74 = .ok (.ireturn, 1) := by decide +kernel
set_option maxRecDepth 20000 in
theorem ggX11_walks_X11_lays : GoodIn wsX11_walks wsX11_lays := goodIn_r _ [10, 11, 12, 13, 14, 15, 9, 16, 17, 18, 19, 20, 1, 21, 22, 23, 24, 25, 26, 27, 28, 29, 30, 31, 32, 33, 34, 35, 36, 37, 38, 39, 40, 41, 42, 43, 44, 45, 46, 47, 48, 49, 74, 75, 76, 77, 78, 79, 80, 81, 82, 83, 84, 85, 86, 87, 88, 89, 90] (by decide +kernel) (by decide +kernel)
set_option maxRecDepth 20000 in
theorem gX11_walks_X11_lays : GoodIn wsX11_walks (wsV RX11 147 RX11 yX11_lays wsX11_lays) := goodIn_app (goodIn_of _ (by decide +kernel)) ggX11_walks_X11_lays
set_option maxRecDepth 20000 in
theorem ggX11_walks_X11_goes : GoodIn wsX11_walks wsX11_goes := goodIn_r _ [53, 3, 4, 54, 55, 56, 9, 57, 1, 58, 59, 60, 61, 36, 37, 38, 39, 17, 18, 19, 20, 40, 41, 42, 43, 44, 45, 62, 63, 64, 65, 21, 22, 23, 24, 25, 26, 27, 28, 29, 30, 31, 32, 13, 14, 15, 16, 33, 34, 35, 46, 47, 48, 49, 66, 67, 68, 69, 11, 70, 71, 72, 73, 74, 75, 76, 77, 78, 79, 80, 81, 82, 83, 84, 85, 86, 87, 88, 89, 90] (by decide +kernel) (by decide +kernel)
set_option maxRecDepth 20000 in
theorem gX11_walks_X11_goes : GoodIn wsX11_walks (wsV RX11 175 RX11 yX11_goes wsX11_goes) := goodIn_app (goodIn_of _ (by decide +kernel)) ggX11_walks_X11_goes
set_option maxRecDepth 20000 in
theorem ggX11_walks_X11_beside : GoodIn wsX11_walks wsX11_beside := goodIn_r _ [28, 17, 18, 19, 9, 20, 1, 29, 30, 31, 32, 13, 14, 15, 16, 33, 34, 35, 36, 37, 38, 39, 40, 41, 42, 43, 44, 45, 74, 75, 76, 77, 78, 79, 80, 81, 82, 83, 84, 85, 86, 87, 88, 89, 90] (by decide +kernel) (by decide +kernel)
set_option maxRecDepth 20000 in
theorem gX11_walks_X11_beside : GoodIn wsX11_walks (wsV RX11 80 RX11 yX11_beside wsX11_beside) := goodIn_app (goodIn_of _ (by decide +kernel)) ggX11_walks_X11_beside
theorem dX11_walks_0 : decode cX11_walks 0 = .ok (.aload_n 0, 1) := by decide +kernel
theorem dX11_walks_1 : decode cX11_walks 1 = .ok (.aload_n 0, 1) := by decide +kernel
theorem dX11_walks_2 : decode cX11_walks 2 = .ok (.getfield 7, 3) := by decide +kernel
theorem dX11_walks_5 : decode cX11_walks 5 = .ok (.bipush 8, 2) := by decide +kernel
theorem dX11_walks_7 : decode cX11_walks 7 = .ok (.iaload, 1) := by decide +kernel
theorem dX11_walks_8 : decode cX11_walks 8 = .ok (.invokevirtual 147, 3) := by decide +kernel
theorem dX11_walks_11 : decode cX11_walks 11 = .ok (.iconst 0, 1) := by decide +kernel
theorem dX11_walks_12 : decode cX11_walks 12 = .ok (.istore_n 2, 1) := by decide +kernel
theorem dX11_walks_13 : decode cX11_walks 13 = .ok (.iload_n 2, 1) := by decide +kernel
theorem dX11_walks_14 : decode cX11_walks 14 = .ok (.sipush 210, 3) := by decide +kernel
theorem dX11_walks_17 : decode cX11_walks 17 = .ok (.if_icmp .ge 16, 3) := by decide +kernel
theorem dX11_walks_20 : decode cX11_walks 20 = .ok (.aload_n 0, 1) := by decide +kernel
theorem dX11_walks_21 : decode cX11_walks 21 = .ok (.getfield 31, 3) := by decide +kernel
theorem dX11_walks_24 : decode cX11_walks 24 = .ok (.iload_n 2, 1) := by decide +kernel
theorem dX11_walks_25 : decode cX11_walks 25 = .ok (.iconst 0, 1) := by decide +kernel
theorem dX11_walks_26 : decode cX11_walks 26 = .ok (.bastore, 1) := by decide +kernel
theorem dX11_walks_27 : decode cX11_walks 27 = .ok (.iinc 2 1, 3) := by decide +kernel
theorem dX11_walks_30 : decode cX11_walks 30 = .ok (.goto (-17), 3) := by decide +kernel
theorem dX11_walks_33 : decode cX11_walks 33 = .ok (.aload_n 0, 1) := by decide +kernel
theorem dX11_walks_34 : decode cX11_walks 34 = .ok (.aload_n 0, 1) := by decide +kernel
theorem dX11_walks_35 : decode cX11_walks 35 = .ok (.getfield 7, 3) := by decide +kernel
theorem dX11_walks_38 : decode cX11_walks 38 = .ok (.bipush 7, 2) := by decide +kernel
theorem dX11_walks_40 : decode cX11_walks 40 = .ok (.iaload, 1) := by decide +kernel
theorem dX11_walks_41 : decode cX11_walks 41 = .ok (.putfield 166, 3) := by decide +kernel
theorem dX11_walks_44 : decode cX11_walks 44 = .ok (.aload_n 0, 1) := by decide +kernel
theorem dX11_walks_45 : decode cX11_walks 45 = .ok (.iconst 2, 1) := by decide +kernel
theorem dX11_walks_46 : decode cX11_walks 46 = .ok (.putfield 169, 3) := by decide +kernel
theorem dX11_walks_49 : decode cX11_walks 49 = .ok (.aload_n 0, 1) := by decide +kernel
theorem dX11_walks_50 : decode cX11_walks 50 = .ok (.iconst 0, 1) := by decide +kernel
theorem dX11_walks_51 : decode cX11_walks 51 = .ok (.putfield 172, 3) := by decide +kernel
theorem dX11_walks_54 : decode cX11_walks 54 = .ok (.aload_n 0, 1) := by decide +kernel
theorem dX11_walks_55 : decode cX11_walks 55 = .ok (.getfield 31, 3) := by decide +kernel
theorem dX11_walks_58 : decode cX11_walks 58 = .ok (.aload_n 0, 1) := by decide +kernel
theorem dX11_walks_59 : decode cX11_walks 59 = .ok (.getfield 166, 3) := by decide +kernel
theorem dX11_walks_62 : decode cX11_walks 62 = .ok (.iconst 1, 1) := by decide +kernel
theorem dX11_walks_63 : decode cX11_walks 63 = .ok (.bastore, 1) := by decide +kernel
theorem dX11_walks_64 : decode cX11_walks 64 = .ok (.iconst 1, 1) := by decide +kernel
theorem dX11_walks_65 : decode cX11_walks 65 = .ok (.istore_n 2, 1) := by decide +kernel
theorem dX11_walks_66 : decode cX11_walks 66 = .ok (.aload_n 0, 1) := by decide +kernel
theorem dX11_walks_67 : decode cX11_walks 67 = .ok (.getfield 172, 3) := by decide +kernel
theorem dX11_walks_70 : decode cX11_walks 70 = .ok (.iload_n 1, 1) := by decide +kernel
theorem dX11_walks_71 : decode cX11_walks 71 = .ok (.if_icmp .ge 85, 3) := by decide +kernel
theorem dX11_walks_74 : decode cX11_walks 74 = .ok (.aload_n 0, 1) := by decide +kernel
theorem dX11_walks_75 : decode cX11_walks 75 = .ok (.getfield 166, 3) := by decide +kernel
theorem dX11_walks_78 : decode cX11_walks 78 = .ok (.aload_n 0, 1) := by decide +kernel
theorem dX11_walks_79 : decode cX11_walks 79 = .ok (.getfield 7, 3) := by decide +kernel
theorem dX11_walks_82 : decode cX11_walks 82 = .ok (.bipush 8, 2) := by decide +kernel
theorem dX11_walks_84 : decode cX11_walks 84 = .ok (.iaload, 1) := by decide +kernel
theorem dX11_walks_85 : decode cX11_walks 85 = .ok (.if_icmp .eq 71, 3) := by decide +kernel
theorem dX11_walks_88 : decode cX11_walks 88 = .ok (.iload_n 2, 1) := by decide +kernel
theorem dX11_walks_89 : decode cX11_walks 89 = .ok (.ifCond .eq 67, 3) := by decide +kernel
theorem dX11_walks_92 : decode cX11_walks 92 = .ok (.aload_n 0, 1) := by decide +kernel
theorem dX11_walks_93 : decode cX11_walks 93 = .ok (.invokevirtual 175, 3) := by decide +kernel
theorem dX11_walks_96 : decode cX11_walks 96 = .ok (.istore_n 3, 1) := by decide +kernel
theorem dX11_walks_97 : decode cX11_walks 97 = .ok (.iload_n 3, 1) := by decide +kernel
theorem dX11_walks_98 : decode cX11_walks 98 = .ok (.ifCond .lt 7, 3) := by decide +kernel
theorem dX11_walks_101 : decode cX11_walks 101 = .ok (.iconst 1, 1) := by decide +kernel
theorem dX11_walks_102 : decode cX11_walks 102 = .ok (.goto 4, 3) := by decide +kernel
theorem dX11_walks_105 : decode cX11_walks 105 = .ok (.iconst 0, 1) := by decide +kernel
theorem dX11_walks_106 : decode cX11_walks 106 = .ok (.istore_n 2, 1) := by decide +kernel
theorem dX11_walks_107 : decode cX11_walks 107 = .ok (.iload_n 2, 1) := by decide +kernel
theorem dX11_walks_108 : decode cX11_walks 108 = .ok (.ifCond .eq 45, 3) := by decide +kernel
theorem dX11_walks_111 : decode cX11_walks 111 = .ok (.aload_n 0, 1) := by decide +kernel
theorem dX11_walks_112 : decode cX11_walks 112 = .ok (.aload_n 0, 1) := by decide +kernel
theorem dX11_walks_113 : decode cX11_walks 113 = .ok (.aload_n 0, 1) := by decide +kernel
theorem dX11_walks_114 : decode cX11_walks 114 = .ok (.getfield 166, 3) := by decide +kernel
theorem dX11_walks_117 : decode cX11_walks 117 = .ok (.iload_n 3, 1) := by decide +kernel
theorem dX11_walks_118 : decode cX11_walks 118 = .ok (.invokevirtual 80, 3) := by decide +kernel
theorem dX11_walks_121 : decode cX11_walks 121 = .ok (.putfield 166, 3) := by decide +kernel
theorem dX11_walks_124 : decode cX11_walks 124 = .ok (.aload_n 0, 1) := by decide +kernel
theorem dX11_walks_125 : decode cX11_walks 125 = .ok (.iload_n 3, 1) := by decide +kernel
theorem dX11_walks_126 : decode cX11_walks 126 = .ok (.iconst 2, 1) := by decide +kernel
theorem dX11_walks_127 : decode cX11_walks 127 = .ok (.iadd, 1) := by decide +kernel
theorem dX11_walks_128 : decode cX11_walks 128 = .ok (.iconst 4, 1) := by decide +kernel
theorem dX11_walks_129 : decode cX11_walks 129 = .ok (.irem, 1) := by decide +kernel
theorem dX11_walks_130 : decode cX11_walks 130 = .ok (.putfield 169, 3) := by decide +kernel
theorem dX11_walks_133 : decode cX11_walks 133 = .ok (.aload_n 0, 1) := by decide +kernel
theorem dX11_walks_134 : decode cX11_walks 134 = .ok (.getfield 31, 3) := by decide +kernel
theorem dX11_walks_137 : decode cX11_walks 137 = .ok (.aload_n 0, 1) := by decide +kernel
theorem dX11_walks_138 : decode cX11_walks 138 = .ok (.getfield 166, 3) := by decide +kernel
theorem dX11_walks_141 : decode cX11_walks 141 = .ok (.iconst 1, 1) := by decide +kernel
theorem dX11_walks_142 : decode cX11_walks 142 = .ok (.bastore, 1) := by decide +kernel
theorem dX11_walks_143 : decode cX11_walks 143 = .ok (.aload_n 0, 1) := by decide +kernel
theorem dX11_walks_144 : decode cX11_walks 144 = .ok (.dup, 1) := by decide +kernel
theorem dX11_walks_145 : decode cX11_walks 145 = .ok (.getfield 172, 3) := by decide +kernel
theorem dX11_walks_148 : decode cX11_walks 148 = .ok (.iconst 1, 1) := by decide +kernel
theorem dX11_walks_149 : decode cX11_walks 149 = .ok (.iadd, 1) := by decide +kernel
theorem dX11_walks_150 : decode cX11_walks 150 = .ok (.putfield 172, 3) := by decide +kernel
theorem dX11_walks_153 : decode cX11_walks 153 = .ok (.goto (-87), 3) := by decide +kernel
theorem dX11_walks_156 : decode cX11_walks 156 = .ok (.return_, 1) := by decide +kernel
set_option maxRecDepth 20000 in
theorem ggX11_walk_X11_in : GoodIn wsX11_walk wsX11_in := goodIn_r _ [7] (by decide +kernel) (by decide +kernel)
set_option maxRecDepth 20000 in
theorem gX11_walk_X11_in : GoodIn wsX11_walk (va_wsS RX11 57 yX11_in wsX11_in) := goodIn_app (goodIn_of _ (by decide +kernel)) ggX11_walk_X11_in
set_option maxRecDepth 20000 in
theorem ggX11_walk_X11_walks : GoodIn wsX11_walk wsX11_walks := goodIn_r _ [11, 12, 1, 2, 13, 3, 14, 15, 16, 6, 17, 18, 19, 20, 21, 22, 23, 24, 25, 26, 27, 28, 29, 30, 31, 32, 33, 34, 35, 36, 37, 38, 39, 4, 5, 7, 40, 41, 42, 43, 44, 45, 46, 47, 48, 49, 50, 51, 52, 53, 54, 55, 56, 57, 58, 59, 60, 61, 62, 63, 64, 65, 66, 67, 68, 69, 70, 71, 72, 73, 74, 75, 76, 77, 78, 79, 80, 81, 82, 83, 84, 85, 86, 87, 88, 89, 90, 91, 92, 93, 94] (by decide +kernel) (by decide +kernel)
set_option maxRecDepth 20000 in
theorem gX11_walk_X11_walks : GoodIn wsX11_walk (wsV RX11 178 RX11 yX11_walks wsX11_walks) := goodIn_app (goodIn_of _ (by decide +kernel)) ggX11_walk_X11_walks
theorem dX11_walk_0 : decode cX11_walk 0 = .ok (.iload_n 1, 1) := by decide +kernel
theorem dX11_walk_1 : decode cX11_walk 1 = .ok (.iconst 0, 1) := by decide +kernel
theorem dX11_walk_2 : decode cX11_walk 2 = .ok (.sipush 2000, 3) := by decide +kernel
theorem dX11_walk_5 : decode cX11_walk 5 = .ok (.invokestatic 57, 3) := by decide +kernel
theorem dX11_walk_8 : decode cX11_walk 8 = .ok (.ifCond .eq 12, 3) := by decide +kernel
theorem dX11_walk_11 : decode cX11_walk 11 = .ok (.iload_n 2, 1) := by decide +kernel
theorem dX11_walk_12 : decode cX11_walk 12 = .ok (.iconst 0, 1) := by decide +kernel
theorem dX11_walk_13 : decode cX11_walk 13 = .ok (.iconst 2, 1) := by decide +kernel
theorem dX11_walk_14 : decode cX11_walk 14 = .ok (.invokestatic 57, 3) := by decide +kernel
theorem dX11_walk_17 : decode cX11_walk 17 = .ok (.ifCond .ne 5, 3) := by decide +kernel
theorem dX11_walk_20 : decode cX11_walk 20 = .ok (.iconst (-1), 1) := by decide +kernel
theorem dX11_walk_21 : decode cX11_walk 21 = .ok (.ireturn, 1) := by decide +kernel
theorem dX11_walk_22 : decode cX11_walk 22 = .ok (.aload_n 0, 1) := by decide +kernel
theorem dX11_walk_23 : decode cX11_walk 23 = .ok (.iload_n 1, 1) := by decide +kernel
theorem dX11_walk_24 : decode cX11_walk 24 = .ok (.invokevirtual 178, 3) := by decide +kernel
theorem dX11_walk_27 : decode cX11_walk 27 = .ok (.iconst 0, 1) := by decide +kernel
theorem dX11_walk_28 : decode cX11_walk 28 = .ok (.istore_n 3, 1) := by decide +kernel
theorem dX11_walk_29 : decode cX11_walk 29 = .ok (.iconst 0, 1) := by decide +kernel
theorem dX11_walk_30 : decode cX11_walk 30 = .ok (.istore 4, 2) := by decide +kernel
theorem dX11_walk_32 : decode cX11_walk 32 = .ok (.iload 4, 2) := by decide +kernel
theorem dX11_walk_34 : decode cX11_walk 34 = .ok (.sipush 210, 3) := by decide +kernel
theorem dX11_walk_37 : decode cX11_walk 37 = .ok (.if_icmp .ge 27, 3) := by decide +kernel
theorem dX11_walk_40 : decode cX11_walk 40 = .ok (.iload_n 3, 1) := by decide +kernel
theorem dX11_walk_41 : decode cX11_walk 41 = .ok (.aload_n 0, 1) := by decide +kernel
theorem dX11_walk_42 : decode cX11_walk 42 = .ok (.getfield 31, 3) := by decide +kernel
theorem dX11_walk_45 : decode cX11_walk 45 = .ok (.iload 4, 2) := by decide +kernel
theorem dX11_walk_47 : decode cX11_walk 47 = .ok (.baload, 1) := by decide +kernel
theorem dX11_walk_48 : decode cX11_walk 48 = .ok (.ifCond .eq 7, 3) := by decide +kernel
theorem dX11_walk_51 : decode cX11_walk 51 = .ok (.iconst 1, 1) := by decide +kernel
theorem dX11_walk_52 : decode cX11_walk 52 = .ok (.goto 4, 3) := by decide +kernel
theorem dX11_walk_55 : decode cX11_walk 55 = .ok (.iconst 0, 1) := by decide +kernel
theorem dX11_walk_56 : decode cX11_walk 56 = .ok (.iadd, 1) := by decide +kernel
theorem dX11_walk_57 : decode cX11_walk 57 = .ok (.istore_n 3, 1) := by decide +kernel
theorem dX11_walk_58 : decode cX11_walk 58 = .ok (.iinc 4 1, 3) := by decide +kernel
theorem dX11_walk_61 : decode cX11_walk 61 = .ok (.goto (-29), 3) := by decide +kernel
theorem dX11_walk_64 : decode cX11_walk 64 = .ok (.iload_n 2, 1) := by decide +kernel
theorem dX11_walk_65 : decode cX11_walk 65 = .ok (.ifCond .ne 10, 3) := by decide +kernel
theorem dX11_walk_68 : decode cX11_walk 68 = .ok (.aload_n 0, 1) := by decide +kernel
theorem dX11_walk_69 : decode cX11_walk 69 = .ok (.getfield 166, 3) := by decide +kernel
theorem dX11_walk_72 : decode cX11_walk 72 = .ok (.goto 16, 3) := by decide +kernel
theorem dX11_walk_75 : decode cX11_walk 75 = .ok (.iload_n 2, 1) := by decide +kernel
theorem dX11_walk_76 : decode cX11_walk 76 = .ok (.iconst 1, 1) := by decide +kernel
theorem dX11_walk_77 : decode cX11_walk 77 = .ok (.if_icmp .ne 10, 3) := by decide +kernel
theorem dX11_walk_80 : decode cX11_walk 80 = .ok (.aload_n 0, 1) := by decide +kernel
theorem dX11_walk_81 : decode cX11_walk 81 = .ok (.getfield 172, 3) := by decide +kernel
theorem dX11_walk_84 : decode cX11_walk 84 = .ok (.goto 4, 3) := by decide +kernel
theorem dX11_walk_87 : decode cX11_walk 87 = .ok (.iload_n 3, 1) := by decide +kernel
theorem dX11_walk_88 : decode cX11_walk 88 = .ok (.ireturn, 1) := by decide +kernel
set_option maxRecDepth 20000 in
theorem ggX11_walked_X11_walks : GoodIn wsX11_walked wsX11_walks := goodIn_r _ [8, 2, 9, 1, 10, 3, 11, 12, 13, 7, 14, 15, 16, 17, 18, 19, 20, 21, 22, 23, 24, 25, 26, 27, 28, 29, 30, 31, 32, 33, 34, 35, 36, 37, 38, 39, 40, 41, 42, 43, 44, 45, 46, 47, 48, 49, 50, 51, 52, 53, 54, 55, 56, 57, 58, 59, 60, 61, 62, 63, 64, 65, 66, 67, 68, 69, 70, 71, 72, 73, 74, 75, 76, 77, 78, 79, 80, 81, 82, 83, 84, 85, 86, 87, 88, 89, 90, 91, 92, 93, 94] (by decide +kernel) (by decide +kernel)
set_option maxRecDepth 20000 in
theorem gX11_walked_X11_walks : GoodIn wsX11_walked (wsV RX11 178 RX11 yX11_walks wsX11_walks) := goodIn_app (goodIn_of _ (by decide +kernel)) ggX11_walked_X11_walks
theorem dX11_walked_0 : decode cX11_walked 0 = .ok (.aload_n 0, 1) := by decide +kernel
theorem dX11_walked_1 : decode cX11_walked 1 = .ok (.sipush 2000, 3) := by decide +kernel
theorem dX11_walked_4 : decode cX11_walked 4 = .ok (.invokevirtual 178, 3) := by decide +kernel
theorem dX11_walked_7 : decode cX11_walked 7 = .ok (.aload_n 0, 1) := by decide +kernel
theorem dX11_walked_8 : decode cX11_walked 8 = .ok (.getfield 166, 3) := by decide +kernel
theorem dX11_walked_11 : decode cX11_walked 11 = .ok (.aload_n 0, 1) := by decide +kernel
theorem dX11_walked_12 : decode cX11_walked 12 = .ok (.getfield 7, 3) := by decide +kernel
theorem dX11_walked_15 : decode cX11_walked 15 = .ok (.bipush 8, 2) := by decide +kernel
theorem dX11_walked_17 : decode cX11_walked 17 = .ok (.iaload, 1) := by decide +kernel
theorem dX11_walked_18 : decode cX11_walked 18 = .ok (.if_icmp .ne 10, 3) := by decide +kernel
theorem dX11_walked_21 : decode cX11_walked 21 = .ok (.aload_n 0, 1) := by decide +kernel
theorem dX11_walked_22 : decode cX11_walked 22 = .ok (.getfield 172, 3) := by decide +kernel
theorem dX11_walked_25 : decode cX11_walked 25 = .ok (.goto 5, 3) := by decide +kernel
theorem dX11_walked_28 : decode cX11_walked 28 = .ok (.bipush (-4), 2) := by decide +kernel
theorem dX11_walked_30 : decode cX11_walked 30 = .ok (.ireturn, 1) := by decide +kernel
set_option maxRecDepth 20000 in
theorem ggX11_type_X11_in : GoodIn wsX11_type wsX11_in := goodIn_r _ [6] (by decide +kernel) (by decide +kernel)
set_option maxRecDepth 20000 in
theorem gX11_type_X11_in : GoodIn wsX11_type (va_wsS RX11 57 yX11_in wsX11_in) := goodIn_app (goodIn_of _ (by decide +kernel)) ggX11_type_X11_in
theorem dX11_type_0 : decode cX11_type 0 = .ok (.iload_n 1, 1) := by decide +kernel
theorem dX11_type_1 : decode cX11_type 1 = .ok (.bipush 32, 2) := by decide +kernel
theorem dX11_type_3 : decode cX11_type 3 = .ok (.bipush 126, 2) := by decide +kernel
theorem dX11_type_5 : decode cX11_type 5 = .ok (.invokestatic 57, 3) := by decide +kernel
theorem dX11_type_8 : decode cX11_type 8 = .ok (.ifCond .ne 5, 3) := by decide +kernel
theorem dX11_type_11 : decode cX11_type 11 = .ok (.iconst (-1), 1) := by decide +kernel
theorem dX11_type_12 : decode cX11_type 12 = .ok (.ireturn, 1) := by decide +kernel
theorem dX11_type_13 : decode cX11_type 13 = .ok (.aload_n 0, 1) := by decide +kernel
theorem dX11_type_14 : decode cX11_type 14 = .ok (.getfield 65, 3) := by decide +kernel
theorem dX11_type_17 : decode cX11_type 17 = .ok (.sipush 200, 3) := by decide +kernel
theorem dX11_type_20 : decode cX11_type 20 = .ok (.if_icmp .ne 6, 3) := by decide +kernel
theorem dX11_type_23 : decode cX11_type 23 = .ok (.bipush (-3), 2) := by decide +kernel
theorem dX11_type_25 : decode cX11_type 25 = .ok (.ireturn, 1) := by decide +kernel
theorem dX11_type_26 : decode cX11_type 26 = .ok (.aload_n 0, 1) := by decide +kernel
theorem dX11_type_27 : decode cX11_type 27 = .ok (.getfield 16, 3) := by decide +kernel
theorem dX11_type_30 : decode cX11_type 30 = .ok (.aload_n 0, 1) := by decide +kernel
theorem dX11_type_31 : decode cX11_type 31 = .ok (.getfield 65, 3) := by decide +kernel
theorem dX11_type_34 : decode cX11_type 34 = .ok (.iload_n 1, 1) := by decide +kernel
theorem dX11_type_35 : decode cX11_type 35 = .ok (.iastore, 1) := by decide +kernel
theorem dX11_type_36 : decode cX11_type 36 = .ok (.aload_n 0, 1) := by decide +kernel
theorem dX11_type_37 : decode cX11_type 37 = .ok (.dup, 1) := by decide +kernel
theorem dX11_type_38 : decode cX11_type 38 = .ok (.getfield 65, 3) := by decide +kernel
theorem dX11_type_41 : decode cX11_type 41 = .ok (.iconst 1, 1) := by decide +kernel
theorem dX11_type_42 : decode cX11_type 42 = .ok (.iadd, 1) := by decide +kernel
theorem dX11_type_43 : decode cX11_type 43 = .ok (.putfield 65, 3) := by decide +kernel
theorem dX11_type_46 : decode cX11_type 46 = .ok (.aload_n 0, 1) := by decide +kernel
theorem dX11_type_47 : decode cX11_type 47 = .ok (.getfield 65, 3) := by decide +kernel
theorem dX11_type_50 : decode cX11_type 50 = .ok (.ireturn, 1) := by decide +kernel
theorem dX11_clearText_0 : decode cX11_clearText 0 = .ok (.aload_n 0, 1) := by decide +kernel
theorem dX11_clearText_1 : decode cX11_clearText 1 = .ok (.getfield 65, 3) := by decide +kernel
theorem dX11_clearText_4 : decode cX11_clearText 4 = .ok (.istore_n 1, 1) := by decide +kernel
theorem dX11_clearText_5 : decode cX11_clearText 5 = .ok (.aload_n 0, 1) := by decide +kernel
theorem dX11_clearText_6 : decode cX11_clearText 6 = .ok (.iconst 0, 1) := by decide +kernel
theorem dX11_clearText_7 : decode cX11_clearText 7 = .ok (.putfield 65, 3) := by decide +kernel
theorem dX11_clearText_10 : decode cX11_clearText 10 = .ok (.iload_n 1, 1) := by decide +kernel
theorem dX11_clearText_11 : decode cX11_clearText 11 = .ok (.ireturn, 1) := by decide +kernel
theorem dX11_directionOf_0 : decode cX11_directionOf 0 = .ok (.iload_n 0, 1) := by decide +kernel
theorem dX11_directionOf_1 : decode cX11_directionOf 1 = .ok (.bipush 85, 2) := by decide +kernel
theorem dX11_directionOf_3 : decode cX11_directionOf 3 = .ok (.if_icmp .ne 7, 3) := by decide +kernel
theorem dX11_directionOf_6 : decode cX11_directionOf 6 = .ok (.iconst 0, 1) := by decide +kernel
theorem dX11_directionOf_7 : decode cX11_directionOf 7 = .ok (.goto 34, 3) := by decide +kernel
theorem dX11_directionOf_10 : decode cX11_directionOf 10 = .ok (.iload_n 0, 1) := by decide +kernel
theorem dX11_directionOf_11 : decode cX11_directionOf 11 = .ok (.bipush 82, 2) := by decide +kernel
theorem dX11_directionOf_13 : decode cX11_directionOf 13 = .ok (.if_icmp .ne 7, 3) := by decide +kernel
theorem dX11_directionOf_16 : decode cX11_directionOf 16 = .ok (.iconst 1, 1) := by decide +kernel
theorem dX11_directionOf_17 : decode cX11_directionOf 17 = .ok (.goto 24, 3) := by decide +kernel
theorem dX11_directionOf_20 : decode cX11_directionOf 20 = .ok (.iload_n 0, 1) := by decide +kernel
theorem dX11_directionOf_21 : decode cX11_directionOf 21 = .ok (.bipush 68, 2) := by decide +kernel
theorem dX11_directionOf_23 : decode cX11_directionOf 23 = .ok (.if_icmp .ne 7, 3) := by decide +kernel
theorem dX11_directionOf_26 : decode cX11_directionOf 26 = .ok (.iconst 2, 1) := by decide +kernel
theorem dX11_directionOf_27 : decode cX11_directionOf 27 = .ok (.goto 14, 3) := by decide +kernel
theorem dX11_directionOf_30 : decode cX11_directionOf 30 = .ok (.iload_n 0, 1) := by decide +kernel
theorem dX11_directionOf_31 : decode cX11_directionOf 31 = .ok (.bipush 76, 2) := by decide +kernel
theorem dX11_directionOf_33 : decode cX11_directionOf 33 = .ok (.if_icmp .ne 7, 3) := by decide +kernel
theorem dX11_directionOf_36 : decode cX11_directionOf 36 = .ok (.iconst 3, 1) := by decide +kernel
theorem dX11_directionOf_37 : decode cX11_directionOf 37 = .ok (.goto 4, 3) := by decide +kernel
theorem dX11_directionOf_40 : decode cX11_directionOf 40 = .ok (.iconst (-1), 1) := by decide +kernel
theorem dX11_directionOf_41 : decode cX11_directionOf 41 = .ok (.ireturn, 1) := by decide +kernel
set_option maxRecDepth 20000 in
theorem ggX11_moves_X11_directionOf : GoodIn wsX11_moves wsX11_directionOf := goodIn_r _ [9] (by decide +kernel) (by decide +kernel)
set_option maxRecDepth 20000 in
theorem gX11_moves_X11_directionOf : GoodIn wsX11_moves (va_wsS RX11 184 yX11_directionOf wsX11_directionOf) := goodIn_app (goodIn_of _ (by decide +kernel)) ggX11_moves_X11_directionOf
set_option maxRecDepth 20000 in
theorem ggX11_moves_X11_beside : GoodIn wsX11_moves wsX11_beside := goodIn_r _ [13, 14, 15, 16, 8, 17, 1, 18, 19, 20, 21, 22, 23, 24, 25, 26, 27, 28, 29, 30, 31, 32, 33, 34, 35, 36, 37, 38, 47, 48, 49, 50, 51, 52, 53, 54, 55, 56, 57, 58, 59, 60, 61, 62, 63] (by decide +kernel) (by decide +kernel)
set_option maxRecDepth 20000 in
theorem gX11_moves_X11_beside : GoodIn wsX11_moves (wsV RX11 80 RX11 yX11_beside wsX11_beside) := goodIn_app (goodIn_of _ (by decide +kernel)) ggX11_moves_X11_beside
set_option maxRecDepth 20000 in
theorem ggX11_moves_X11_isOpen : GoodIn wsX11_moves wsX11_isOpen := goodIn_r _ [42, 1, 10, 11, 12, 8, 13, 14, 15, 16, 17, 18, 19, 20, 21, 22, 23, 24, 25, 26, 27, 28, 29, 30, 31, 32, 33, 34, 35, 36, 37, 38, 43, 44, 45, 46, 47, 48, 49, 50, 51, 52, 53, 54, 55, 56, 57, 58, 59, 60, 61, 62, 63] (by decide +kernel) (by decide +kernel)
set_option maxRecDepth 20000 in
theorem gX11_moves_X11_isOpen : GoodIn wsX11_moves (wsV RX11 87 RX11 yX11_isOpen wsX11_isOpen) := goodIn_app (goodIn_of _ (by decide +kernel)) ggX11_moves_X11_isOpen
theorem dX11_moves_0 : decode cX11_moves 0 = .ok (.aload_n 0, 1) := by decide +kernel
theorem dX11_moves_1 : decode cX11_moves 1 = .ok (.aload_n 0, 1) := by decide +kernel
theorem dX11_moves_2 : decode cX11_moves 2 = .ok (.getfield 7, 3) := by decide +kernel
theorem dX11_moves_5 : decode cX11_moves 5 = .ok (.bipush 7, 2) := by decide +kernel
theorem dX11_moves_7 : decode cX11_moves 7 = .ok (.iaload, 1) := by decide +kernel
theorem dX11_moves_8 : decode cX11_moves 8 = .ok (.putfield 181, 3) := by decide +kernel
theorem dX11_moves_11 : decode cX11_moves 11 = .ok (.iconst 0, 1) := by decide +kernel
theorem dX11_moves_12 : decode cX11_moves 12 = .ok (.istore_n 1, 1) := by decide +kernel
theorem dX11_moves_13 : decode cX11_moves 13 = .ok (.iload_n 1, 1) := by decide +kernel
theorem dX11_moves_14 : decode cX11_moves 14 = .ok (.aload_n 0, 1) := by decide +kernel
theorem dX11_moves_15 : decode cX11_moves 15 = .ok (.getfield 65, 3) := by decide +kernel
theorem dX11_moves_18 : decode cX11_moves 18 = .ok (.if_icmp .ge 103, 3) := by decide +kernel
theorem dX11_moves_21 : decode cX11_moves 21 = .ok (.aload_n 0, 1) := by decide +kernel
theorem dX11_moves_22 : decode cX11_moves 22 = .ok (.getfield 16, 3) := by decide +kernel
theorem dX11_moves_25 : decode cX11_moves 25 = .ok (.iload_n 1, 1) := by decide +kernel
theorem dX11_moves_26 : decode cX11_moves 26 = .ok (.iaload, 1) := by decide +kernel
theorem dX11_moves_27 : decode cX11_moves 27 = .ok (.invokestatic 184, 3) := by decide +kernel
theorem dX11_moves_30 : decode cX11_moves 30 = .ok (.istore_n 2, 1) := by decide +kernel
theorem dX11_moves_31 : decode cX11_moves 31 = .ok (.iload_n 2, 1) := by decide +kernel
theorem dX11_moves_32 : decode cX11_moves 32 = .ok (.ifCond .ge 7, 3) := by decide +kernel
theorem dX11_moves_35 : decode cX11_moves 35 = .ok (.iconst 1, 1) := by decide +kernel
theorem dX11_moves_36 : decode cX11_moves 36 = .ok (.goto 54, 3) := by decide +kernel
theorem dX11_moves_39 : decode cX11_moves 39 = .ok (.aload_n 0, 1) := by decide +kernel
theorem dX11_moves_40 : decode cX11_moves 40 = .ok (.aload_n 0, 1) := by decide +kernel
theorem dX11_moves_41 : decode cX11_moves 41 = .ok (.getfield 181, 3) := by decide +kernel
theorem dX11_moves_44 : decode cX11_moves 44 = .ok (.iload_n 2, 1) := by decide +kernel
theorem dX11_moves_45 : decode cX11_moves 45 = .ok (.invokevirtual 80, 3) := by decide +kernel
theorem dX11_moves_48 : decode cX11_moves 48 = .ok (.ifCond .ge 7, 3) := by decide +kernel
theorem dX11_moves_51 : decode cX11_moves 51 = .ok (.iconst 2, 1) := by decide +kernel
theorem dX11_moves_52 : decode cX11_moves 52 = .ok (.goto 38, 3) := by decide +kernel
theorem dX11_moves_55 : decode cX11_moves 55 = .ok (.aload_n 0, 1) := by decide +kernel
theorem dX11_moves_56 : decode cX11_moves 56 = .ok (.aload_n 0, 1) := by decide +kernel
theorem dX11_moves_57 : decode cX11_moves 57 = .ok (.getfield 181, 3) := by decide +kernel
theorem dX11_moves_60 : decode cX11_moves 60 = .ok (.iload_n 2, 1) := by decide +kernel
theorem dX11_moves_61 : decode cX11_moves 61 = .ok (.invokevirtual 87, 3) := by decide +kernel
theorem dX11_moves_64 : decode cX11_moves 64 = .ok (.ifCond .ne 7, 3) := by decide +kernel
theorem dX11_moves_67 : decode cX11_moves 67 = .ok (.iconst 3, 1) := by decide +kernel
theorem dX11_moves_68 : decode cX11_moves 68 = .ok (.goto 22, 3) := by decide +kernel
theorem dX11_moves_71 : decode cX11_moves 71 = .ok (.aload_n 0, 1) := by decide +kernel
theorem dX11_moves_72 : decode cX11_moves 72 = .ok (.getfield 181, 3) := by decide +kernel
theorem dX11_moves_75 : decode cX11_moves 75 = .ok (.aload_n 0, 1) := by decide +kernel
theorem dX11_moves_76 : decode cX11_moves 76 = .ok (.getfield 7, 3) := by decide +kernel
theorem dX11_moves_79 : decode cX11_moves 79 = .ok (.bipush 8, 2) := by decide +kernel
theorem dX11_moves_81 : decode cX11_moves 81 = .ok (.iaload, 1) := by decide +kernel
theorem dX11_moves_82 : decode cX11_moves 82 = .ok (.if_icmp .ne 7, 3) := by decide +kernel
theorem dX11_moves_85 : decode cX11_moves 85 = .ok (.iconst 4, 1) := by decide +kernel
theorem dX11_moves_86 : decode cX11_moves 86 = .ok (.goto 4, 3) := by decide +kernel
theorem dX11_moves_89 : decode cX11_moves 89 = .ok (.iconst 0, 1) := by decide +kernel
theorem dX11_moves_90 : decode cX11_moves 90 = .ok (.istore_n 3, 1) := by decide +kernel
theorem dX11_moves_91 : decode cX11_moves 91 = .ok (.aload_n 0, 1) := by decide +kernel
theorem dX11_moves_92 : decode cX11_moves 92 = .ok (.iload_n 1, 1) := by decide +kernel
theorem dX11_moves_93 : decode cX11_moves 93 = .ok (.putfield 187, 3) := by decide +kernel
theorem dX11_moves_96 : decode cX11_moves 96 = .ok (.iload_n 3, 1) := by decide +kernel
theorem dX11_moves_97 : decode cX11_moves 97 = .ok (.ifCond .le 5, 3) := by decide +kernel
theorem dX11_moves_100 : decode cX11_moves 100 = .ok (.iload_n 3, 1) := by decide +kernel
theorem dX11_moves_101 : decode cX11_moves 101 = .ok (.ireturn, 1) := by decide +kernel
theorem dX11_moves_102 : decode cX11_moves 102 = .ok (.aload_n 0, 1) := by decide +kernel
theorem dX11_moves_103 : decode cX11_moves 103 = .ok (.aload_n 0, 1) := by decide +kernel
theorem dX11_moves_104 : decode cX11_moves 104 = .ok (.aload_n 0, 1) := by decide +kernel
theorem dX11_moves_105 : decode cX11_moves 105 = .ok (.getfield 181, 3) := by decide +kernel
theorem dX11_moves_108 : decode cX11_moves 108 = .ok (.iload_n 2, 1) := by decide +kernel
theorem dX11_moves_109 : decode cX11_moves 109 = .ok (.invokevirtual 80, 3) := by decide +kernel
theorem dX11_moves_112 : decode cX11_moves 112 = .ok (.putfield 181, 3) := by decide +kernel
theorem dX11_moves_115 : decode cX11_moves 115 = .ok (.iinc 1 1, 3) := by decide +kernel
theorem dX11_moves_118 : decode cX11_moves 118 = .ok (.goto (-105), 3) := by decide +kernel
theorem dX11_moves_121 : decode cX11_moves 121 = .ok (.aload_n 0, 1) := by decide +kernel
theorem dX11_moves_122 : decode cX11_moves 122 = .ok (.aload_n 0, 1) := by decide +kernel
theorem dX11_moves_123 : decode cX11_moves 123 = .ok (.getfield 65, 3) := by decide +kernel
theorem dX11_moves_126 : decode cX11_moves 126 = .ok (.putfield 187, 3) := by decide +kernel
theorem dX11_moves_129 : decode cX11_moves 129 = .ok (.aload_n 0, 1) := by decide +kernel
theorem dX11_moves_130 : decode cX11_moves 130 = .ok (.getfield 181, 3) := by decide +kernel
theorem dX11_moves_133 : decode cX11_moves 133 = .ok (.aload_n 0, 1) := by decide +kernel
theorem dX11_moves_134 : decode cX11_moves 134 = .ok (.getfield 7, 3) := by decide +kernel
theorem dX11_moves_137 : decode cX11_moves 137 = .ok (.bipush 8, 2) := by decide +kernel
theorem dX11_moves_139 : decode cX11_moves 139 = .ok (.iaload, 1) := by decide +kernel
theorem dX11_moves_140 : decode cX11_moves 140 = .ok (.if_icmp .ne 7, 3) := by decide +kernel
theorem dX11_moves_143 : decode cX11_moves 143 = .ok (.iconst 0, 1) := by decide +kernel
theorem dX11_moves_144 : decode cX11_moves 144 = .ok (.goto 4, 3) := by decide +kernel
theorem dX11_moves_147 : decode cX11_moves 147 = .ok (.iconst 5, 1) := by decide +kernel
theorem dX11_moves_148 : decode cX11_moves 148 = .ok (.ireturn, 1) := by decide +kernel
set_option maxRecDepth 20000 in
theorem ggX11_fault_X11_in : GoodIn wsX11_fault wsX11_in := goodIn_r _ [5] (by decide +kernel) (by decide +kernel)
set_option maxRecDepth 20000 in
theorem gX11_fault_X11_in : GoodIn wsX11_fault (va_wsS RX11 57 yX11_in wsX11_in) := goodIn_app (goodIn_of _ (by decide +kernel)) ggX11_fault_X11_in
set_option maxRecDepth 20000 in
theorem ggX11_fault_X11_moves : GoodIn wsX11_fault wsX11_moves := goodIn_r _ [9, 10, 11, 12, 13, 1, 14, 15, 4, 16, 17, 18, 19, 20, 21, 22, 23, 24, 25, 26, 27, 28, 29, 30, 31, 32, 2, 3, 5, 33, 34, 35, 36, 37, 38, 39, 40, 41, 42, 43, 44, 45, 46, 47, 48, 49, 50, 51, 52, 53, 54, 55, 56, 57, 58, 59, 60, 61, 62, 63, 64, 65, 66, 67] (by decide +kernel) (by decide +kernel)
set_option maxRecDepth 20000 in
theorem gX11_fault_X11_moves : GoodIn wsX11_fault (wsV RX11 190 RX11 yX11_moves wsX11_moves) := goodIn_app (goodIn_of _ (by decide +kernel)) ggX11_fault_X11_moves
theorem dX11_fault_0 : decode cX11_fault 0 = .ok (.iload_n 1, 1) := by decide +kernel
theorem dX11_fault_1 : decode cX11_fault 1 = .ok (.iconst 0, 1) := by decide +kernel
theorem dX11_fault_2 : decode cX11_fault 2 = .ok (.iconst 1, 1) := by decide +kernel
theorem dX11_fault_3 : decode cX11_fault 3 = .ok (.invokestatic 57, 3) := by decide +kernel
theorem dX11_fault_6 : decode cX11_fault 6 = .ok (.ifCond .ne 5, 3) := by decide +kernel
theorem dX11_fault_9 : decode cX11_fault 9 = .ok (.iconst (-1), 1) := by decide +kernel
theorem dX11_fault_10 : decode cX11_fault 10 = .ok (.ireturn, 1) := by decide +kernel
theorem dX11_fault_11 : decode cX11_fault 11 = .ok (.aload_n 0, 1) := by decide +kernel
theorem dX11_fault_12 : decode cX11_fault 12 = .ok (.invokevirtual 190, 3) := by decide +kernel
theorem dX11_fault_15 : decode cX11_fault 15 = .ok (.istore_n 2, 1) := by decide +kernel
theorem dX11_fault_16 : decode cX11_fault 16 = .ok (.iload_n 2, 1) := by decide +kernel
theorem dX11_fault_17 : decode cX11_fault 17 = .ok (.ifCond .ne 8, 3) := by decide +kernel
theorem dX11_fault_20 : decode cX11_fault 20 = .ok (.bipush (-4), 2) := by decide +kernel
theorem dX11_fault_22 : decode cX11_fault 22 = .ok (.goto 15, 3) := by decide +kernel
theorem dX11_fault_25 : decode cX11_fault 25 = .ok (.iload_n 1, 1) := by decide +kernel
theorem dX11_fault_26 : decode cX11_fault 26 = .ok (.ifCond .ne 10, 3) := by decide +kernel
theorem dX11_fault_29 : decode cX11_fault 29 = .ok (.aload_n 0, 1) := by decide +kernel
theorem dX11_fault_30 : decode cX11_fault 30 = .ok (.getfield 187, 3) := by decide +kernel
theorem dX11_fault_33 : decode cX11_fault 33 = .ok (.goto 4, 3) := by decide +kernel
theorem dX11_fault_36 : decode cX11_fault 36 = .ok (.iload_n 2, 1) := by decide +kernel
theorem dX11_fault_37 : decode cX11_fault 37 = .ok (.ireturn, 1) := by decide +kernel
set_option maxRecDepth 20000 in
theorem ggX11_moved_X11_moves : GoodIn wsX11_moved wsX11_moves := goodIn_r _ [6, 7, 1, 8, 9, 10, 11, 12, 5, 13, 14, 15, 16, 17, 18, 19, 20, 21, 22, 23, 24, 25, 26, 27, 28, 29, 30, 31, 32, 33, 34, 35, 36, 37, 38, 39, 40, 41, 42, 43, 44, 45, 46, 47, 48, 49, 50, 51, 52, 53, 54, 55, 56, 57, 58, 59, 60, 61, 62, 63, 64, 65, 66, 67] (by decide +kernel) (by decide +kernel)
set_option maxRecDepth 20000 in
theorem gX11_moved_X11_moves : GoodIn wsX11_moved (wsV RX11 190 RX11 yX11_moves wsX11_moves) := goodIn_app (goodIn_of _ (by decide +kernel)) ggX11_moved_X11_moves
theorem dX11_moved_0 : decode cX11_moved 0 = .ok (.aload_n 0, 1) := by decide +kernel
theorem dX11_moved_1 : decode cX11_moved 1 = .ok (.invokevirtual 190, 3) := by decide +kernel
theorem dX11_moved_4 : decode cX11_moved 4 = .ok (.istore_n 1, 1) := by decide +kernel
theorem dX11_moved_5 : decode cX11_moved 5 = .ok (.aload_n 0, 1) := by decide +kernel
theorem dX11_moved_6 : decode cX11_moved 6 = .ok (.getfield 181, 3) := by decide +kernel
theorem dX11_moved_9 : decode cX11_moved 9 = .ok (.ireturn, 1) := by decide +kernel
theorem dJ11_isValidCodePoint_9a6ad_0 : decode cJ11_isValidCodePoint_9a6ad 0 = .ok (.iload_n 0, 1) := by decide +kernel
theorem dJ11_isValidCodePoint_9a6ad_1 : decode cJ11_isValidCodePoint_9a6ad 1 = .ok (.bipush 16, 2) := by decide +kernel
theorem dJ11_isValidCodePoint_9a6ad_3 : decode cJ11_isValidCodePoint_9a6ad 3 = .ok (.iushr, 1) := by decide +kernel
theorem dJ11_isValidCodePoint_9a6ad_4 : decode cJ11_isValidCodePoint_9a6ad 4 = .ok (.istore_n 1, 1) := by decide +kernel
theorem dJ11_isValidCodePoint_9a6ad_5 : decode cJ11_isValidCodePoint_9a6ad 5 = .ok (.iload_n 1, 1) := by decide +kernel
theorem dJ11_isValidCodePoint_9a6ad_6 : decode cJ11_isValidCodePoint_9a6ad 6 = .ok (.bipush 17, 2) := by decide +kernel
theorem dJ11_isValidCodePoint_9a6ad_8 : decode cJ11_isValidCodePoint_9a6ad 8 = .ok (.if_icmp .ge 7, 3) := by decide +kernel
theorem dJ11_isValidCodePoint_9a6ad_11 : decode cJ11_isValidCodePoint_9a6ad 11 = .ok (.iconst 1, 1) := by decide +kernel
theorem dJ11_isValidCodePoint_9a6ad_12 : decode cJ11_isValidCodePoint_9a6ad 12 = .ok (.goto 4, 3) := by decide +kernel
theorem dJ11_isValidCodePoint_9a6ad_15 : decode cJ11_isValidCodePoint_9a6ad 15 = .ok (.iconst 0, 1) := by decide +kernel
theorem dJ11_isValidCodePoint_9a6ad_16 : decode cJ11_isValidCodePoint_9a6ad 16 = .ok (.ireturn, 1) := by decide +kernel
theorem dJ11_highSurrogate_5068e_0 : decode cJ11_highSurrogate_5068e 0 = .ok (.iload_n 0, 1) := by decide +kernel
theorem dJ11_highSurrogate_5068e_1 : decode cJ11_highSurrogate_5068e 1 = .ok (.bipush 10, 2) := by decide +kernel
theorem dJ11_highSurrogate_5068e_3 : decode cJ11_highSurrogate_5068e 3 = .ok (.iushr, 1) := by decide +kernel
theorem dJ11_highSurrogate_5068e_4 : decode cJ11_highSurrogate_5068e 4 = .ok (.ldc 110, 2) := by decide +kernel
theorem dJ11_highSurrogate_5068e_6 : decode cJ11_highSurrogate_5068e 6 = .ok (.iadd, 1) := by decide +kernel
theorem dJ11_highSurrogate_5068e_7 : decode cJ11_highSurrogate_5068e 7 = .ok (.i2c, 1) := by decide +kernel
theorem dJ11_highSurrogate_5068e_8 : decode cJ11_highSurrogate_5068e 8 = .ok (.ireturn, 1) := by decide +kernel
theorem dJ11_lowSurrogate_5068e_0 : decode cJ11_lowSurrogate_5068e 0 = .ok (.iload_n 0, 1) := by decide +kernel
theorem dJ11_lowSurrogate_5068e_1 : decode cJ11_lowSurrogate_5068e 1 = .ok (.sipush 1023, 3) := by decide +kernel
theorem dJ11_lowSurrogate_5068e_4 : decode cJ11_lowSurrogate_5068e 4 = .ok (.iand, 1) := by decide +kernel
theorem dJ11_lowSurrogate_5068e_5 : decode cJ11_lowSurrogate_5068e 5 = .ok (.ldc 76, 2) := by decide +kernel
theorem dJ11_lowSurrogate_5068e_7 : decode cJ11_lowSurrogate_5068e 7 = .ok (.iadd, 1) := by decide +kernel
theorem dJ11_lowSurrogate_5068e_8 : decode cJ11_lowSurrogate_5068e 8 = .ok (.i2c, 1) := by decide +kernel
theorem dJ11_lowSurrogate_5068e_9 : decode cJ11_lowSurrogate_5068e 9 = .ok (.ireturn, 1) := by decide +kernel
theorem dJ6_bitCount_0f7a4_0 : decode cJ6_bitCount_0f7a4 0 = .ok (.iload_n 0, 1) := by decide +kernel
theorem dJ6_bitCount_0f7a4_1 : decode cJ6_bitCount_0f7a4 1 = .ok (.iload_n 0, 1) := by decide +kernel
theorem dJ6_bitCount_0f7a4_2 : decode cJ6_bitCount_0f7a4 2 = .ok (.iconst 1, 1) := by decide +kernel
theorem dJ6_bitCount_0f7a4_3 : decode cJ6_bitCount_0f7a4 3 = .ok (.iushr, 1) := by decide +kernel
theorem dJ6_bitCount_0f7a4_4 : decode cJ6_bitCount_0f7a4 4 = .ok (.ldc_w 265, 3) := by decide +kernel
theorem dJ6_bitCount_0f7a4_7 : decode cJ6_bitCount_0f7a4 7 = .ok (.iand, 1) := by decide +kernel
theorem dJ6_bitCount_0f7a4_8 : decode cJ6_bitCount_0f7a4 8 = .ok (.isub, 1) := by decide +kernel
theorem dJ6_bitCount_0f7a4_9 : decode cJ6_bitCount_0f7a4 9 = .ok (.istore_n 0, 1) := by decide +kernel
theorem dJ6_bitCount_0f7a4_10 : decode cJ6_bitCount_0f7a4 10 = .ok (.iload_n 0, 1) := by decide +kernel
theorem dJ6_bitCount_0f7a4_11 : decode cJ6_bitCount_0f7a4 11 = .ok (.ldc_w 266, 3) := by decide +kernel
theorem dJ6_bitCount_0f7a4_14 : decode cJ6_bitCount_0f7a4 14 = .ok (.iand, 1) := by decide +kernel
theorem dJ6_bitCount_0f7a4_15 : decode cJ6_bitCount_0f7a4 15 = .ok (.iload_n 0, 1) := by decide +kernel
theorem dJ6_bitCount_0f7a4_16 : decode cJ6_bitCount_0f7a4 16 = .ok (.iconst 2, 1) := by decide +kernel
theorem dJ6_bitCount_0f7a4_17 : decode cJ6_bitCount_0f7a4 17 = .ok (.iushr, 1) := by decide +kernel
theorem dJ6_bitCount_0f7a4_18 : decode cJ6_bitCount_0f7a4 18 = .ok (.ldc_w 266, 3) := by decide +kernel
theorem dJ6_bitCount_0f7a4_21 : decode cJ6_bitCount_0f7a4 21 = .ok (.iand, 1) := by decide +kernel
theorem dJ6_bitCount_0f7a4_22 : decode cJ6_bitCount_0f7a4 22 = .ok (.iadd, 1) := by decide +kernel
theorem dJ6_bitCount_0f7a4_23 : decode cJ6_bitCount_0f7a4 23 = .ok (.istore_n 0, 1) := by decide +kernel
theorem dJ6_bitCount_0f7a4_24 : decode cJ6_bitCount_0f7a4 24 = .ok (.iload_n 0, 1) := by decide +kernel
theorem dJ6_bitCount_0f7a4_25 : decode cJ6_bitCount_0f7a4 25 = .ok (.iload_n 0, 1) := by decide +kernel
theorem dJ6_bitCount_0f7a4_26 : decode cJ6_bitCount_0f7a4 26 = .ok (.iconst 4, 1) := by decide +kernel
theorem dJ6_bitCount_0f7a4_27 : decode cJ6_bitCount_0f7a4 27 = .ok (.iushr, 1) := by decide +kernel
theorem dJ6_bitCount_0f7a4_28 : decode cJ6_bitCount_0f7a4 28 = .ok (.iadd, 1) := by decide +kernel
theorem dJ6_bitCount_0f7a4_29 : decode cJ6_bitCount_0f7a4 29 = .ok (.ldc_w 267, 3) := by decide +kernel
theorem dJ6_bitCount_0f7a4_32 : decode cJ6_bitCount_0f7a4 32 = .ok (.iand, 1) := by decide +kernel
theorem dJ6_bitCount_0f7a4_33 : decode cJ6_bitCount_0f7a4 33 = .ok (.istore_n 0, 1) := by decide +kernel
theorem dJ6_bitCount_0f7a4_34 : decode cJ6_bitCount_0f7a4 34 = .ok (.iload_n 0, 1) := by decide +kernel
theorem dJ6_bitCount_0f7a4_35 : decode cJ6_bitCount_0f7a4 35 = .ok (.iload_n 0, 1) := by decide +kernel
theorem dJ6_bitCount_0f7a4_36 : decode cJ6_bitCount_0f7a4 36 = .ok (.bipush 8, 2) := by decide +kernel
theorem dJ6_bitCount_0f7a4_38 : decode cJ6_bitCount_0f7a4 38 = .ok (.iushr, 1) := by decide +kernel
theorem dJ6_bitCount_0f7a4_39 : decode cJ6_bitCount_0f7a4 39 = .ok (.iadd, 1) := by decide +kernel
theorem dJ6_bitCount_0f7a4_40 : decode cJ6_bitCount_0f7a4 40 = .ok (.istore_n 0, 1) := by decide +kernel
theorem dJ6_bitCount_0f7a4_41 : decode cJ6_bitCount_0f7a4 41 = .ok (.iload_n 0, 1) := by decide +kernel
theorem dJ6_bitCount_0f7a4_42 : decode cJ6_bitCount_0f7a4 42 = .ok (.iload_n 0, 1) := by decide +kernel
theorem dJ6_bitCount_0f7a4_43 : decode cJ6_bitCount_0f7a4 43 = .ok (.bipush 16, 2) := by decide +kernel
theorem dJ6_bitCount_0f7a4_45 : decode cJ6_bitCount_0f7a4 45 = .ok (.iushr, 1) := by decide +kernel
theorem dJ6_bitCount_0f7a4_46 : decode cJ6_bitCount_0f7a4 46 = .ok (.iadd, 1) := by decide +kernel
theorem dJ6_bitCount_0f7a4_47 : decode cJ6_bitCount_0f7a4 47 = .ok (.istore_n 0, 1) := by decide +kernel
theorem dJ6_bitCount_0f7a4_48 : decode cJ6_bitCount_0f7a4 48 = .ok (.iload_n 0, 1) := by decide +kernel
theorem dJ6_bitCount_0f7a4_49 : decode cJ6_bitCount_0f7a4 49 = .ok (.bipush 63, 2) := by decide +kernel
theorem dJ6_bitCount_0f7a4_51 : decode cJ6_bitCount_0f7a4 51 = .ok (.iand, 1) := by decide +kernel
theorem dJ6_bitCount_0f7a4_52 : decode cJ6_bitCount_0f7a4 52 = .ok (.ireturn, 1) := by decide +kernel
theorem dJ9_max_7cf53_0 : decode cJ9_max_7cf53 0 = .ok (.iload_n 0, 1) := by decide +kernel
theorem dJ9_max_7cf53_1 : decode cJ9_max_7cf53 1 = .ok (.iload_n 1, 1) := by decide +kernel
theorem dJ9_max_7cf53_2 : decode cJ9_max_7cf53 2 = .ok (.if_icmp .lt 7, 3) := by decide +kernel
theorem dJ9_max_7cf53_5 : decode cJ9_max_7cf53 5 = .ok (.iload_n 0, 1) := by decide +kernel
theorem dJ9_max_7cf53_6 : decode cJ9_max_7cf53 6 = .ok (.goto 4, 3) := by decide +kernel
theorem dJ9_max_7cf53_9 : decode cJ9_max_7cf53 9 = .ok (.iload_n 1, 1) := by decide +kernel
theorem dJ9_max_7cf53_10 : decode cJ9_max_7cf53 10 = .ok (.ireturn, 1) := by decide +kernel
theorem dJ9_min_7cf53_0 : decode cJ9_min_7cf53 0 = .ok (.iload_n 0, 1) := by decide +kernel
theorem dJ9_min_7cf53_1 : decode cJ9_min_7cf53 1 = .ok (.iload_n 1, 1) := by decide +kernel
theorem dJ9_min_7cf53_2 : decode cJ9_min_7cf53 2 = .ok (.if_icmp .gt 7, 3) := by decide +kernel
theorem dJ9_min_7cf53_5 : decode cJ9_min_7cf53 5 = .ok (.iload_n 0, 1) := by decide +kernel
theorem dJ9_min_7cf53_6 : decode cJ9_min_7cf53 6 = .ok (.goto 4, 3) := by decide +kernel
theorem dJ9_min_7cf53_9 : decode cJ9_min_7cf53 9 = .ok (.iload_n 1, 1) := by decide +kernel
theorem dJ9_min_7cf53_10 : decode cJ9_min_7cf53 10 = .ok (.ireturn, 1) := by decide +kernel
set_option maxRecDepth 20000 in
theorem ggJ0_length_8abf5_J0_coder_7d493 : GoodIn wsJ0_length_8abf5 wsJ0_coder_7d493 := goodIn_r _ [6, 7, 8] (by decide +kernel) (by decide +kernel)
set_option maxRecDepth 20000 in
theorem gJ0_length_8abf5_J0_coder_7d493 : GoodIn wsJ0_length_8abf5 (wsV RJ0 335 RJ0 yJ0_coder_7d493 wsJ0_coder_7d493) := goodIn_app (goodIn_of _ (by decide +kernel)) ggJ0_length_8abf5_J0_coder_7d493
theorem dJ0_length_8abf5_0 : decode cJ0_length_8abf5 0 = .ok (.aload_n 0, 1) := by decide +kernel
theorem dJ0_length_8abf5_1 : decode cJ0_length_8abf5 1 = .ok (.getfield 9, 3) := by decide +kernel
theorem dJ0_length_8abf5_4 : decode cJ0_length_8abf5 4 = .ok (.arraylength, 1) := by decide +kernel
theorem dJ0_length_8abf5_5 : decode cJ0_length_8abf5 5 = .ok (.aload_n 0, 1) := by decide +kernel
theorem dJ0_length_8abf5_6 : decode cJ0_length_8abf5 6 = .ok (.invokevirtual 335, 3) := by decide +kernel
theorem dJ0_length_8abf5_9 : decode cJ0_length_8abf5 9 = .ok (.ishr, 1) := by decide +kernel
theorem dJ0_length_8abf5_10 : decode cJ0_length_8abf5 10 = .ok (.ireturn, 1) := by decide +kernel
set_option maxRecDepth 20000 in
theorem ggJ0_indexOf_0f7a4_J0_indexOf_7cf53 : GoodIn wsJ0_indexOf_0f7a4 wsJ0_indexOf_7cf53 := goodIn_r _ [5, 6, 7, 8, 9, 4, 10, 11, 12, 13, 14, 15, 16, 17, 18, 19, 20, 21, 22, 23, 24, 25, 26, 27, 28, 29, 30, 31, 32, 33, 34, 35, 36, 37, 38, 39, 40, 41, 42, 43, 44, 45, 46, 47, 48, 49, 50, 51, 52, 53, 54, 55, 56, 57, 58, 59, 60, 61, 62, 63, 64, 65, 66, 67, 68, 69, 70, 71, 72, 73, 74, 75, 76, 77, 78, 79, 80, 81, 82, 83, 84, 85] (by decide +kernel) (by decide +kernel)
set_option maxRecDepth 20000 in
theorem gJ0_indexOf_0f7a4_J0_indexOf_7cf53 : GoodIn wsJ0_indexOf_0f7a4 (wsV RJ0 633 RJ0 yJ0_indexOf_7cf53 wsJ0_indexOf_7cf53) := goodIn_app (goodIn_of _ (by decide +kernel)) ggJ0_indexOf_0f7a4_J0_indexOf_7cf53
theorem dJ0_indexOf_0f7a4_0 : decode cJ0_indexOf_0f7a4 0 = .ok (.aload_n 0, 1) := by decide +kernel
theorem dJ0_indexOf_0f7a4_1 : decode cJ0_indexOf_0f7a4 1 = .ok (.iload_n 1, 1) := by decide +kernel
theorem dJ0_indexOf_0f7a4_2 : decode cJ0_indexOf_0f7a4 2 = .ok (.iconst 0, 1) := by decide +kernel
theorem dJ0_indexOf_0f7a4_3 : decode cJ0_indexOf_0f7a4 3 = .ok (.invokevirtual 633, 3) := by decide +kernel
theorem dJ0_indexOf_0f7a4_6 : decode cJ0_indexOf_0f7a4 6 = .ok (.ireturn, 1) := by decide +kernel
set_option maxRecDepth 20000 in
theorem ggJ0_indexOf_7cf53_J0_isLatin1_aae02 : GoodIn wsJ0_indexOf_7cf53 wsJ0_isLatin1_aae02 := goodIn_r _ [6, 7, 8] (by decide +kernel) (by decide +kernel)
set_option maxRecDepth 20000 in
theorem gJ0_indexOf_7cf53_J0_isLatin1_aae02 : GoodIn wsJ0_indexOf_7cf53 (wsV RJ0 492 RJ0 yJ0_isLatin1_aae02 wsJ0_isLatin1_aae02) := goodIn_app (goodIn_of _ (by decide +kernel)) ggJ0_indexOf_7cf53_J0_isLatin1_aae02
set_option maxRecDepth 20000 in
theorem ggJ0_indexOf_7cf53_J0_length_8abf5 : GoodIn wsJ0_indexOf_7cf53 wsJ0_length_8abf5 := goodIn_r _ [12, 1, 13, 14, 15, 5, 16, 7, 8] (by decide +kernel) (by decide +kernel)
set_option maxRecDepth 20000 in
theorem gJ0_indexOf_7cf53_J0_length_8abf5 : GoodIn wsJ0_indexOf_7cf53 (wsV RJ0 505 RJ0 yJ0_length_8abf5 wsJ0_length_8abf5) := goodIn_app (goodIn_of _ (by decide +kernel)) ggJ0_indexOf_7cf53_J0_length_8abf5
set_option maxRecDepth 20000 in
theorem ggJ0_indexOf_7cf53_J1_indexOf_4cfef : GoodIn wsJ0_indexOf_7cf53 wsJ1_indexOf_4cfef := goodIn_r _ [20, 21, 22, 23, 24, 25, 26, 27, 28, 29, 19, 30, 31, 32, 33] (by decide +kernel) (by decide +kernel)
set_option maxRecDepth 20000 in
theorem gJ0_indexOf_7cf53_J1_indexOf_4cfef : GoodIn wsJ0_indexOf_7cf53 (va_wsS RJ0 637 yJ1_indexOf_4cfef wsJ1_indexOf_4cfef) := goodIn_app (goodIn_of _ (by decide +kernel)) ggJ0_indexOf_7cf53_J1_indexOf_4cfef
set_option maxRecDepth 20000 in
theorem ggJ0_indexOf_7cf53_J2_indexOf_4cfef : GoodIn wsJ0_indexOf_7cf53 wsJ2_indexOf_4cfef := goodIn_r _ [37, 38, 22, 23, 24, 39, 26, 27, 40, 41, 42, 36, 43, 44, 45, 46, 47, 48, 49, 50, 51, 5, 52, 53, 54, 55, 56, 57, 58, 59, 60, 61, 62, 63, 64, 65, 66, 67, 68, 69, 70, 71, 72, 73, 74, 75, 76, 77, 78, 79, 80, 81] (by decide +kernel) (by decide +kernel)
set_option maxRecDepth 20000 in
theorem gJ0_indexOf_7cf53_J2_indexOf_4cfef : GoodIn wsJ0_indexOf_7cf53 (va_wsS RJ0 640 yJ2_indexOf_4cfef wsJ2_indexOf_4cfef) := goodIn_app (goodIn_of _ (by decide +kernel)) ggJ0_indexOf_7cf53_J2_indexOf_4cfef
theorem dJ0_indexOf_7cf53_0 : decode cJ0_indexOf_7cf53 0 = .ok (.aload_n 0, 1) := by decide +kernel
theorem dJ0_indexOf_7cf53_1 : decode cJ0_indexOf_7cf53 1 = .ok (.invokevirtual 492, 3) := by decide +kernel
theorem dJ0_indexOf_7cf53_4 : decode cJ0_indexOf_7cf53 4 = .ok (.ifCond .eq 19, 3) := by decide +kernel
theorem dJ0_indexOf_7cf53_7 : decode cJ0_indexOf_7cf53 7 = .ok (.aload_n 0, 1) := by decide +kernel
theorem dJ0_indexOf_7cf53_8 : decode cJ0_indexOf_7cf53 8 = .ok (.getfield 9, 3) := by decide +kernel
theorem dJ0_indexOf_7cf53_11 : decode cJ0_indexOf_7cf53 11 = .ok (.iload_n 1, 1) := by decide +kernel
theorem dJ0_indexOf_7cf53_12 : decode cJ0_indexOf_7cf53 12 = .ok (.iload_n 2, 1) := by decide +kernel
theorem dJ0_indexOf_7cf53_13 : decode cJ0_indexOf_7cf53 13 = .ok (.aload_n 0, 1) := by decide +kernel
theorem dJ0_indexOf_7cf53_14 : decode cJ0_indexOf_7cf53 14 = .ok (.invokevirtual 505, 3) := by decide +kernel
theorem dJ0_indexOf_7cf53_17 : decode cJ0_indexOf_7cf53 17 = .ok (.invokestatic 637, 3) := by decide +kernel
theorem dJ0_indexOf_7cf53_20 : decode cJ0_indexOf_7cf53 20 = .ok (.goto 16, 3) := by decide +kernel
theorem dJ0_indexOf_7cf53_23 : decode cJ0_indexOf_7cf53 23 = .ok (.aload_n 0, 1) := by decide +kernel
theorem dJ0_indexOf_7cf53_24 : decode cJ0_indexOf_7cf53 24 = .ok (.getfield 9, 3) := by decide +kernel
theorem dJ0_indexOf_7cf53_27 : decode cJ0_indexOf_7cf53 27 = .ok (.iload_n 1, 1) := by decide +kernel
theorem dJ0_indexOf_7cf53_28 : decode cJ0_indexOf_7cf53 28 = .ok (.iload_n 2, 1) := by decide +kernel
theorem dJ0_indexOf_7cf53_29 : decode cJ0_indexOf_7cf53 29 = .ok (.aload_n 0, 1) := by decide +kernel
theorem dJ0_indexOf_7cf53_30 : decode cJ0_indexOf_7cf53 30 = .ok (.invokevirtual 505, 3) := by decide +kernel
theorem dJ0_indexOf_7cf53_33 : decode cJ0_indexOf_7cf53 33 = .ok (.invokestatic 640, 3) := by decide +kernel
theorem dJ0_indexOf_7cf53_36 : decode cJ0_indexOf_7cf53 36 = .ok (.ireturn, 1) := by decide +kernel
theorem dJ0_coder_7d493_0 : decode cJ0_coder_7d493 0 = .ok (.getstatic 38, 3) := by decide +kernel
theorem dJ0_coder_7d493_3 : decode cJ0_coder_7d493 3 = .ok (.ifCond .eq 10, 3) := by decide +kernel
theorem dJ0_coder_7d493_6 : decode cJ0_coder_7d493 6 = .ok (.aload_n 0, 1) := by decide +kernel
theorem dJ0_coder_7d493_7 : decode cJ0_coder_7d493 7 = .ok (.getfield 15, 3) := by decide +kernel
theorem dJ0_coder_7d493_10 : decode cJ0_coder_7d493 10 = .ok (.goto 4, 3) := by decide +kernel
theorem dJ0_coder_7d493_13 : decode cJ0_coder_7d493 13 = .ok (.iconst 1, 1) := by decide +kernel
theorem dJ0_coder_7d493_14 : decode cJ0_coder_7d493 14 = .ok (.ireturn, 1) := by decide +kernel
theorem dJ0_isLatin1_aae02_0 : decode cJ0_isLatin1_aae02 0 = .ok (.getstatic 38, 3) := by decide +kernel
theorem dJ0_isLatin1_aae02_3 : decode cJ0_isLatin1_aae02 3 = .ok (.ifCond .eq 14, 3) := by decide +kernel
theorem dJ0_isLatin1_aae02_6 : decode cJ0_isLatin1_aae02 6 = .ok (.aload_n 0, 1) := by decide +kernel
theorem dJ0_isLatin1_aae02_7 : decode cJ0_isLatin1_aae02 7 = .ok (.getfield 15, 3) := by decide +kernel
theorem dJ0_isLatin1_aae02_10 : decode cJ0_isLatin1_aae02 10 = .ok (.ifCond .ne 7, 3) := by decide +kernel
theorem dJ0_isLatin1_aae02_13 : decode cJ0_isLatin1_aae02 13 = .ok (.iconst 1, 1) := by decide +kernel
theorem dJ0_isLatin1_aae02_14 : decode cJ0_isLatin1_aae02 14 = .ok (.goto 4, 3) := by decide +kernel
theorem dJ0_isLatin1_aae02_17 : decode cJ0_isLatin1_aae02 17 = .ok (.iconst 0, 1) := by decide +kernel
theorem dJ0_isLatin1_aae02_18 : decode cJ0_isLatin1_aae02 18 = .ok (.ireturn, 1) := by decide +kernel
set_option maxRecDepth 20000 in
theorem ggJ0_checkBoundsBeginEnd_23922_J3_checkFromToIndex_8c36e : GoodIn wsJ0_checkBoundsBeginEnd_23922 wsJ3_checkFromToIndex_8c36e := goodIn_r _ [5] (by decide +kernel) (by decide +kernel)
set_option maxRecDepth 20000 in
theorem gJ0_checkBoundsBeginEnd_23922_J3_checkFromToIndex_8c36e : GoodIn wsJ0_checkBoundsBeginEnd_23922 (va_wsS RJ0 1062 yJ3_checkFromToIndex_8c36e wsJ3_checkFromToIndex_8c36e) := goodIn_app (goodIn_of _ (by decide +kernel)) ggJ0_checkBoundsBeginEnd_23922_J3_checkFromToIndex_8c36e
theorem dJ0_checkBoundsBeginEnd_23922_0 : decode cJ0_checkBoundsBeginEnd_23922 0 = .ok (.iload_n 0, 1) := by decide +kernel
theorem dJ0_checkBoundsBeginEnd_23922_1 : decode cJ0_checkBoundsBeginEnd_23922 1 = .ok (.iload_n 1, 1) := by decide +kernel
theorem dJ0_checkBoundsBeginEnd_23922_2 : decode cJ0_checkBoundsBeginEnd_23922 2 = .ok (.iload_n 2, 1) := by decide +kernel
theorem dJ0_checkBoundsBeginEnd_23922_3 : decode cJ0_checkBoundsBeginEnd_23922 3 = .ok (.getstatic 1053, 3) := by decide +kernel
theorem dJ0_checkBoundsBeginEnd_23922_6 : decode cJ0_checkBoundsBeginEnd_23922 6 = .ok (.invokestatic 1062, 3) := by decide +kernel
theorem dJ0_checkBoundsBeginEnd_23922_9 : decode cJ0_checkBoundsBeginEnd_23922 9 = .ok (.pop, 1) := by decide +kernel
theorem dJ0_checkBoundsBeginEnd_23922_10 : decode cJ0_checkBoundsBeginEnd_23922 10 = .ok (.return_, 1) := by decide +kernel
theorem dJ1_canEncode_9a6ad_0 : decode cJ1_canEncode_9a6ad 0 = .ok (.iload_n 0, 1) := by decide +kernel
theorem dJ1_canEncode_9a6ad_1 : decode cJ1_canEncode_9a6ad 1 = .ok (.ifCond .lt 14, 3) := by decide +kernel
theorem dJ1_canEncode_9a6ad_4 : decode cJ1_canEncode_9a6ad 4 = .ok (.iload_n 0, 1) := by decide +kernel
theorem dJ1_canEncode_9a6ad_5 : decode cJ1_canEncode_9a6ad 5 = .ok (.sipush 255, 3) := by decide +kernel
theorem dJ1_canEncode_9a6ad_8 : decode cJ1_canEncode_9a6ad 8 = .ok (.if_icmp .gt 7, 3) := by decide +kernel
theorem dJ1_canEncode_9a6ad_11 : decode cJ1_canEncode_9a6ad 11 = .ok (.iconst 1, 1) := by decide +kernel
theorem dJ1_canEncode_9a6ad_12 : decode cJ1_canEncode_9a6ad 12 = .ok (.goto 4, 3) := by decide +kernel
theorem dJ1_canEncode_9a6ad_15 : decode cJ1_canEncode_9a6ad 15 = .ok (.iconst 0, 1) := by decide +kernel
theorem dJ1_canEncode_9a6ad_16 : decode cJ1_canEncode_9a6ad 16 = .ok (.ireturn, 1) := by decide +kernel
set_option maxRecDepth 20000 in
theorem ggJ1_indexOf_4cfef_J1_canEncode_9a6ad : GoodIn wsJ1_indexOf_4cfef wsJ1_canEncode_9a6ad := goodIn_r _ [11] (by decide +kernel) (by decide +kernel)
set_option maxRecDepth 20000 in
theorem gJ1_indexOf_4cfef_J1_canEncode_9a6ad : GoodIn wsJ1_indexOf_4cfef (va_wsS RJ1 88 yJ1_canEncode_9a6ad wsJ1_canEncode_9a6ad) := goodIn_app (goodIn_of _ (by decide +kernel)) ggJ1_indexOf_4cfef_J1_canEncode_9a6ad
set_option maxRecDepth 20000 in
theorem ggJ1_indexOf_4cfef_J1_indexOfChar_4cfef : GoodIn wsJ1_indexOf_4cfef wsJ1_indexOfChar_4cfef := goodIn_r _ [14] (by decide +kernel) (by decide +kernel)
set_option maxRecDepth 20000 in
theorem gJ1_indexOf_4cfef_J1_indexOfChar_4cfef : GoodIn wsJ1_indexOf_4cfef (va_wsS RJ1 95 yJ1_indexOfChar_4cfef wsJ1_indexOfChar_4cfef) := goodIn_app (goodIn_of _ (by decide +kernel)) ggJ1_indexOf_4cfef_J1_indexOfChar_4cfef
theorem dJ1_indexOf_4cfef_0 : decode cJ1_indexOf_4cfef 0 = .ok (.iload_n 1, 1) := by decide +kernel
theorem dJ1_indexOf_4cfef_1 : decode cJ1_indexOf_4cfef 1 = .ok (.invokestatic 88, 3) := by decide +kernel
theorem dJ1_indexOf_4cfef_4 : decode cJ1_indexOf_4cfef 4 = .ok (.ifCond .ne 5, 3) := by decide +kernel
theorem dJ1_indexOf_4cfef_7 : decode cJ1_indexOf_4cfef 7 = .ok (.iconst (-1), 1) := by decide +kernel
theorem dJ1_indexOf_4cfef_8 : decode cJ1_indexOf_4cfef 8 = .ok (.ireturn, 1) := by decide +kernel
theorem dJ1_indexOf_4cfef_9 : decode cJ1_indexOf_4cfef 9 = .ok (.iload_n 2, 1) := by decide +kernel
theorem dJ1_indexOf_4cfef_10 : decode cJ1_indexOf_4cfef 10 = .ok (.iconst 0, 1) := by decide +kernel
theorem dJ1_indexOf_4cfef_11 : decode cJ1_indexOf_4cfef 11 = .ok (.invokestatic 92, 3) := by decide +kernel
theorem dJ1_indexOf_4cfef_14 : decode cJ1_indexOf_4cfef 14 = .ok (.istore_n 2, 1) := by decide +kernel
theorem dJ1_indexOf_4cfef_15 : decode cJ1_indexOf_4cfef 15 = .ok (.iload_n 3, 1) := by decide +kernel
theorem dJ1_indexOf_4cfef_16 : decode cJ1_indexOf_4cfef 16 = .ok (.aload_n 0, 1) := by decide +kernel
theorem dJ1_indexOf_4cfef_17 : decode cJ1_indexOf_4cfef 17 = .ok (.arraylength, 1) := by decide +kernel
theorem dJ1_indexOf_4cfef_18 : decode cJ1_indexOf_4cfef 18 = .ok (.invokestatic 38, 3) := by decide +kernel
theorem dJ1_indexOf_4cfef_21 : decode cJ1_indexOf_4cfef 21 = .ok (.istore_n 3, 1) := by decide +kernel
theorem dJ1_indexOf_4cfef_22 : decode cJ1_indexOf_4cfef 22 = .ok (.iload_n 2, 1) := by decide +kernel
theorem dJ1_indexOf_4cfef_23 : decode cJ1_indexOf_4cfef 23 = .ok (.iload_n 3, 1) := by decide +kernel
theorem dJ1_indexOf_4cfef_24 : decode cJ1_indexOf_4cfef 24 = .ok (.if_icmp .lt 5, 3) := by decide +kernel
theorem dJ1_indexOf_4cfef_27 : decode cJ1_indexOf_4cfef 27 = .ok (.iconst (-1), 1) := by decide +kernel
theorem dJ1_indexOf_4cfef_28 : decode cJ1_indexOf_4cfef 28 = .ok (.ireturn, 1) := by decide +kernel
theorem dJ1_indexOf_4cfef_29 : decode cJ1_indexOf_4cfef 29 = .ok (.aload_n 0, 1) := by decide +kernel
theorem dJ1_indexOf_4cfef_30 : decode cJ1_indexOf_4cfef 30 = .ok (.iload_n 1, 1) := by decide +kernel
theorem dJ1_indexOf_4cfef_31 : decode cJ1_indexOf_4cfef 31 = .ok (.iload_n 2, 1) := by decide +kernel
theorem dJ1_indexOf_4cfef_32 : decode cJ1_indexOf_4cfef 32 = .ok (.iload_n 3, 1) := by decide +kernel
theorem dJ1_indexOf_4cfef_33 : decode cJ1_indexOf_4cfef 33 = .ok (.invokestatic 95, 3) := by decide +kernel
theorem dJ1_indexOf_4cfef_36 : decode cJ1_indexOf_4cfef 36 = .ok (.ireturn, 1) := by decide +kernel
theorem dJ1_indexOfChar_4cfef_0 : decode cJ1_indexOfChar_4cfef 0 = .ok (.iload_n 1, 1) := by decide +kernel
theorem dJ1_indexOfChar_4cfef_1 : decode cJ1_indexOfChar_4cfef 1 = .ok (.i2b, 1) := by decide +kernel
theorem dJ1_indexOfChar_4cfef_2 : decode cJ1_indexOfChar_4cfef 2 = .ok (.istore 4, 2) := by decide +kernel
theorem dJ1_indexOfChar_4cfef_4 : decode cJ1_indexOfChar_4cfef 4 = .ok (.iload_n 2, 1) := by decide +kernel
theorem dJ1_indexOfChar_4cfef_5 : decode cJ1_indexOfChar_4cfef 5 = .ok (.istore 5, 2) := by decide +kernel
theorem dJ1_indexOfChar_4cfef_7 : decode cJ1_indexOfChar_4cfef 7 = .ok (.iload 5, 2) := by decide +kernel
theorem dJ1_indexOfChar_4cfef_9 : decode cJ1_indexOfChar_4cfef 9 = .ok (.iload_n 3, 1) := by decide +kernel
theorem dJ1_indexOfChar_4cfef_10 : decode cJ1_indexOfChar_4cfef 10 = .ok (.if_icmp .ge 21, 3) := by decide +kernel
theorem dJ1_indexOfChar_4cfef_13 : decode cJ1_indexOfChar_4cfef 13 = .ok (.aload_n 0, 1) := by decide +kernel
theorem dJ1_indexOfChar_4cfef_14 : decode cJ1_indexOfChar_4cfef 14 = .ok (.iload 5, 2) := by decide +kernel
theorem dJ1_indexOfChar_4cfef_16 : decode cJ1_indexOfChar_4cfef 16 = .ok (.baload, 1) := by decide +kernel
theorem dJ1_indexOfChar_4cfef_17 : decode cJ1_indexOfChar_4cfef 17 = .ok (.iload 4, 2) := by decide +kernel
theorem dJ1_indexOfChar_4cfef_19 : decode cJ1_indexOfChar_4cfef 19 = .ok (.if_icmp .ne 6, 3) := by decide +kernel
theorem dJ1_indexOfChar_4cfef_22 : decode cJ1_indexOfChar_4cfef 22 = .ok (.iload 5, 2) := by decide +kernel
theorem dJ1_indexOfChar_4cfef_24 : decode cJ1_indexOfChar_4cfef 24 = .ok (.ireturn, 1) := by decide +kernel
theorem dJ1_indexOfChar_4cfef_25 : decode cJ1_indexOfChar_4cfef 25 = .ok (.iinc 5 1, 3) := by decide +kernel
theorem dJ1_indexOfChar_4cfef_28 : decode cJ1_indexOfChar_4cfef 28 = .ok (.goto (-21), 3) := by decide +kernel
theorem dJ1_indexOfChar_4cfef_31 : decode cJ1_indexOfChar_4cfef 31 = .ok (.iconst (-1), 1) := by decide +kernel
theorem dJ1_indexOfChar_4cfef_32 : decode cJ1_indexOfChar_4cfef 32 = .ok (.ireturn, 1) := by decide +kernel
set_option maxRecDepth 20000 in
theorem ggJ2_getChar_3b067_J2_length_9d52b : GoodIn wsJ2_getChar_3b067 wsJ2_length_9d52b := goodIn_r _ [7] (by decide +kernel) (by decide +kernel)
set_option maxRecDepth 20000 in
theorem gJ2_getChar_3b067_J2_length_9d52b : GoodIn wsJ2_getChar_3b067 (va_wsS RJ2 48 yJ2_length_9d52b wsJ2_length_9d52b) := goodIn_app (goodIn_of _ (by decide +kernel)) ggJ2_getChar_3b067_J2_length_9d52b
theorem dJ2_getChar_3b067_0 : decode cJ2_getChar_3b067 0 = .ok (.getstatic 44, 3) := by decide +kernel
theorem dJ2_getChar_3b067_3 : decode cJ2_getChar_3b067 3 = .ok (.ifCond .ne 25, 3) := by decide +kernel
theorem dJ2_getChar_3b067_6 : decode cJ2_getChar_3b067 6 = .ok (.iload_n 1, 1) := by decide +kernel
theorem dJ2_getChar_3b067_7 : decode cJ2_getChar_3b067 7 = .ok (.ifCond .lt 11, 3) := by decide +kernel
theorem dJ2_getChar_3b067_10 : decode cJ2_getChar_3b067 10 = .ok (.iload_n 1, 1) := by decide +kernel
theorem dJ2_getChar_3b067_11 : decode cJ2_getChar_3b067 11 = .ok (.aload_n 0, 1) := by decide +kernel
theorem dJ2_getChar_3b067_12 : decode cJ2_getChar_3b067 12 = .ok (.invokestatic 48, 3) := by decide +kernel
theorem dJ2_getChar_3b067_15 : decode cJ2_getChar_3b067 15 = .ok (.if_icmp .lt 13, 3) := by decide +kernel
theorem dJ2_getChar_3b067_18 : decode cJ2_getChar_3b067 18 = .ok (.new 52, 3) := by decide +kernel
theorem dJ2_getChar_3b067_21 : decode cJ2_getChar_3b067 21 = .ok (.dup, 1) := by decide +kernel
theorem dJ2_getChar_3b067_22 : decode cJ2_getChar_3b067 22 = .ok (.ldc 54, 2) := by decide +kernel
theorem dJ2_getChar_3b067_24 : decode cJ2_getChar_3b067 24 = .ok (.invokespecial 56, 3) := by decide +kernel
theorem dJ2_getChar_3b067_27 : decode cJ2_getChar_3b067 27 = .ok (.athrow, 1) := by decide +kernel
theorem dJ2_getChar_3b067_28 : decode cJ2_getChar_3b067 28 = .ok (.iload_n 1, 1) := by decide +kernel
theorem dJ2_getChar_3b067_29 : decode cJ2_getChar_3b067 29 = .ok (.iconst 1, 1) := by decide +kernel
theorem dJ2_getChar_3b067_30 : decode cJ2_getChar_3b067 30 = .ok (.ishl, 1) := by decide +kernel
theorem dJ2_getChar_3b067_31 : decode cJ2_getChar_3b067 31 = .ok (.istore_n 1, 1) := by decide +kernel
theorem dJ2_getChar_3b067_32 : decode cJ2_getChar_3b067 32 = .ok (.aload_n 0, 1) := by decide +kernel
theorem dJ2_getChar_3b067_33 : decode cJ2_getChar_3b067 33 = .ok (.iload_n 1, 1) := by decide +kernel
theorem dJ2_getChar_3b067_34 : decode cJ2_getChar_3b067 34 = .ok (.iinc 1 1, 3) := by decide +kernel
theorem dJ2_getChar_3b067_37 : decode cJ2_getChar_3b067 37 = .ok (.baload, 1) := by decide +kernel
theorem dJ2_getChar_3b067_38 : decode cJ2_getChar_3b067 38 = .ok (.sipush 255, 3) := by decide +kernel
theorem dJ2_getChar_3b067_41 : decode cJ2_getChar_3b067 41 = .ok (.iand, 1) := by decide +kernel
theorem dJ2_getChar_3b067_42 : decode cJ2_getChar_3b067 42 = .ok (.getstatic 59, 3) := by decide +kernel
theorem dJ2_getChar_3b067_45 : decode cJ2_getChar_3b067 45 = .ok (.ishl, 1) := by decide +kernel
theorem dJ2_getChar_3b067_46 : decode cJ2_getChar_3b067 46 = .ok (.aload_n 0, 1) := by decide +kernel
theorem dJ2_getChar_3b067_47 : decode cJ2_getChar_3b067 47 = .ok (.iload_n 1, 1) := by decide +kernel
theorem dJ2_getChar_3b067_48 : decode cJ2_getChar_3b067 48 = .ok (.baload, 1) := by decide +kernel
theorem dJ2_getChar_3b067_49 : decode cJ2_getChar_3b067 49 = .ok (.sipush 255, 3) := by decide +kernel
theorem dJ2_getChar_3b067_52 : decode cJ2_getChar_3b067 52 = .ok (.iand, 1) := by decide +kernel
theorem dJ2_getChar_3b067_53 : decode cJ2_getChar_3b067 53 = .ok (.getstatic 63, 3) := by decide +kernel
theorem dJ2_getChar_3b067_56 : decode cJ2_getChar_3b067 56 = .ok (.ishl, 1) := by decide +kernel
theorem dJ2_getChar_3b067_57 : decode cJ2_getChar_3b067 57 = .ok (.ior, 1) := by decide +kernel
theorem dJ2_getChar_3b067_58 : decode cJ2_getChar_3b067 58 = .ok (.i2c, 1) := by decide +kernel
theorem dJ2_getChar_3b067_59 : decode cJ2_getChar_3b067 59 = .ok (.ireturn, 1) := by decide +kernel
theorem dJ2_length_9d52b_0 : decode cJ2_length_9d52b 0 = .ok (.aload_n 0, 1) := by decide +kernel
theorem dJ2_length_9d52b_1 : decode cJ2_length_9d52b 1 = .ok (.arraylength, 1) := by decide +kernel
theorem dJ2_length_9d52b_2 : decode cJ2_length_9d52b 2 = .ok (.iconst 1, 1) := by decide +kernel
theorem dJ2_length_9d52b_3 : decode cJ2_length_9d52b 3 = .ok (.ishr, 1) := by decide +kernel
theorem dJ2_length_9d52b_4 : decode cJ2_length_9d52b 4 = .ok (.ireturn, 1) := by decide +kernel
set_option maxRecDepth 20000 in
theorem ggJ2_indexOf_4cfef_J2_indexOfChar_4cfef : GoodIn wsJ2_indexOf_4cfef wsJ2_indexOfChar_4cfef := goodIn_r _ [12, 13, 14, 11, 15, 16, 17, 18, 19, 20, 21, 22, 23, 24, 25, 26, 27, 28, 29, 30, 31, 32, 33, 34, 35, 36] (by decide +kernel) (by decide +kernel)
set_option maxRecDepth 20000 in
theorem gJ2_indexOf_4cfef_J2_indexOfChar_4cfef : GoodIn wsJ2_indexOf_4cfef (va_wsS RJ2 228 yJ2_indexOfChar_4cfef wsJ2_indexOfChar_4cfef) := goodIn_app (goodIn_of _ (by decide +kernel)) ggJ2_indexOf_4cfef_J2_indexOfChar_4cfef
set_option maxRecDepth 20000 in
theorem ggJ2_indexOf_4cfef_J2_indexOfSupplementary_4cfef : GoodIn wsJ2_indexOf_4cfef wsJ2_indexOfSupplementary_4cfef := goodIn_r _ [39, 40, 41, 42, 43, 44, 45, 46, 47, 48, 49, 50, 51, 13, 14, 11, 15, 16, 17, 18, 19, 20, 21, 22, 23, 24, 25, 26, 27, 31, 32, 33, 34, 35, 36] (by decide +kernel) (by decide +kernel)
set_option maxRecDepth 20000 in
theorem gJ2_indexOf_4cfef_J2_indexOfSupplementary_4cfef : GoodIn wsJ2_indexOf_4cfef (va_wsS RJ2 232 yJ2_indexOfSupplementary_4cfef wsJ2_indexOfSupplementary_4cfef) := goodIn_app (goodIn_of _ (by decide +kernel)) ggJ2_indexOf_4cfef_J2_indexOfSupplementary_4cfef
theorem dJ2_indexOf_4cfef_0 : decode cJ2_indexOf_4cfef 0 = .ok (.iload_n 2, 1) := by decide +kernel
theorem dJ2_indexOf_4cfef_1 : decode cJ2_indexOf_4cfef 1 = .ok (.iconst 0, 1) := by decide +kernel
theorem dJ2_indexOf_4cfef_2 : decode cJ2_indexOf_4cfef 2 = .ok (.invokestatic 224, 3) := by decide +kernel
theorem dJ2_indexOf_4cfef_5 : decode cJ2_indexOf_4cfef 5 = .ok (.istore_n 2, 1) := by decide +kernel
theorem dJ2_indexOf_4cfef_6 : decode cJ2_indexOf_4cfef 6 = .ok (.iload_n 3, 1) := by decide +kernel
theorem dJ2_indexOf_4cfef_7 : decode cJ2_indexOf_4cfef 7 = .ok (.aload_n 0, 1) := by decide +kernel
theorem dJ2_indexOf_4cfef_8 : decode cJ2_indexOf_4cfef 8 = .ok (.arraylength, 1) := by decide +kernel
theorem dJ2_indexOf_4cfef_9 : decode cJ2_indexOf_4cfef 9 = .ok (.iconst 1, 1) := by decide +kernel
theorem dJ2_indexOf_4cfef_10 : decode cJ2_indexOf_4cfef 10 = .ok (.ishr, 1) := by decide +kernel
theorem dJ2_indexOf_4cfef_11 : decode cJ2_indexOf_4cfef 11 = .ok (.invokestatic 183, 3) := by decide +kernel
theorem dJ2_indexOf_4cfef_14 : decode cJ2_indexOf_4cfef 14 = .ok (.istore_n 3, 1) := by decide +kernel
theorem dJ2_indexOf_4cfef_15 : decode cJ2_indexOf_4cfef 15 = .ok (.iload_n 2, 1) := by decide +kernel
theorem dJ2_indexOf_4cfef_16 : decode cJ2_indexOf_4cfef 16 = .ok (.iload_n 3, 1) := by decide +kernel
theorem dJ2_indexOf_4cfef_17 : decode cJ2_indexOf_4cfef 17 = .ok (.if_icmp .lt 5, 3) := by decide +kernel
theorem dJ2_indexOf_4cfef_20 : decode cJ2_indexOf_4cfef 20 = .ok (.iconst (-1), 1) := by decide +kernel
theorem dJ2_indexOf_4cfef_21 : decode cJ2_indexOf_4cfef 21 = .ok (.ireturn, 1) := by decide +kernel
theorem dJ2_indexOf_4cfef_22 : decode cJ2_indexOf_4cfef 22 = .ok (.iload_n 1, 1) := by decide +kernel
theorem dJ2_indexOf_4cfef_23 : decode cJ2_indexOf_4cfef 23 = .ok (.ldc 227, 2) := by decide +kernel
theorem dJ2_indexOf_4cfef_25 : decode cJ2_indexOf_4cfef 25 = .ok (.if_icmp .ge 11, 3) := by decide +kernel
theorem dJ2_indexOf_4cfef_28 : decode cJ2_indexOf_4cfef 28 = .ok (.aload_n 0, 1) := by decide +kernel
theorem dJ2_indexOf_4cfef_29 : decode cJ2_indexOf_4cfef 29 = .ok (.iload_n 1, 1) := by decide +kernel
theorem dJ2_indexOf_4cfef_30 : decode cJ2_indexOf_4cfef 30 = .ok (.iload_n 2, 1) := by decide +kernel
theorem dJ2_indexOf_4cfef_31 : decode cJ2_indexOf_4cfef 31 = .ok (.iload_n 3, 1) := by decide +kernel
theorem dJ2_indexOf_4cfef_32 : decode cJ2_indexOf_4cfef 32 = .ok (.invokestatic 228, 3) := by decide +kernel
theorem dJ2_indexOf_4cfef_35 : decode cJ2_indexOf_4cfef 35 = .ok (.ireturn, 1) := by decide +kernel
theorem dJ2_indexOf_4cfef_36 : decode cJ2_indexOf_4cfef 36 = .ok (.aload_n 0, 1) := by decide +kernel
theorem dJ2_indexOf_4cfef_37 : decode cJ2_indexOf_4cfef 37 = .ok (.iload_n 1, 1) := by decide +kernel
theorem dJ2_indexOf_4cfef_38 : decode cJ2_indexOf_4cfef 38 = .ok (.iload_n 2, 1) := by decide +kernel
theorem dJ2_indexOf_4cfef_39 : decode cJ2_indexOf_4cfef 39 = .ok (.iload_n 3, 1) := by decide +kernel
theorem dJ2_indexOf_4cfef_40 : decode cJ2_indexOf_4cfef 40 = .ok (.invokestatic 232, 3) := by decide +kernel
theorem dJ2_indexOf_4cfef_43 : decode cJ2_indexOf_4cfef 43 = .ok (.ireturn, 1) := by decide +kernel
set_option maxRecDepth 20000 in
theorem ggJ2_indexOfChar_4cfef_J2_checkBoundsBeginEnd_d044e : GoodIn wsJ2_indexOfChar_4cfef wsJ2_checkBoundsBeginEnd_d044e := goodIn_r _ [4, 5, 6, 3, 7, 8, 9, 10, 11, 12, 13, 14, 15, 16] (by decide +kernel) (by decide +kernel)
set_option maxRecDepth 20000 in
theorem gJ2_indexOfChar_4cfef_J2_checkBoundsBeginEnd_d044e : GoodIn wsJ2_indexOfChar_4cfef (va_wsS RJ2 96 yJ2_checkBoundsBeginEnd_d044e wsJ2_checkBoundsBeginEnd_d044e) := goodIn_app (goodIn_of _ (by decide +kernel)) ggJ2_indexOfChar_4cfef_J2_checkBoundsBeginEnd_d044e
set_option maxRecDepth 20000 in
theorem ggJ2_indexOfChar_4cfef_J2_indexOfCharUnsafe_4cfef : GoodIn wsJ2_indexOfChar_4cfef wsJ2_indexOfCharUnsafe_4cfef := goodIn_r _ [19, 20, 21, 3, 22, 23, 24, 25, 5, 6, 7] (by decide +kernel) (by decide +kernel)
set_option maxRecDepth 20000 in
theorem gJ2_indexOfChar_4cfef_J2_indexOfCharUnsafe_4cfef : GoodIn wsJ2_indexOfChar_4cfef (va_wsS RJ2 244 yJ2_indexOfCharUnsafe_4cfef wsJ2_indexOfCharUnsafe_4cfef) := goodIn_app (goodIn_of _ (by decide +kernel)) ggJ2_indexOfChar_4cfef_J2_indexOfCharUnsafe_4cfef
theorem dJ2_indexOfChar_4cfef_0 : decode cJ2_indexOfChar_4cfef 0 = .ok (.iload_n 2, 1) := by decide +kernel
theorem dJ2_indexOfChar_4cfef_1 : decode cJ2_indexOfChar_4cfef 1 = .ok (.iload_n 3, 1) := by decide +kernel
theorem dJ2_indexOfChar_4cfef_2 : decode cJ2_indexOfChar_4cfef 2 = .ok (.aload_n 0, 1) := by decide +kernel
theorem dJ2_indexOfChar_4cfef_3 : decode cJ2_indexOfChar_4cfef 3 = .ok (.invokestatic 96, 3) := by decide +kernel
theorem dJ2_indexOfChar_4cfef_6 : decode cJ2_indexOfChar_4cfef 6 = .ok (.aload_n 0, 1) := by decide +kernel
theorem dJ2_indexOfChar_4cfef_7 : decode cJ2_indexOfChar_4cfef 7 = .ok (.iload_n 1, 1) := by decide +kernel
theorem dJ2_indexOfChar_4cfef_8 : decode cJ2_indexOfChar_4cfef 8 = .ok (.iload_n 2, 1) := by decide +kernel
theorem dJ2_indexOfChar_4cfef_9 : decode cJ2_indexOfChar_4cfef 9 = .ok (.iload_n 3, 1) := by decide +kernel
theorem dJ2_indexOfChar_4cfef_10 : decode cJ2_indexOfChar_4cfef 10 = .ok (.invokestatic 244, 3) := by decide +kernel
theorem dJ2_indexOfChar_4cfef_13 : decode cJ2_indexOfChar_4cfef 13 = .ok (.ireturn, 1) := by decide +kernel
set_option maxRecDepth 20000 in
theorem ggJ2_indexOfCharUnsafe_4cfef_J2_getChar_3b067 : GoodIn wsJ2_indexOfCharUnsafe_4cfef wsJ2_getChar_3b067 := goodIn_r _ [4, 5, 6, 7, 8, 9, 3, 10] (by decide +kernel) (by decide +kernel)
set_option maxRecDepth 20000 in
theorem gJ2_indexOfCharUnsafe_4cfef_J2_getChar_3b067 : GoodIn wsJ2_indexOfCharUnsafe_4cfef (va_wsS RJ2 71 yJ2_getChar_3b067 wsJ2_getChar_3b067) := goodIn_app (goodIn_of _ (by decide +kernel)) ggJ2_indexOfCharUnsafe_4cfef_J2_getChar_3b067
theorem dJ2_indexOfCharUnsafe_4cfef_0 : decode cJ2_indexOfCharUnsafe_4cfef 0 = .ok (.iload_n 2, 1) := by decide +kernel
theorem dJ2_indexOfCharUnsafe_4cfef_1 : decode cJ2_indexOfCharUnsafe_4cfef 1 = .ok (.istore 4, 2) := by decide +kernel
theorem dJ2_indexOfCharUnsafe_4cfef_3 : decode cJ2_indexOfCharUnsafe_4cfef 3 = .ok (.iload 4, 2) := by decide +kernel
theorem dJ2_indexOfCharUnsafe_4cfef_5 : decode cJ2_indexOfCharUnsafe_4cfef 5 = .ok (.iload_n 3, 1) := by decide +kernel
theorem dJ2_indexOfCharUnsafe_4cfef_6 : decode cJ2_indexOfCharUnsafe_4cfef 6 = .ok (.if_icmp .ge 22, 3) := by decide +kernel
theorem dJ2_indexOfCharUnsafe_4cfef_9 : decode cJ2_indexOfCharUnsafe_4cfef 9 = .ok (.aload_n 0, 1) := by decide +kernel
theorem dJ2_indexOfCharUnsafe_4cfef_10 : decode cJ2_indexOfCharUnsafe_4cfef 10 = .ok (.iload 4, 2) := by decide +kernel
theorem dJ2_indexOfCharUnsafe_4cfef_12 : decode cJ2_indexOfCharUnsafe_4cfef 12 = .ok (.invokestatic 71, 3) := by decide +kernel
theorem dJ2_indexOfCharUnsafe_4cfef_15 : decode cJ2_indexOfCharUnsafe_4cfef 15 = .ok (.iload_n 1, 1) := by decide +kernel
theorem dJ2_indexOfCharUnsafe_4cfef_16 : decode cJ2_indexOfCharUnsafe_4cfef 16 = .ok (.if_icmp .ne 6, 3) := by decide +kernel
theorem dJ2_indexOfCharUnsafe_4cfef_19 : decode cJ2_indexOfCharUnsafe_4cfef 19 = .ok (.iload 4, 2) := by decide +kernel
theorem dJ2_indexOfCharUnsafe_4cfef_21 : decode cJ2_indexOfCharUnsafe_4cfef 21 = .ok (.ireturn, 1) := by decide +kernel
theorem dJ2_indexOfCharUnsafe_4cfef_22 : decode cJ2_indexOfCharUnsafe_4cfef 22 = .ok (.iinc 4 1, 3) := by decide +kernel
theorem dJ2_indexOfCharUnsafe_4cfef_25 : decode cJ2_indexOfCharUnsafe_4cfef 25 = .ok (.goto (-22), 3) := by decide +kernel
theorem dJ2_indexOfCharUnsafe_4cfef_28 : decode cJ2_indexOfCharUnsafe_4cfef 28 = .ok (.iconst (-1), 1) := by decide +kernel
theorem dJ2_indexOfCharUnsafe_4cfef_29 : decode cJ2_indexOfCharUnsafe_4cfef 29 = .ok (.ireturn, 1) := by decide +kernel
set_option maxRecDepth 20000 in
theorem ggJ2_indexOfSupplementary_4cfef_J11_isValidCodePoint_9a6ad : GoodIn wsJ2_indexOfSupplementary_4cfef wsJ11_isValidCodePoint_9a6ad := goodIn_r _ [4] (by decide +kernel) (by decide +kernel)
set_option maxRecDepth 20000 in
theorem gJ2_indexOfSupplementary_4cfef_J11_isValidCodePoint_9a6ad : GoodIn wsJ2_indexOfSupplementary_4cfef (va_wsS RJ2 164 yJ11_isValidCodePoint_9a6ad wsJ11_isValidCodePoint_9a6ad) := goodIn_app (goodIn_of _ (by decide +kernel)) ggJ2_indexOfSupplementary_4cfef_J11_isValidCodePoint_9a6ad
set_option maxRecDepth 20000 in
theorem ggJ2_indexOfSupplementary_4cfef_J11_highSurrogate_5068e : GoodIn wsJ2_indexOfSupplementary_4cfef wsJ11_highSurrogate_5068e := goodIn_r _ [7, 8] (by decide +kernel) (by decide +kernel)
set_option maxRecDepth 20000 in
theorem gJ2_indexOfSupplementary_4cfef_J11_highSurrogate_5068e : GoodIn wsJ2_indexOfSupplementary_4cfef (va_wsS RJ2 157 yJ11_highSurrogate_5068e wsJ11_highSurrogate_5068e) := goodIn_app (goodIn_of _ (by decide +kernel)) ggJ2_indexOfSupplementary_4cfef_J11_highSurrogate_5068e
set_option maxRecDepth 20000 in
theorem ggJ2_indexOfSupplementary_4cfef_J11_lowSurrogate_5068e : GoodIn wsJ2_indexOfSupplementary_4cfef wsJ11_lowSurrogate_5068e := goodIn_r _ [11, 12] (by decide +kernel) (by decide +kernel)
set_option maxRecDepth 20000 in
theorem gJ2_indexOfSupplementary_4cfef_J11_lowSurrogate_5068e : GoodIn wsJ2_indexOfSupplementary_4cfef (va_wsS RJ2 161 yJ11_lowSurrogate_5068e wsJ11_lowSurrogate_5068e) := goodIn_app (goodIn_of _ (by decide +kernel)) ggJ2_indexOfSupplementary_4cfef_J11_lowSurrogate_5068e
set_option maxRecDepth 20000 in
theorem ggJ2_indexOfSupplementary_4cfef_J2_checkBoundsBeginEnd_d044e : GoodIn wsJ2_indexOfSupplementary_4cfef wsJ2_checkBoundsBeginEnd_d044e := goodIn_r _ [16, 17, 18, 15, 19, 20, 21, 22, 23, 24, 25, 26, 27, 28] (by decide +kernel) (by decide +kernel)
set_option maxRecDepth 20000 in
theorem gJ2_indexOfSupplementary_4cfef_J2_checkBoundsBeginEnd_d044e : GoodIn wsJ2_indexOfSupplementary_4cfef (va_wsS RJ2 96 yJ2_checkBoundsBeginEnd_d044e wsJ2_checkBoundsBeginEnd_d044e) := goodIn_app (goodIn_of _ (by decide +kernel)) ggJ2_indexOfSupplementary_4cfef_J2_checkBoundsBeginEnd_d044e
set_option maxRecDepth 20000 in
theorem ggJ2_indexOfSupplementary_4cfef_J2_getChar_3b067 : GoodIn wsJ2_indexOfSupplementary_4cfef wsJ2_getChar_3b067 := goodIn_r _ [31, 32, 33, 34, 17, 18, 15, 19] (by decide +kernel) (by decide +kernel)
set_option maxRecDepth 20000 in
theorem gJ2_indexOfSupplementary_4cfef_J2_getChar_3b067 : GoodIn wsJ2_indexOfSupplementary_4cfef (va_wsS RJ2 71 yJ2_getChar_3b067 wsJ2_getChar_3b067) := goodIn_app (goodIn_of _ (by decide +kernel)) ggJ2_indexOfSupplementary_4cfef_J2_getChar_3b067
theorem dJ2_indexOfSupplementary_4cfef_0 : decode cJ2_indexOfSupplementary_4cfef 0 = .ok (.iload_n 1, 1) := by decide +kernel
theorem dJ2_indexOfSupplementary_4cfef_1 : decode cJ2_indexOfSupplementary_4cfef 1 = .ok (.invokestatic 164, 3) := by decide +kernel
theorem dJ2_indexOfSupplementary_4cfef_4 : decode cJ2_indexOfSupplementary_4cfef 4 = .ok (.ifCond .eq 65, 3) := by decide +kernel
theorem dJ2_indexOfSupplementary_4cfef_7 : decode cJ2_indexOfSupplementary_4cfef 7 = .ok (.iload_n 1, 1) := by decide +kernel
theorem dJ2_indexOfSupplementary_4cfef_8 : decode cJ2_indexOfSupplementary_4cfef 8 = .ok (.invokestatic 157, 3) := by decide +kernel
theorem dJ2_indexOfSupplementary_4cfef_11 : decode cJ2_indexOfSupplementary_4cfef 11 = .ok (.istore 4, 2) := by decide +kernel
theorem dJ2_indexOfSupplementary_4cfef_13 : decode cJ2_indexOfSupplementary_4cfef 13 = .ok (.iload_n 1, 1) := by decide +kernel
theorem dJ2_indexOfSupplementary_4cfef_14 : decode cJ2_indexOfSupplementary_4cfef 14 = .ok (.invokestatic 161, 3) := by decide +kernel
theorem dJ2_indexOfSupplementary_4cfef_17 : decode cJ2_indexOfSupplementary_4cfef 17 = .ok (.istore 5, 2) := by decide +kernel
theorem dJ2_indexOfSupplementary_4cfef_19 : decode cJ2_indexOfSupplementary_4cfef 19 = .ok (.iload_n 2, 1) := by decide +kernel
theorem dJ2_indexOfSupplementary_4cfef_20 : decode cJ2_indexOfSupplementary_4cfef 20 = .ok (.iload_n 3, 1) := by decide +kernel
theorem dJ2_indexOfSupplementary_4cfef_21 : decode cJ2_indexOfSupplementary_4cfef 21 = .ok (.aload_n 0, 1) := by decide +kernel
theorem dJ2_indexOfSupplementary_4cfef_22 : decode cJ2_indexOfSupplementary_4cfef 22 = .ok (.invokestatic 96, 3) := by decide +kernel
theorem dJ2_indexOfSupplementary_4cfef_25 : decode cJ2_indexOfSupplementary_4cfef 25 = .ok (.iload_n 2, 1) := by decide +kernel
theorem dJ2_indexOfSupplementary_4cfef_26 : decode cJ2_indexOfSupplementary_4cfef 26 = .ok (.istore 6, 2) := by decide +kernel
theorem dJ2_indexOfSupplementary_4cfef_28 : decode cJ2_indexOfSupplementary_4cfef 28 = .ok (.iload 6, 2) := by decide +kernel
theorem dJ2_indexOfSupplementary_4cfef_30 : decode cJ2_indexOfSupplementary_4cfef 30 = .ok (.iload_n 3, 1) := by decide +kernel
theorem dJ2_indexOfSupplementary_4cfef_31 : decode cJ2_indexOfSupplementary_4cfef 31 = .ok (.iconst 1, 1) := by decide +kernel
theorem dJ2_indexOfSupplementary_4cfef_32 : decode cJ2_indexOfSupplementary_4cfef 32 = .ok (.isub, 1) := by decide +kernel
theorem dJ2_indexOfSupplementary_4cfef_33 : decode cJ2_indexOfSupplementary_4cfef 33 = .ok (.if_icmp .ge 36, 3) := by decide +kernel
theorem dJ2_indexOfSupplementary_4cfef_36 : decode cJ2_indexOfSupplementary_4cfef 36 = .ok (.aload_n 0, 1) := by decide +kernel
theorem dJ2_indexOfSupplementary_4cfef_37 : decode cJ2_indexOfSupplementary_4cfef 37 = .ok (.iload 6, 2) := by decide +kernel
theorem dJ2_indexOfSupplementary_4cfef_39 : decode cJ2_indexOfSupplementary_4cfef 39 = .ok (.invokestatic 71, 3) := by decide +kernel
theorem dJ2_indexOfSupplementary_4cfef_42 : decode cJ2_indexOfSupplementary_4cfef 42 = .ok (.iload 4, 2) := by decide +kernel
theorem dJ2_indexOfSupplementary_4cfef_44 : decode cJ2_indexOfSupplementary_4cfef 44 = .ok (.if_icmp .ne 19, 3) := by decide +kernel
theorem dJ2_indexOfSupplementary_4cfef_47 : decode cJ2_indexOfSupplementary_4cfef 47 = .ok (.aload_n 0, 1) := by decide +kernel
theorem dJ2_indexOfSupplementary_4cfef_48 : decode cJ2_indexOfSupplementary_4cfef 48 = .ok (.iload 6, 2) := by decide +kernel
theorem dJ2_indexOfSupplementary_4cfef_50 : decode cJ2_indexOfSupplementary_4cfef 50 = .ok (.iconst 1, 1) := by decide +kernel
theorem dJ2_indexOfSupplementary_4cfef_51 : decode cJ2_indexOfSupplementary_4cfef 51 = .ok (.iadd, 1) := by decide +kernel
theorem dJ2_indexOfSupplementary_4cfef_52 : decode cJ2_indexOfSupplementary_4cfef 52 = .ok (.invokestatic 71, 3) := by decide +kernel
theorem dJ2_indexOfSupplementary_4cfef_55 : decode cJ2_indexOfSupplementary_4cfef 55 = .ok (.iload 5, 2) := by decide +kernel
theorem dJ2_indexOfSupplementary_4cfef_57 : decode cJ2_indexOfSupplementary_4cfef 57 = .ok (.if_icmp .ne 6, 3) := by decide +kernel
theorem dJ2_indexOfSupplementary_4cfef_60 : decode cJ2_indexOfSupplementary_4cfef 60 = .ok (.iload 6, 2) := by decide +kernel
theorem dJ2_indexOfSupplementary_4cfef_62 : decode cJ2_indexOfSupplementary_4cfef 62 = .ok (.ireturn, 1) := by decide +kernel
theorem dJ2_indexOfSupplementary_4cfef_63 : decode cJ2_indexOfSupplementary_4cfef 63 = .ok (.iinc 6 1, 3) := by decide +kernel
theorem dJ2_indexOfSupplementary_4cfef_66 : decode cJ2_indexOfSupplementary_4cfef 66 = .ok (.goto (-38), 3) := by decide +kernel
theorem dJ2_indexOfSupplementary_4cfef_69 : decode cJ2_indexOfSupplementary_4cfef 69 = .ok (.iconst (-1), 1) := by decide +kernel
theorem dJ2_indexOfSupplementary_4cfef_70 : decode cJ2_indexOfSupplementary_4cfef 70 = .ok (.ireturn, 1) := by decide +kernel
set_option maxRecDepth 20000 in
theorem ggJ2_checkBoundsBeginEnd_d044e_J2_length_9d52b : GoodIn wsJ2_checkBoundsBeginEnd_d044e wsJ2_length_9d52b := goodIn_r _ [4] (by decide +kernel) (by decide +kernel)
set_option maxRecDepth 20000 in
theorem gJ2_checkBoundsBeginEnd_d044e_J2_length_9d52b : GoodIn wsJ2_checkBoundsBeginEnd_d044e (va_wsS RJ2 48 yJ2_length_9d52b wsJ2_length_9d52b) := goodIn_app (goodIn_of _ (by decide +kernel)) ggJ2_checkBoundsBeginEnd_d044e_J2_length_9d52b
set_option maxRecDepth 20000 in
theorem ggJ2_checkBoundsBeginEnd_d044e_J0_checkBoundsBeginEnd_23922 : GoodIn wsJ2_checkBoundsBeginEnd_d044e wsJ0_checkBoundsBeginEnd_23922 := goodIn_r _ [8, 9, 10, 11, 12, 13] (by decide +kernel) (by decide +kernel)
set_option maxRecDepth 20000 in
theorem gJ2_checkBoundsBeginEnd_d044e_J0_checkBoundsBeginEnd_23922 : GoodIn wsJ2_checkBoundsBeginEnd_d044e (va_wsS RJ2 241 yJ0_checkBoundsBeginEnd_23922 wsJ0_checkBoundsBeginEnd_23922) := goodIn_app (goodIn_of _ (by decide +kernel)) ggJ2_checkBoundsBeginEnd_d044e_J0_checkBoundsBeginEnd_23922
theorem dJ2_checkBoundsBeginEnd_d044e_0 : decode cJ2_checkBoundsBeginEnd_d044e 0 = .ok (.iload_n 0, 1) := by decide +kernel
theorem dJ2_checkBoundsBeginEnd_d044e_1 : decode cJ2_checkBoundsBeginEnd_d044e 1 = .ok (.iload_n 1, 1) := by decide +kernel
theorem dJ2_checkBoundsBeginEnd_d044e_2 : decode cJ2_checkBoundsBeginEnd_d044e 2 = .ok (.aload_n 2, 1) := by decide +kernel
theorem dJ2_checkBoundsBeginEnd_d044e_3 : decode cJ2_checkBoundsBeginEnd_d044e 3 = .ok (.invokestatic 48, 3) := by decide +kernel
theorem dJ2_checkBoundsBeginEnd_d044e_6 : decode cJ2_checkBoundsBeginEnd_d044e 6 = .ok (.invokestatic 241, 3) := by decide +kernel
theorem dJ2_checkBoundsBeginEnd_d044e_9 : decode cJ2_checkBoundsBeginEnd_d044e 9 = .ok (.return_, 1) := by decide +kernel
theorem dJ7_fill_53178_0 : decode cJ7_fill_53178 0 = .ok (.iconst 0, 1) := by decide +kernel
theorem dJ7_fill_53178_1 : decode cJ7_fill_53178 1 = .ok (.istore_n 2, 1) := by decide +kernel
theorem dJ7_fill_53178_2 : decode cJ7_fill_53178 2 = .ok (.aload_n 0, 1) := by decide +kernel
theorem dJ7_fill_53178_3 : decode cJ7_fill_53178 3 = .ok (.arraylength, 1) := by decide +kernel
theorem dJ7_fill_53178_4 : decode cJ7_fill_53178 4 = .ok (.istore_n 3, 1) := by decide +kernel
theorem dJ7_fill_53178_5 : decode cJ7_fill_53178 5 = .ok (.iload_n 2, 1) := by decide +kernel
theorem dJ7_fill_53178_6 : decode cJ7_fill_53178 6 = .ok (.iload_n 3, 1) := by decide +kernel
theorem dJ7_fill_53178_7 : decode cJ7_fill_53178 7 = .ok (.if_icmp .ge 13, 3) := by decide +kernel
theorem dJ7_fill_53178_10 : decode cJ7_fill_53178 10 = .ok (.aload_n 0, 1) := by decide +kernel
theorem dJ7_fill_53178_11 : decode cJ7_fill_53178 11 = .ok (.iload_n 2, 1) := by decide +kernel
theorem dJ7_fill_53178_12 : decode cJ7_fill_53178 12 = .ok (.iload_n 1, 1) := by decide +kernel
theorem dJ7_fill_53178_13 : decode cJ7_fill_53178 13 = .ok (.iastore, 1) := by decide +kernel
theorem dJ7_fill_53178_14 : decode cJ7_fill_53178 14 = .ok (.iinc 2 1, 3) := by decide +kernel
theorem dJ7_fill_53178_17 : decode cJ7_fill_53178 17 = .ok (.goto (-12), 3) := by decide +kernel
theorem dJ7_fill_53178_20 : decode cJ7_fill_53178 20 = .ok (.return_, 1) := by decide +kernel
theorem dJ3_checkFromToIndex_8c36e_0 : decode cJ3_checkFromToIndex_8c36e 0 = .ok (.iload_n 0, 1) := by decide +kernel
theorem dJ3_checkFromToIndex_8c36e_1 : decode cJ3_checkFromToIndex_8c36e 1 = .ok (.ifCond .lt 13, 3) := by decide +kernel
theorem dJ3_checkFromToIndex_8c36e_4 : decode cJ3_checkFromToIndex_8c36e 4 = .ok (.iload_n 0, 1) := by decide +kernel
theorem dJ3_checkFromToIndex_8c36e_5 : decode cJ3_checkFromToIndex_8c36e 5 = .ok (.iload_n 1, 1) := by decide +kernel
theorem dJ3_checkFromToIndex_8c36e_6 : decode cJ3_checkFromToIndex_8c36e 6 = .ok (.if_icmp .gt 8, 3) := by decide +kernel
theorem dJ3_checkFromToIndex_8c36e_9 : decode cJ3_checkFromToIndex_8c36e 9 = .ok (.iload_n 1, 1) := by decide +kernel
theorem dJ3_checkFromToIndex_8c36e_10 : decode cJ3_checkFromToIndex_8c36e 10 = .ok (.iload_n 2, 1) := by decide +kernel
theorem dJ3_checkFromToIndex_8c36e_11 : decode cJ3_checkFromToIndex_8c36e 11 = .ok (.if_icmp .le 11, 3) := by decide +kernel
theorem dJ3_checkFromToIndex_8c36e_14 : decode cJ3_checkFromToIndex_8c36e 14 = .ok (.aload_n 3, 1) := by decide +kernel
theorem dJ3_checkFromToIndex_8c36e_15 : decode cJ3_checkFromToIndex_8c36e 15 = .ok (.iload_n 0, 1) := by decide +kernel
theorem dJ3_checkFromToIndex_8c36e_16 : decode cJ3_checkFromToIndex_8c36e 16 = .ok (.iload_n 1, 1) := by decide +kernel
theorem dJ3_checkFromToIndex_8c36e_17 : decode cJ3_checkFromToIndex_8c36e 17 = .ok (.iload_n 2, 1) := by decide +kernel
theorem dJ3_checkFromToIndex_8c36e_18 : decode cJ3_checkFromToIndex_8c36e 18 = .ok (.invokestatic 99, 3) := by decide +kernel
theorem dJ3_checkFromToIndex_8c36e_21 : decode cJ3_checkFromToIndex_8c36e 21 = .ok (.athrow, 1) := by decide +kernel
theorem dJ3_checkFromToIndex_8c36e_22 : decode cJ3_checkFromToIndex_8c36e 22 = .ok (.iload_n 0, 1) := by decide +kernel
theorem dJ3_checkFromToIndex_8c36e_23 : decode cJ3_checkFromToIndex_8c36e 23 = .ok (.ireturn, 1) := by decide +kernel
set_option maxRecDepth 20000 in
theorem ggL_law_X10_init : GoodIn wsL_law wsX10_init := goodIn_r _ [8, 9, 10, 11, 12, 13, 14, 15, 16, 17, 18, 19, 20, 21, 22, 23, 24, 25, 26, 27, 28, 29, 30, 31, 32, 33, 34, 35, 36, 37, 38, 39, 40, 41, 42, 43, 44, 45, 46, 47, 48, 49, 50, 51, 52, 53, 54, 55, 56, 57, 58, 59, 60, 61, 62, 63, 64, 65, 66, 67, 68, 69, 70, 71, 72, 73, 74, 75, 76, 77, 78, 79, 80, 81, 82, 83, 84, 85, 86, 87, 88, 89, 90, 91, 92, 93, 94, 95, 96, 97, 98, 99, 100, 101, 102, 103, 104, 105, 106, 107, 108, 109, 110, 111, 112, 113, 114, 115, 116, 117, 118, 119, 120, 121, 122, 123, 124, 125, 126, 127, 128, 129, 130, 131, 132, 133, 134, 135, 136, 137, 138, 139, 140, 141, 142, 143, 144, 145, 146, 147, 148, 149, 150, 151, 152, 153, 154, 155, 156, 157, 158, 159, 160, 161, 162, 163, 164, 165, 166, 167, 168, 169, 170, 171, 172, 173, 174, 175, 176, 177, 178, 179, 180, 181, 182, 183, 184, 185, 186, 187, 188, 189, 190, 191, 192, 193, 194, 195, 196, 197, 198, 199, 200, 201, 202, 203, 204, 205, 206, 207, 208, 209, 210, 211, 212, 213, 214, 215, 216, 217, 218, 219, 220, 221, 222, 223, 224, 225, 226, 227, 228, 229, 230, 231, 232, 233, 234, 235, 236, 237, 238, 239, 240, 241, 242, 243, 244, 245, 246, 247, 248, 249, 250, 251, 252, 253, 254, 255, 256, 257, 258, 259, 260, 261, 262, 263, 264, 265, 266, 267, 268, 269, 270, 1003, 1004, 979, 980, 981, 982, 983, 984, 985, 1005, 1006, 1007, 1008, 1009, 1010, 1011, 1012, 1013, 1014, 1015, 1016, 1017, 1018, 1019, 1020, 1021, 1022, 1023, 1024, 1025, 1026, 1027, 1028, 1029, 1030, 1031, 1032, 1033, 1034, 1035, 1036, 1037, 1038, 1039] (by decide +kernel) (by decide +kernel)
set_option maxRecDepth 20000 in
theorem gL_law_X10_init : GoodIn wsL_law (wsX10_init) := ggL_law_X10_init
set_option maxRecDepth 20000 in
theorem ggL_law_X11_init : GoodIn wsL_law wsX11_init := goodIn_r _ [273, 274, 10, 11, 69, 275, 276, 277, 278, 279, 280, 281, 282, 283, 284, 285, 286, 5, 287, 288, 289, 290, 291, 292, 293, 294, 295, 296, 297, 298, 299, 300, 301, 986, 987, 988, 989, 990, 991, 992, 993, 994, 995, 996, 997, 998, 999, 1000, 1001, 1002] (by decide +kernel) (by decide +kernel)
set_option maxRecDepth 20000 in
theorem gL_law_X11_init : GoodIn wsL_law (wsX11_init) := ggL_law_X11_init
set_option maxRecDepth 20000 in
theorem ggL_law_X10_word : GoodIn wsL_law wsX10_word := goodIn_r _ [305, 35, 19, 15, 40, 41, 306, 307, 42, 308, 309, 310, 311, 312, 34, 313, 314, 110, 315, 145, 146, 59, 147, 70, 316, 156, 157, 158, 159, 160, 161, 162, 163, 164, 165, 166, 167, 168, 169, 170, 171, 172, 173, 174, 175, 176, 177, 178, 179, 180, 181, 182, 183, 66, 67, 68, 184, 185, 186, 187, 188, 189, 190, 191, 192, 193, 194, 195, 196, 197, 198, 199, 200, 201, 202, 203, 204, 205, 206, 207, 208, 209, 210, 211, 212, 213, 214, 215, 216, 217, 218, 219, 220, 221, 222, 223, 224, 225, 226, 227, 228, 229, 230, 231, 232, 233, 234, 235, 236, 237, 238, 239, 240, 317, 318, 319, 18, 320, 321, 84, 322, 323, 324, 325, 326, 327, 328, 329, 330, 331, 332, 52, 333, 75, 76, 77, 334, 335, 336, 337, 338, 339, 340, 341, 342, 343, 344, 345, 346, 119, 120, 121, 14, 122, 49, 53, 123, 124, 125, 126, 127, 128, 129, 130, 48, 131, 132, 133, 134, 60, 135, 136, 137, 138, 139, 140, 141, 142, 143, 144, 148, 149, 150, 151, 152, 153, 154, 155, 241, 116, 117, 118, 242, 243, 244, 245, 246, 247, 248, 249, 250, 251, 252, 253, 254, 255, 256, 257, 258, 259, 260, 261, 262, 263, 264, 265, 266, 267, 268, 269, 270, 979, 980, 981, 982, 983, 984, 985, 1003, 1004, 1027, 1028, 1029, 1030, 1031, 1032, 1022, 1023, 1033, 1034, 1035, 1036, 1037, 1038, 1039, 1005, 1006] (by decide +kernel) (by decide +kernel)
set_option maxRecDepth 20000 in
theorem gL_law_X10_word : GoodIn wsL_law (wsV RL 13 RX10 yX10_word wsX10_word) := goodIn_app (goodIn_of _ (by decide +kernel)) ggL_law_X10_word
set_option maxRecDepth 20000 in
theorem ggL_law_X11_word : GoodIn wsL_law wsX11_word := goodIn_r _ [350, 351, 277, 275, 352, 353, 5, 354, 296, 297, 298, 299, 300, 301, 355, 356, 357, 358, 359, 276, 284, 285, 286, 287, 288, 289, 290, 291, 292, 293, 294, 295, 360, 361, 362, 363, 364, 365, 366, 367, 986, 987, 988, 989, 990, 991, 992, 993, 994, 995, 996, 997, 998, 999, 1000, 1001, 1002] (by decide +kernel) (by decide +kernel)
set_option maxRecDepth 20000 in
theorem gL_law_X11_word : GoodIn wsL_law (wsV RL 17 RX11 yX11_word wsX11_word) := goodIn_app (goodIn_of _ (by decide +kernel)) ggL_law_X11_word
set_option maxRecDepth 20000 in
theorem ggL_law_X10_letterOf : GoodIn wsL_law wsX10_letterOf := goodIn_r _ [371, 15, 308, 372, 373, 254, 255, 48, 256, 60, 144, 145, 146, 59, 147, 70, 374, 979, 980, 981, 982, 983, 984, 985, 1003, 1004, 1033, 1034, 1035, 1036, 1037, 1038, 1039] (by decide +kernel) (by decide +kernel)
set_option maxRecDepth 20000 in
theorem gL_law_X10_letterOf : GoodIn wsL_law (wsV RL 18 RX10 yX10_letterOf wsX10_letterOf) := goodIn_app (goodIn_of _ (by decide +kernel)) ggL_law_X10_letterOf
set_option maxRecDepth 20000 in
theorem ggL_law_X11_letterOf : GoodIn wsL_law wsX11_letterOf := goodIn_r _ [378, 379, 380, 381, 5, 382, 364, 365, 366, 367, 288, 289, 290, 291, 275, 352, 353, 354, 292, 293, 294, 295, 296, 297, 298, 299, 300, 301, 383, 384, 385, 386, 986, 987, 988, 989, 990, 991, 992, 993, 994, 995, 996, 997, 998, 999, 1000, 1001, 1002] (by decide +kernel) (by decide +kernel)
set_option maxRecDepth 20000 in
theorem gL_law_X11_letterOf : GoodIn wsL_law (wsV RL 22 RX11 yX11_letterOf wsX11_letterOf) := goodIn_app (goodIn_of _ (by decide +kernel)) ggL_law_X11_letterOf
set_option maxRecDepth 20000 in
theorem ggL_law_X10_letter : GoodIn wsL_law wsX10_letter := goodIn_r _ [390, 15, 40, 42, 41, 308, 374, 145, 146, 59, 147, 70, 391, 392, 393, 48, 394, 60, 144, 395, 396, 397, 14, 398, 49, 399, 400, 401, 262, 263, 264, 133, 265, 266, 267, 268, 253, 254, 255, 256, 402, 403, 404, 405, 53, 123, 979, 980, 981, 982, 983, 984, 985, 1003, 1004, 1027, 1028, 1029, 1030, 1031, 1032, 1039, 1033, 1034, 1035, 1036, 1037, 1038] (by decide +kernel) (by decide +kernel)
set_option maxRecDepth 20000 in
theorem gL_law_X10_letter : GoodIn wsL_law (wsV RL 23 RX10 yX10_letter wsX10_letter) := goodIn_app (goodIn_of _ (by decide +kernel)) ggL_law_X10_letter
set_option maxRecDepth 20000 in
theorem ggL_law_X11_letter : GoodIn wsL_law wsX11_letter := goodIn_r _ [409, 275, 352, 353, 5, 354, 410, 411, 412, 413, 364, 365, 366, 367, 288, 289, 290, 291, 292, 293, 294, 295, 296, 297, 298, 299, 300, 301, 383, 384, 385, 386, 414, 415, 416, 417, 379, 380, 381, 382, 418, 419, 420, 421, 422, 423, 424, 425, 986, 987, 988, 989, 990, 991, 992, 993, 994, 995, 996, 997, 998, 999, 1000, 1001, 1002] (by decide +kernel) (by decide +kernel)
set_option maxRecDepth 20000 in
theorem gL_law_X11_letter : GoodIn wsL_law (wsV RL 27 RX11 yX11_letter wsX11_letter) := goodIn_app (goodIn_of _ (by decide +kernel)) ggL_law_X11_letter
set_option maxRecDepth 20000 in
theorem ggL_law_X10_isRoom : GoodIn wsL_law wsX10_isRoom := goodIn_r _ [429, 15, 308, 430, 373, 254, 255, 48, 256, 60, 144, 145, 146, 59, 147, 70, 979, 980, 981, 982, 983, 984, 985, 1003, 1004, 1033, 1034, 1035, 1036, 1037, 1038, 1039] (by decide +kernel) (by decide +kernel)
set_option maxRecDepth 20000 in
theorem gL_law_X10_isRoom : GoodIn wsL_law (wsV RL 28 RX10 yX10_isRoom wsX10_isRoom) := goodIn_app (goodIn_of _ (by decide +kernel)) ggL_law_X10_isRoom
set_option maxRecDepth 20000 in
theorem ggL_law_X11_isRoom : GoodIn wsL_law wsX11_isRoom := goodIn_r _ [434, 364, 365, 366, 5, 367, 288, 289, 290, 291, 275, 352, 353, 354, 292, 293, 294, 295, 296, 297, 298, 299, 300, 301, 986, 987, 988, 989, 990, 991, 992, 993, 994, 995, 996, 997, 998, 999, 1000, 1001, 1002] (by decide +kernel) (by decide +kernel)
set_option maxRecDepth 20000 in
theorem gL_law_X11_isRoom : GoodIn wsL_law (wsV RL 31 RX11 yX11_isRoom wsX11_isRoom) := goodIn_app (goodIn_of _ (by decide +kernel)) ggL_law_X11_isRoom
set_option maxRecDepth 20000 in
theorem ggL_law_X10_make : GoodIn wsL_law wsX10_make := goodIn_r _ [438, 439, 19, 15, 40, 23, 317, 318, 319, 18, 320, 321, 84, 322, 323, 324, 325, 326, 327, 328, 329, 330, 331, 332, 52, 333, 75, 76, 77, 334, 335, 336, 337, 338, 339, 59, 340, 70, 341, 185, 67, 186, 342, 343, 344, 345, 440, 441, 442, 22, 443, 444, 445, 446, 90, 89, 447, 448, 137, 138, 139, 140, 141, 142, 143, 449, 450, 451, 452, 453, 258, 259, 48, 260, 253, 254, 255, 256, 60, 144, 145, 146, 147, 261, 262, 263, 264, 133, 265, 266, 267, 268, 454, 116, 117, 118, 455, 456, 457, 458, 459, 460, 461, 462, 463, 464, 465, 466, 467, 468, 469, 470, 471, 472, 14, 473, 49, 474, 475, 476, 477, 53, 123, 400, 478, 479, 480, 2, 481, 979, 980, 981, 982, 983, 984, 985, 1003, 1004, 1005, 1006, 1027, 1028, 1029, 1030, 1031, 1032, 1039, 1007, 1008, 1009, 1033, 1034, 1035, 1036, 1037, 1038] (by decide +kernel) (by decide +kernel)
set_option maxRecDepth 20000 in
theorem gL_law_X10_make : GoodIn wsL_law (wsV RL 32 RX10 yX10_make wsX10_make) := goodIn_app (goodIn_of _ (by decide +kernel)) ggL_law_X10_make
set_option maxRecDepth 20000 in
theorem ggL_law_X11_make : GoodIn wsL_law wsX11_make := goodIn_r _ [485, 486, 275, 487, 488, 278, 279, 352, 353, 5, 354, 355, 356, 357, 358, 359, 276, 489, 490, 491, 492, 364, 365, 366, 367, 288, 289, 290, 291, 292, 293, 294, 295, 296, 297, 298, 299, 300, 301, 414, 415, 416, 417, 379, 380, 381, 382, 493, 494, 495, 496, 497, 498, 499, 500, 501, 418, 419, 420, 421, 422, 423, 424, 425, 502, 503, 504, 505, 506, 507, 508, 509, 510, 511, 512, 513, 986, 987, 988, 989, 990, 991, 992, 993, 994, 995, 996, 997, 998, 999, 1000, 1001, 1002] (by decide +kernel) (by decide +kernel)
set_option maxRecDepth 20000 in
theorem gL_law_X11_make : GoodIn wsL_law (wsV RL 35 RX11 yX11_make wsX11_make) := goodIn_app (goodIn_of _ (by decide +kernel)) ggL_law_X11_make
set_option maxRecDepth 20000 in
theorem ggL_law_X10_door : GoodIn wsL_law wsX10_door := goodIn_r _ [517, 15, 308, 19, 40, 373, 254, 255, 48, 256, 60, 144, 145, 146, 59, 147, 70, 518, 519, 2, 520, 521, 258, 259, 260, 253, 261, 262, 263, 264, 133, 265, 266, 267, 268, 317, 318, 319, 18, 320, 321, 84, 322, 323, 324, 325, 326, 327, 328, 329, 330, 331, 332, 52, 333, 75, 76, 77, 334, 335, 336, 337, 338, 339, 340, 341, 185, 67, 186, 342, 343, 344, 345, 522, 403, 404, 14, 405, 53, 123, 400, 523, 471, 472, 473, 49, 474, 475, 476, 477, 478, 116, 117, 118, 479, 480, 481, 979, 980, 981, 982, 983, 984, 985, 1003, 1004, 1033, 1034, 1035, 1036, 1037, 1038, 1039, 1005, 1006, 1027, 1028, 1029, 1030, 1031, 1032] (by decide +kernel) (by decide +kernel)
set_option maxRecDepth 20000 in
theorem gL_law_X10_door : GoodIn wsL_law (wsV RL 36 RX10 yX10_door wsX10_door) := goodIn_app (goodIn_of _ (by decide +kernel)) ggL_law_X10_door
set_option maxRecDepth 20000 in
theorem ggL_law_X11_door : GoodIn wsL_law wsX11_door := goodIn_r _ [527, 275, 379, 380, 381, 5, 382, 364, 365, 366, 367, 288, 289, 290, 291, 352, 353, 354, 292, 293, 294, 295, 296, 297, 298, 299, 300, 301, 414, 415, 416, 417, 355, 356, 357, 358, 359, 276, 422, 423, 424, 425, 986, 987, 988, 989, 990, 991, 992, 993, 994, 995, 996, 997, 998, 999, 1000, 1001, 1002] (by decide +kernel) (by decide +kernel)
set_option maxRecDepth 20000 in
theorem gL_law_X11_door : GoodIn wsL_law (wsV RL 40 RX11 yX11_door wsX11_door) := goodIn_app (goodIn_of _ (by decide +kernel)) ggL_law_X11_door
set_option maxRecDepth 20000 in
theorem ggL_law_X10_doors : GoodIn wsL_law wsX10_doors := goodIn_r _ [531, 15, 308, 40, 532, 373, 254, 255, 48, 256, 60, 144, 145, 146, 59, 147, 70, 374, 979, 980, 981, 982, 983, 984, 985, 1003, 1004, 1027, 1028, 1029, 1030, 1031, 1032, 1033, 1034, 1035, 1036, 1037, 1038, 1039] (by decide +kernel) (by decide +kernel)
set_option maxRecDepth 20000 in
theorem gL_law_X10_doors : GoodIn wsL_law (wsV RL 41 RX10 yX10_doors wsX10_doors) := goodIn_app (goodIn_of _ (by decide +kernel)) ggL_law_X10_doors
set_option maxRecDepth 20000 in
theorem ggL_law_X11_doors : GoodIn wsL_law wsX11_doors := goodIn_r _ [536, 379, 380, 381, 5, 382, 364, 365, 366, 367, 288, 289, 290, 291, 275, 352, 353, 354, 292, 293, 294, 295, 296, 297, 298, 299, 300, 301, 418, 419, 420, 421, 414, 415, 416, 417, 422, 423, 424, 425, 986, 987, 988, 989, 990, 991, 992, 993, 994, 995, 996, 997, 998, 999, 1000, 1001, 1002] (by decide +kernel) (by decide +kernel)
set_option maxRecDepth 20000 in
theorem gL_law_X11_doors : GoodIn wsL_law (wsV RL 44 RX11 yX11_doors wsX11_doors) := goodIn_app (goodIn_of _ (by decide +kernel)) ggL_law_X11_doors
set_option maxRecDepth 20000 in
theorem ggL_law_X10_count : GoodIn wsL_law wsX10_count := goodIn_r _ [540, 15, 40, 42, 308, 541, 309, 542, 27, 543, 544, 19, 545, 35, 307, 546, 547, 548, 14, 549, 550, 551, 552, 553, 53, 123, 400, 145, 146, 59, 147, 70, 554, 555, 556, 557, 558, 559, 560, 561, 562, 563, 26, 564, 97, 565, 566, 98, 567, 137, 138, 139, 140, 141, 142, 143, 568, 254, 255, 48, 256, 60, 144, 569, 570, 571, 572, 573, 96, 574, 575, 576, 577, 578, 116, 117, 118, 579, 403, 404, 405, 580, 266, 267, 268, 133, 581, 582, 583, 584, 585, 586, 587, 588, 589, 590, 591, 592, 593, 594, 595, 596, 597, 598, 599, 600, 601, 602, 603, 604, 605, 606, 607, 608, 124, 609, 610, 611, 612, 979, 980, 981, 982, 983, 984, 985, 1003, 1004, 1027, 1028, 1029, 1030, 1031, 1032, 1033, 1034, 1035, 1036, 1037, 1038, 1005, 1006, 1022, 1023, 1039, 1010, 1011, 1012, 1013, 1014, 1015, 1016] (by decide +kernel) (by decide +kernel)
set_option maxRecDepth 20000 in
theorem gL_law_X10_count : GoodIn wsL_law (wsV RL 45 RX10 yX10_count wsX10_count) := goodIn_app (goodIn_of _ (by decide +kernel)) ggL_law_X10_count
set_option maxRecDepth 20000 in
theorem ggL_law_X11_count : GoodIn wsL_law wsX11_count := goodIn_r _ [616, 275, 488, 359, 351, 288, 289, 290, 5, 291, 360, 361, 362, 363, 364, 365, 366, 367, 292, 293, 294, 295, 296, 297, 298, 299, 300, 301, 489, 490, 491, 492, 278, 414, 415, 416, 417, 379, 380, 381, 382, 352, 353, 354, 510, 511, 512, 513, 617, 618, 619, 620, 279, 498, 499, 500, 501, 418, 419, 420, 421, 422, 423, 424, 425, 502, 503, 504, 505, 506, 507, 508, 509, 621, 622, 623, 624, 625, 626, 627, 628, 629, 630, 631, 632, 633, 634, 635, 636, 637, 638, 639, 640, 641, 642, 643, 644, 986, 987, 988, 989, 990, 991, 992, 993, 994, 995, 996, 997, 998, 999, 1000, 1001, 1002] (by decide +kernel) (by decide +kernel)
set_option maxRecDepth 20000 in
theorem gL_law_X11_count : GoodIn wsL_law (wsV RL 48 RX11 yX11_count wsX11_count) := goodIn_app (goodIn_of _ (by decide +kernel)) ggL_law_X11_count
set_option maxRecDepth 20000 in
theorem ggL_law_X10_part : GoodIn wsL_law wsX10_part := goodIn_r _ [648, 15, 308, 27, 649, 373, 254, 255, 48, 256, 60, 144, 145, 146, 59, 147, 70, 561, 562, 563, 26, 564, 97, 565, 566, 98, 567, 137, 138, 139, 140, 141, 142, 143, 568, 569, 570, 571, 572, 573, 96, 574, 575, 576, 577, 578, 116, 117, 118, 579, 403, 404, 14, 405, 53, 123, 400, 580, 266, 267, 268, 133, 374, 979, 980, 981, 982, 983, 984, 985, 1003, 1004, 1010, 1011, 1012, 1013, 1014, 1015, 1016, 1033, 1034, 1035, 1036, 1037, 1038, 1039, 1027, 1028, 1029, 1030, 1031, 1032] (by decide +kernel) (by decide +kernel)
set_option maxRecDepth 20000 in
theorem gL_law_X10_part : GoodIn wsL_law (wsV RL 49 RX10 yX10_part wsX10_part) := goodIn_app (goodIn_of _ (by decide +kernel)) ggL_law_X10_part
set_option maxRecDepth 20000 in
theorem ggL_law_X11_part : GoodIn wsL_law wsX11_part := goodIn_r _ [653, 279, 379, 380, 381, 5, 382, 364, 365, 366, 367, 288, 289, 290, 291, 275, 352, 353, 354, 292, 293, 294, 295, 296, 297, 298, 299, 300, 301, 498, 499, 500, 501, 418, 419, 420, 421, 414, 415, 416, 417, 422, 423, 424, 425, 502, 503, 504, 505, 506, 507, 508, 509, 986, 987, 988, 989, 990, 991, 992, 993, 994, 995, 996, 997, 998, 999, 1000, 1001, 1002] (by decide +kernel) (by decide +kernel)
set_option maxRecDepth 20000 in
theorem gL_law_X11_part : GoodIn wsL_law (wsV RL 52 RX11 yX11_part wsX11_part) := goodIn_app (goodIn_of _ (by decide +kernel)) ggL_law_X11_part
set_option maxRecDepth 20000 in
theorem ggL_law_X10_start : GoodIn wsL_law wsX10_start := goodIn_r _ [657, 15, 308, 19, 40, 543, 373, 254, 255, 48, 256, 60, 144, 145, 146, 59, 147, 70, 317, 318, 319, 18, 320, 321, 84, 322, 323, 324, 325, 326, 327, 328, 329, 330, 331, 332, 52, 333, 75, 76, 77, 334, 335, 336, 337, 338, 339, 340, 341, 185, 67, 186, 342, 343, 344, 345, 979, 980, 981, 982, 983, 984, 985, 1003, 1004, 1027, 1028, 1029, 1030, 1031, 1032, 1033, 1034, 1035, 1036, 1037, 1038, 1039, 1005, 1006] (by decide +kernel) (by decide +kernel)
set_option maxRecDepth 20000 in
theorem gL_law_X10_start : GoodIn wsL_law (wsV RL 53 RX10 yX10_start wsX10_start) := goodIn_app (goodIn_of _ (by decide +kernel)) ggL_law_X10_start
set_option maxRecDepth 20000 in
theorem ggL_law_X11_start : GoodIn wsL_law wsX11_start := goodIn_r _ [661, 379, 380, 381, 5, 382, 364, 365, 366, 367, 288, 289, 290, 291, 275, 352, 353, 354, 292, 293, 294, 295, 296, 297, 298, 299, 300, 301, 662, 663, 664, 665, 355, 356, 357, 358, 359, 276, 986, 987, 988, 989, 990, 991, 992, 993, 994, 995, 996, 997, 998, 999, 1000, 1001, 1002] (by decide +kernel) (by decide +kernel)
set_option maxRecDepth 20000 in
theorem gL_law_X11_start : GoodIn wsL_law (wsV RL 56 RX11 yX11_start wsX11_start) := goodIn_app (goodIn_of _ (by decide +kernel)) ggL_law_X11_start
set_option maxRecDepth 20000 in
theorem ggL_law_X10_goal : GoodIn wsL_law wsX10_goal := goodIn_r _ [669, 15, 308, 19, 40, 544, 373, 254, 255, 48, 256, 60, 144, 145, 146, 59, 147, 70, 317, 318, 319, 18, 320, 321, 84, 322, 323, 324, 325, 326, 327, 328, 329, 330, 331, 332, 52, 333, 75, 76, 77, 334, 335, 336, 337, 338, 339, 340, 341, 185, 67, 186, 342, 343, 344, 345, 979, 980, 981, 982, 983, 984, 985, 1003, 1004, 1027, 1028, 1029, 1030, 1031, 1032, 1033, 1034, 1035, 1036, 1037, 1038, 1039, 1005, 1006] (by decide +kernel) (by decide +kernel)
set_option maxRecDepth 20000 in
theorem gL_law_X10_goal : GoodIn wsL_law (wsV RL 57 RX10 yX10_goal wsX10_goal) := goodIn_app (goodIn_of _ (by decide +kernel)) ggL_law_X10_goal
set_option maxRecDepth 20000 in
theorem ggL_law_X11_goal : GoodIn wsL_law wsX11_goal := goodIn_r _ [673, 379, 380, 381, 5, 382, 364, 365, 366, 367, 288, 289, 290, 291, 275, 352, 353, 354, 292, 293, 294, 295, 296, 297, 298, 299, 300, 301, 662, 663, 664, 665, 355, 356, 357, 358, 359, 276, 986, 987, 988, 989, 990, 991, 992, 993, 994, 995, 996, 997, 998, 999, 1000, 1001, 1002] (by decide +kernel) (by decide +kernel)
set_option maxRecDepth 20000 in
theorem gL_law_X11_goal : GoodIn wsL_law (wsV RL 60 RX11 yX11_goal wsX11_goal) := goodIn_app (goodIn_of _ (by decide +kernel)) ggL_law_X11_goal
set_option maxRecDepth 20000 in
theorem ggL_law_X10_distance : GoodIn wsL_law wsX10_distance := goodIn_r _ [677, 15, 308, 27, 678, 373, 254, 255, 48, 256, 60, 144, 145, 146, 59, 147, 70, 679, 571, 572, 26, 573, 96, 566, 98, 565, 567, 137, 138, 139, 140, 141, 142, 143, 574, 575, 576, 577, 569, 578, 116, 117, 118, 579, 403, 404, 14, 405, 53, 123, 400, 580, 266, 267, 268, 133, 374, 979, 980, 981, 982, 983, 984, 985, 1003, 1004, 1010, 1011, 1012, 1013, 1014, 1015, 1016, 1033, 1034, 1035, 1036, 1037, 1038, 1039, 1027, 1028, 1029, 1030, 1031, 1032] (by decide +kernel) (by decide +kernel)
set_option maxRecDepth 20000 in
theorem gL_law_X10_distance : GoodIn wsL_law (wsV RL 61 RX10 yX10_distance wsX10_distance) := goodIn_app (goodIn_of _ (by decide +kernel)) ggL_law_X10_distance
set_option maxRecDepth 20000 in
theorem ggL_law_X11_distance : GoodIn wsL_law wsX11_distance := goodIn_r _ [683, 280, 379, 380, 381, 5, 382, 364, 365, 366, 367, 288, 289, 290, 291, 275, 352, 353, 354, 292, 293, 294, 295, 296, 297, 298, 299, 300, 301, 684, 685, 686, 687, 281, 418, 419, 420, 421, 414, 415, 416, 417, 422, 423, 424, 425, 986, 987, 988, 989, 990, 991, 992, 993, 994, 995, 996, 997, 998, 999, 1000, 1001, 1002] (by decide +kernel) (by decide +kernel)
set_option maxRecDepth 20000 in
theorem gL_law_X11_distance : GoodIn wsL_law (wsV RL 64 RX11 yX11_distance wsX11_distance) := goodIn_app (goodIn_of _ (by decide +kernel)) ggL_law_X11_distance
set_option maxRecDepth 20000 in
theorem ggL_law_X10_again : GoodIn wsL_law wsX10_again := goodIn_r _ [691, 15, 308, 27, 692, 678, 373, 254, 255, 48, 256, 60, 144, 145, 146, 59, 147, 70, 588, 589, 590, 26, 591, 592, 582, 583, 584, 565, 585, 586, 547, 548, 14, 549, 550, 551, 552, 553, 53, 123, 400, 554, 555, 556, 557, 558, 559, 560, 587, 562, 563, 564, 97, 566, 98, 567, 137, 138, 139, 140, 141, 142, 143, 568, 569, 570, 571, 572, 573, 96, 574, 575, 576, 577, 578, 116, 117, 118, 579, 403, 404, 405, 580, 266, 267, 268, 133, 679, 693, 694, 695, 696, 697, 698, 699, 700, 701, 702, 703, 704, 374, 979, 980, 981, 982, 983, 984, 985, 1003, 1004, 1033, 1034, 1035, 1036, 1037, 1038, 1010, 1011, 1012, 1013, 1014, 1015, 1016, 1039, 1027, 1028, 1029, 1030, 1031, 1032] (by decide +kernel) (by decide +kernel)
set_option maxRecDepth 20000 in
theorem gL_law_X10_again : GoodIn wsL_law (wsV RL 65 RX10 yX10_again wsX10_again) := goodIn_app (goodIn_of _ (by decide +kernel)) ggL_law_X10_again
set_option maxRecDepth 20000 in
theorem ggL_law_X11_again : GoodIn wsL_law wsX11_again := goodIn_r _ [708, 709, 681, 682, 5, 683, 280, 379, 380, 381, 382, 364, 365, 366, 367, 288, 289, 290, 291, 275, 352, 353, 354, 292, 293, 294, 295, 296, 297, 298, 299, 300, 301, 684, 685, 686, 687, 281, 418, 419, 420, 421, 414, 415, 416, 417, 422, 423, 424, 425, 625, 626, 627, 628, 617, 618, 619, 620, 279, 498, 499, 500, 501, 502, 503, 504, 505, 506, 507, 508, 509, 621, 622, 623, 624, 510, 511, 512, 513, 360, 361, 362, 363, 986, 987, 988, 989, 990, 991, 992, 993, 994, 995, 996, 997, 998, 999, 1000, 1001, 1002] (by decide +kernel) (by decide +kernel)
set_option maxRecDepth 20000 in
theorem gL_law_X11_again : GoodIn wsL_law (wsV RL 68 RX11 yX11_again wsX11_again) := goodIn_app (goodIn_of _ (by decide +kernel)) ggL_law_X11_again
set_option maxRecDepth 20000 in
theorem ggL_law_X10_way : GoodIn wsL_law wsX10_way := goodIn_r _ [713, 15, 308, 27, 678, 373, 254, 255, 48, 256, 60, 144, 145, 146, 59, 147, 70, 679, 571, 572, 26, 573, 96, 566, 98, 565, 567, 137, 138, 139, 140, 141, 142, 143, 574, 575, 576, 577, 569, 578, 116, 117, 118, 579, 403, 404, 14, 405, 53, 123, 400, 580, 266, 267, 268, 133, 374, 714, 715, 716, 717, 697, 698, 699, 700, 701, 702, 703, 704, 979, 980, 981, 982, 983, 984, 985, 1003, 1004, 1010, 1011, 1012, 1013, 1014, 1015, 1016, 1033, 1034, 1035, 1036, 1037, 1038, 1039, 1027, 1028, 1029, 1030, 1031, 1032] (by decide +kernel) (by decide +kernel)
set_option maxRecDepth 20000 in
theorem gL_law_X10_way : GoodIn wsL_law (wsV RL 69 RX10 yX10_way wsX10_way) := goodIn_app (goodIn_of _ (by decide +kernel)) ggL_law_X10_way
set_option maxRecDepth 20000 in
theorem ggL_law_X11_way : GoodIn wsL_law wsX11_way := goodIn_r _ [721, 280, 379, 380, 381, 5, 382, 364, 365, 366, 367, 288, 289, 290, 291, 275, 352, 353, 354, 292, 293, 294, 295, 296, 297, 298, 299, 300, 301, 684, 685, 686, 687, 281, 418, 419, 420, 421, 414, 415, 416, 417, 422, 423, 424, 425, 722, 723, 724, 725, 986, 987, 988, 989, 990, 991, 992, 993, 994, 995, 996, 997, 998, 999, 1000, 1001, 1002] (by decide +kernel) (by decide +kernel)
set_option maxRecDepth 20000 in
theorem gL_law_X11_way : GoodIn wsL_law (wsV RL 72 RX11 yX11_way wsX11_way) := goodIn_app (goodIn_of _ (by decide +kernel)) ggL_law_X11_way
set_option maxRecDepth 20000 in
theorem ggL_law_X10_farthest : GoodIn wsL_law wsX10_farthest := goodIn_r _ [729, 15, 308, 27, 678, 373, 254, 255, 48, 256, 60, 144, 145, 146, 59, 147, 70, 679, 571, 572, 26, 573, 96, 566, 98, 565, 567, 137, 138, 139, 140, 141, 142, 143, 574, 575, 576, 577, 569, 578, 116, 117, 118, 579, 403, 404, 14, 405, 53, 123, 400, 580, 266, 267, 268, 133, 730, 731, 732, 733, 568, 374, 979, 980, 981, 982, 983, 984, 985, 1003, 1004, 1010, 1011, 1012, 1013, 1014, 1015, 1016, 1033, 1034, 1035, 1036, 1037, 1038, 1039, 1027, 1028, 1029, 1030, 1031, 1032] (by decide +kernel) (by decide +kernel)
set_option maxRecDepth 20000 in
theorem gL_law_X10_farthest : GoodIn wsL_law (wsV RL 73 RX10 yX10_farthest wsX10_farthest) := goodIn_app (goodIn_of _ (by decide +kernel)) ggL_law_X10_farthest
set_option maxRecDepth 20000 in
theorem ggL_law_X11_farthest : GoodIn wsL_law wsX11_farthest := goodIn_r _ [737, 280, 379, 380, 381, 5, 382, 364, 365, 366, 367, 288, 289, 290, 291, 275, 352, 353, 354, 292, 293, 294, 295, 296, 297, 298, 299, 300, 301, 684, 685, 686, 687, 281, 418, 419, 420, 421, 414, 415, 416, 417, 422, 423, 424, 425, 738, 739, 740, 741, 986, 987, 988, 989, 990, 991, 992, 993, 994, 995, 996, 997, 998, 999, 1000, 1001, 1002] (by decide +kernel) (by decide +kernel)
set_option maxRecDepth 20000 in
theorem gL_law_X11_farthest : GoodIn wsL_law (wsV RL 76 RX11 yX11_farthest wsX11_farthest) := goodIn_app (goodIn_of _ (by decide +kernel)) ggL_law_X11_farthest
set_option maxRecDepth 20000 in
theorem ggL_law_X10_longest : GoodIn wsL_law wsX10_longest := goodIn_r _ [745, 27, 15, 746, 747, 748, 749, 750, 751, 26, 752, 753, 565, 96, 754, 755, 568, 254, 255, 48, 256, 60, 144, 145, 146, 59, 147, 70, 570, 571, 572, 573, 566, 98, 567, 137, 138, 139, 140, 141, 142, 143, 574, 575, 576, 577, 569, 578, 116, 117, 118, 579, 403, 404, 14, 405, 53, 123, 400, 580, 266, 267, 268, 133, 756, 731, 732, 733, 979, 980, 981, 982, 983, 984, 985, 1010, 1011, 1012, 1013, 1014, 1015, 1016, 1003, 1004, 1033, 1034, 1035, 1036, 1037, 1038, 1039, 1027, 1028, 1029, 1030, 1031, 1032] (by decide +kernel) (by decide +kernel)
set_option maxRecDepth 20000 in
theorem gL_law_X10_longest : GoodIn wsL_law (wsV RL 77 RX10 yX10_longest wsX10_longest) := goodIn_app (goodIn_of _ (by decide +kernel)) ggL_law_X10_longest
set_option maxRecDepth 20000 in
theorem ggL_law_X11_longest : GoodIn wsL_law wsX11_longest := goodIn_r _ [760, 280, 352, 353, 5, 354, 364, 365, 366, 367, 288, 289, 290, 291, 275, 292, 293, 294, 295, 296, 297, 298, 299, 300, 301, 684, 685, 686, 687, 281, 418, 419, 420, 421, 414, 415, 416, 417, 379, 380, 381, 382, 422, 423, 424, 425, 738, 739, 740, 741, 986, 987, 988, 989, 990, 991, 992, 993, 994, 995, 996, 997, 998, 999, 1000, 1001, 1002] (by decide +kernel) (by decide +kernel)
set_option maxRecDepth 20000 in
theorem gL_law_X11_longest : GoodIn wsL_law (wsV RL 80 RX11 yX11_longest wsX11_longest) := goodIn_app (goodIn_of _ (by decide +kernel)) ggL_law_X11_longest
set_option maxRecDepth 20000 in
theorem ggL_law_X10_grade : GoodIn wsL_law wsX10_grade := goodIn_r _ [764, 27, 15, 40, 544, 678, 543, 765, 766, 185, 67, 186, 679, 571, 572, 26, 573, 96, 566, 98, 565, 567, 137, 138, 59, 139, 70, 140, 141, 142, 143, 574, 575, 576, 577, 569, 145, 146, 147, 578, 116, 117, 118, 579, 403, 404, 14, 405, 53, 123, 400, 580, 266, 267, 48, 268, 133, 374, 767, 768, 769, 770, 771, 610, 611, 612, 550, 551, 552, 553, 554, 555, 556, 557, 558, 559, 560, 697, 698, 699, 700, 701, 702, 703, 704, 979, 980, 981, 982, 983, 984, 985, 1003, 1004, 1027, 1028, 1029, 1030, 1031, 1032, 1010, 1011, 1012, 1013, 1014, 1015, 1016, 1039, 1033, 1034, 1035, 1036, 1037, 1038] (by decide +kernel) (by decide +kernel)
set_option maxRecDepth 20000 in
theorem gL_law_X10_grade : GoodIn wsL_law (wsV RL 81 RX10 yX10_grade wsX10_grade) := goodIn_app (goodIn_of _ (by decide +kernel)) ggL_law_X10_grade
set_option maxRecDepth 20000 in
theorem ggL_law_X11_grade : GoodIn wsL_law wsX11_grade := goodIn_r _ [775, 275, 280, 684, 685, 686, 5, 687, 281, 364, 365, 366, 367, 288, 289, 290, 291, 418, 419, 420, 421, 414, 415, 416, 417, 379, 380, 381, 382, 352, 353, 354, 292, 293, 294, 295, 296, 297, 298, 299, 300, 301, 422, 423, 424, 425, 641, 642, 643, 644, 633, 634, 635, 636, 722, 723, 724, 725, 986, 987, 988, 989, 990, 991, 992, 993, 994, 995, 996, 997, 998, 999, 1000, 1001, 1002] (by decide +kernel) (by decide +kernel)
set_option maxRecDepth 20000 in
theorem gL_law_X11_grade : GoodIn wsL_law (wsV RL 84 RX11 yX11_grade wsX11_grade) := goodIn_app (goodIn_of _ (by decide +kernel)) ggL_law_X11_grade
set_option maxRecDepth 20000 in
theorem ggL_law_X10_sign : GoodIn wsL_law wsX10_sign := goodIn_r _ [779, 15, 308, 19, 40, 373, 254, 255, 48, 256, 60, 144, 145, 146, 59, 147, 70, 780, 781, 2, 782, 518, 519, 520, 783, 606, 607, 14, 608, 53, 124, 400, 597, 598, 599, 600, 601, 602, 603, 604, 605, 609, 610, 611, 612, 550, 551, 552, 553, 123, 554, 555, 556, 557, 558, 559, 560, 317, 318, 319, 18, 320, 321, 84, 322, 323, 324, 325, 326, 327, 328, 329, 330, 331, 332, 52, 333, 75, 76, 77, 334, 335, 336, 337, 338, 339, 340, 341, 185, 67, 186, 342, 343, 344, 345, 784, 785, 786, 787, 478, 116, 117, 118, 979, 980, 981, 982, 983, 984, 985, 1003, 1004, 1033, 1034, 1035, 1036, 1037, 1038, 1039, 1027, 1028, 1029, 1030, 1031, 1032, 1005, 1006] (by decide +kernel) (by decide +kernel)
set_option maxRecDepth 20000 in
theorem gL_law_X10_sign : GoodIn wsL_law (wsV RL 85 RX10 yX10_sign wsX10_sign) := goodIn_app (goodIn_of _ (by decide +kernel)) ggL_law_X10_sign
set_option maxRecDepth 20000 in
theorem ggL_law_X11_sign : GoodIn wsL_law wsX11_sign := goodIn_r _ [791, 275, 379, 380, 381, 5, 382, 364, 365, 366, 367, 288, 289, 290, 291, 352, 353, 354, 292, 293, 294, 295, 296, 297, 298, 299, 300, 301, 637, 638, 639, 640, 641, 642, 643, 644, 633, 634, 635, 636, 418, 419, 420, 421, 414, 415, 416, 417, 422, 423, 424, 425, 355, 356, 357, 358, 359, 276, 986, 987, 988, 989, 990, 991, 992, 993, 994, 995, 996, 997, 998, 999, 1000, 1001, 1002] (by decide +kernel) (by decide +kernel)
set_option maxRecDepth 20000 in
theorem gL_law_X11_sign : GoodIn wsL_law (wsV RL 88 RX11 yX11_sign wsX11_sign) := goodIn_app (goodIn_of _ (by decide +kernel)) ggL_law_X11_sign
set_option maxRecDepth 20000 in
theorem ggL_law_X10_unsign : GoodIn wsL_law wsX10_unsign := goodIn_r _ [795, 15, 308, 19, 40, 373, 254, 255, 48, 256, 60, 144, 145, 146, 59, 147, 70, 783, 606, 607, 14, 608, 53, 124, 400, 317, 318, 319, 18, 320, 321, 84, 322, 323, 324, 325, 326, 327, 328, 329, 330, 331, 332, 52, 333, 75, 76, 77, 334, 335, 336, 337, 338, 339, 340, 341, 185, 67, 186, 342, 343, 344, 345, 796, 797, 798, 799, 800, 801, 802, 803, 478, 116, 117, 118, 979, 980, 981, 982, 983, 984, 985, 1003, 1004, 1033, 1034, 1035, 1036, 1037, 1038, 1039, 1027, 1028, 1029, 1030, 1031, 1032, 1005, 1006] (by decide +kernel) (by decide +kernel)
set_option maxRecDepth 20000 in
theorem gL_law_X10_unsign : GoodIn wsL_law (wsV RL 89 RX10 yX10_unsign wsX10_unsign) := goodIn_app (goodIn_of _ (by decide +kernel)) ggL_law_X10_unsign
set_option maxRecDepth 20000 in
theorem ggL_law_X11_unsign : GoodIn wsL_law wsX11_unsign := goodIn_r _ [807, 275, 379, 380, 381, 5, 382, 364, 365, 366, 367, 288, 289, 290, 291, 352, 353, 354, 292, 293, 294, 295, 296, 297, 298, 299, 300, 301, 355, 356, 357, 358, 359, 276, 986, 987, 988, 989, 990, 991, 992, 993, 994, 995, 996, 997, 998, 999, 1000, 1001, 1002] (by decide +kernel) (by decide +kernel)
set_option maxRecDepth 20000 in
theorem gL_law_X11_unsign : GoodIn wsL_law (wsV RL 92 RX11 yX11_unsign wsX11_unsign) := goodIn_app (goodIn_of _ (by decide +kernel)) ggL_law_X11_unsign
set_option maxRecDepth 20000 in
theorem ggL_law_X10_points : GoodIn wsL_law wsX10_points := goodIn_r _ [811, 15, 308, 27, 40, 544, 373, 254, 255, 48, 256, 60, 144, 145, 146, 59, 147, 70, 812, 602, 603, 14, 604, 605, 606, 607, 608, 53, 124, 400, 609, 610, 611, 612, 550, 551, 552, 553, 123, 554, 555, 556, 557, 558, 559, 560, 679, 571, 572, 26, 573, 96, 566, 98, 565, 567, 137, 138, 139, 140, 141, 142, 143, 574, 575, 576, 577, 569, 578, 116, 117, 118, 579, 403, 404, 405, 580, 266, 267, 268, 133, 813, 814, 815, 816, 817, 797, 798, 799, 818, 819, 820, 821, 701, 702, 703, 704, 822, 823, 824, 825, 979, 980, 981, 982, 983, 984, 985, 1003, 1004, 1027, 1028, 1029, 1030, 1031, 1032, 1033, 1034, 1035, 1036, 1037, 1038, 1039, 1010, 1011, 1012, 1013, 1014, 1015, 1016] (by decide +kernel) (by decide +kernel)
set_option maxRecDepth 20000 in
theorem gL_law_X10_points : GoodIn wsL_law (wsV RL 93 RX10 yX10_points wsX10_points) := goodIn_app (goodIn_of _ (by decide +kernel)) ggL_law_X10_points
set_option maxRecDepth 20000 in
theorem ggL_law_X11_points : GoodIn wsL_law wsX11_points := goodIn_r _ [829, 275, 379, 380, 381, 5, 382, 364, 365, 366, 367, 288, 289, 290, 291, 352, 353, 354, 292, 293, 294, 295, 296, 297, 298, 299, 300, 301, 830, 831, 832, 833, 641, 642, 643, 644, 633, 634, 635, 636, 418, 419, 420, 421, 414, 415, 416, 417, 422, 423, 424, 425, 684, 685, 686, 687, 280, 281, 834, 835, 836, 837, 722, 723, 724, 725, 986, 987, 988, 989, 990, 991, 992, 993, 994, 995, 996, 997, 998, 999, 1000, 1001, 1002] (by decide +kernel) (by decide +kernel)
set_option maxRecDepth 20000 in
theorem gL_law_X11_points : GoodIn wsL_law (wsV RL 96 RX11 yX11_points wsX11_points) := goodIn_app (goodIn_of _ (by decide +kernel)) ggL_law_X11_points
set_option maxRecDepth 20000 in
theorem ggL_law_X10_walk : GoodIn wsL_law wsX10_walk := goodIn_r _ [841, 31, 15, 27, 842, 843, 844, 845, 846, 847, 30, 848, 849, 850, 104, 851, 852, 853, 854, 855, 856, 857, 571, 572, 26, 573, 96, 566, 98, 565, 567, 137, 138, 59, 139, 70, 140, 141, 142, 143, 574, 575, 576, 577, 569, 145, 146, 147, 578, 116, 117, 118, 579, 403, 404, 14, 405, 53, 123, 400, 580, 266, 267, 48, 268, 133, 858, 859, 860, 861, 862, 863, 864, 865, 866, 867, 868, 869, 602, 603, 604, 605, 606, 607, 608, 124, 609, 610, 611, 612, 550, 551, 552, 553, 554, 555, 556, 557, 558, 559, 560, 870, 814, 815, 816, 817, 797, 798, 799, 818, 819, 820, 821, 701, 702, 703, 704, 822, 823, 824, 825, 871, 872, 873, 874, 875, 480, 2, 481, 876, 979, 980, 981, 982, 983, 984, 985, 1017, 1018, 1019, 1020, 1021, 1003, 1004, 1027, 1028, 1029, 1030, 1031, 1032, 1010, 1011, 1012, 1013, 1014, 1015, 1016, 1039, 1033, 1034, 1035, 1036, 1037, 1038] (by decide +kernel) (by decide +kernel)
set_option maxRecDepth 20000 in
theorem gL_law_X10_walk : GoodIn wsL_law (wsV RL 97 RX10 yX10_walk wsX10_walk) := goodIn_app (goodIn_of _ (by decide +kernel)) ggL_law_X10_walk
set_option maxRecDepth 20000 in
theorem ggL_law_X11_walk : GoodIn wsL_law wsX11_walk := goodIn_r _ [880, 283, 881, 882, 352, 353, 5, 354, 883, 884, 885, 886, 275, 887, 684, 685, 686, 687, 280, 281, 364, 365, 366, 367, 288, 289, 290, 291, 418, 419, 420, 421, 414, 415, 416, 417, 379, 380, 381, 382, 292, 293, 294, 295, 296, 297, 298, 299, 300, 301, 422, 423, 424, 425, 888, 889, 890, 891, 830, 831, 832, 833, 641, 642, 643, 644, 633, 634, 635, 636, 834, 835, 836, 837, 722, 723, 724, 725, 986, 987, 988, 989, 990, 991, 992, 993, 994, 995, 996, 997, 998, 999, 1000, 1001, 1002] (by decide +kernel) (by decide +kernel)
set_option maxRecDepth 20000 in
theorem gL_law_X11_walk : GoodIn wsL_law (wsV RL 100 RX11 yX11_walk wsX11_walk) := goodIn_app (goodIn_of _ (by decide +kernel)) ggL_law_X11_walk
set_option maxRecDepth 20000 in
theorem ggL_law_X10_walked : GoodIn wsL_law wsX10_walked := goodIn_r _ [895, 31, 15, 27, 842, 40, 544, 843, 845, 846, 847, 30, 848, 849, 850, 104, 851, 852, 853, 854, 855, 856, 857, 571, 572, 26, 573, 96, 566, 98, 565, 567, 137, 138, 59, 139, 70, 140, 141, 142, 143, 574, 575, 576, 577, 569, 145, 146, 147, 578, 116, 117, 118, 579, 403, 404, 14, 405, 53, 123, 400, 580, 266, 267, 48, 268, 133, 858, 859, 860, 861, 862, 863, 864, 865, 866, 867, 868, 869, 602, 603, 604, 605, 606, 607, 608, 124, 609, 610, 611, 612, 550, 551, 552, 553, 554, 555, 556, 557, 558, 559, 560, 870, 814, 815, 816, 817, 797, 798, 799, 818, 819, 820, 821, 701, 702, 703, 704, 822, 823, 824, 825, 871, 872, 873, 874, 875, 480, 2, 481, 876, 979, 980, 981, 982, 983, 984, 985, 1017, 1018, 1019, 1020, 1021, 1003, 1004, 1027, 1028, 1029, 1030, 1031, 1032, 1010, 1011, 1012, 1013, 1014, 1015, 1016, 1039, 1033, 1034, 1035, 1036, 1037, 1038] (by decide +kernel) (by decide +kernel)
set_option maxRecDepth 20000 in
theorem gL_law_X10_walked : GoodIn wsL_law (wsV RL 101 RX10 yX10_walked wsX10_walked) := goodIn_app (goodIn_of _ (by decide +kernel)) ggL_law_X10_walked
set_option maxRecDepth 20000 in
theorem ggL_law_X11_walked : GoodIn wsL_law wsX11_walked := goodIn_r _ [899, 881, 275, 882, 883, 884, 885, 5, 886, 283, 887, 684, 685, 686, 687, 280, 281, 364, 365, 366, 367, 288, 289, 290, 291, 418, 419, 420, 421, 414, 415, 416, 417, 379, 380, 381, 382, 352, 353, 354, 292, 293, 294, 295, 296, 297, 298, 299, 300, 301, 422, 423, 424, 425, 888, 889, 890, 891, 830, 831, 832, 833, 641, 642, 643, 644, 633, 634, 635, 636, 834, 835, 836, 837, 722, 723, 724, 725, 986, 987, 988, 989, 990, 991, 992, 993, 994, 995, 996, 997, 998, 999, 1000, 1001, 1002] (by decide +kernel) (by decide +kernel)
set_option maxRecDepth 20000 in
theorem gL_law_X11_walked : GoodIn wsL_law (wsV RL 104 RX11 yX11_walked wsX11_walked) := goodIn_app (goodIn_of _ (by decide +kernel)) ggL_law_X11_walked
set_option maxRecDepth 20000 in
theorem ggL_law_X10_undo : GoodIn wsL_law wsX10_undo := goodIn_r _ [903, 19, 545, 15, 40, 308, 904, 905, 906, 18, 907, 321, 326, 327, 328, 329, 84, 330, 331, 332, 52, 333, 75, 76, 77, 334, 335, 336, 337, 338, 339, 59, 340, 70, 341, 185, 67, 186, 342, 343, 344, 345, 908, 129, 130, 48, 131, 132, 133, 134, 60, 135, 136, 137, 138, 139, 140, 141, 142, 143, 144, 145, 146, 147, 148, 149, 150, 151, 152, 153, 154, 155, 156, 157, 158, 159, 160, 161, 162, 163, 164, 165, 166, 167, 168, 169, 170, 171, 172, 173, 174, 175, 176, 177, 178, 179, 180, 181, 182, 183, 66, 68, 184, 187, 188, 189, 190, 191, 192, 193, 194, 195, 196, 197, 198, 199, 200, 201, 202, 203, 204, 205, 206, 207, 208, 209, 210, 211, 212, 213, 214, 215, 216, 217, 218, 219, 220, 221, 222, 223, 224, 225, 226, 227, 228, 229, 230, 231, 232, 233, 234, 235, 236, 237, 238, 239, 240, 241, 116, 117, 118, 242, 243, 244, 245, 246, 247, 248, 249, 250, 251, 252, 253, 254, 255, 256, 257, 258, 259, 260, 261, 262, 263, 264, 265, 266, 267, 268, 979, 980, 981, 982, 983, 984, 985, 1005, 1006, 1003, 1004, 1027, 1028, 1029, 1030, 1031, 1032, 1039, 1033, 1034, 1035, 1036, 1037, 1038] (by decide +kernel) (by decide +kernel)
set_option maxRecDepth 20000 in
theorem gL_law_X10_undo : GoodIn wsL_law (wsV RL 105 RX10 yX10_undo wsX10_undo) := goodIn_app (goodIn_of _ (by decide +kernel)) ggL_law_X10_undo
set_option maxRecDepth 20000 in
theorem ggL_law_X11_undo : GoodIn wsL_law wsX11_undo := goodIn_r _ [912, 359, 275, 276, 986, 987, 988, 989, 990, 991, 992, 993, 994, 995, 996, 997, 998, 999, 1000, 1001, 1002] (by decide +kernel) (by decide +kernel)
set_option maxRecDepth 20000 in
theorem gL_law_X11_undo : GoodIn wsL_law (wsV RL 108 RX11 yX11_undo wsX11_undo) := goodIn_app (goodIn_of _ (by decide +kernel)) ggL_law_X11_undo
set_option maxRecDepth 20000 in
theorem ggL_law_X10_type : GoodIn wsL_law wsX10_type := goodIn_r _ [916, 35, 307, 306, 115, 116, 117, 59, 118, 70, 979, 980, 981, 982, 983, 984, 985, 1022, 1023, 1039] (by decide +kernel) (by decide +kernel)
set_option maxRecDepth 20000 in
theorem gL_law_X10_type : GoodIn wsL_law (wsV RL 109 RX10 yX10_type wsX10_type) := goodIn_app (goodIn_of _ (by decide +kernel)) ggL_law_X10_type
set_option maxRecDepth 20000 in
theorem ggL_law_X11_type : GoodIn wsL_law wsX11_type := goodIn_r _ [920, 351, 277, 352, 353, 5, 354, 986, 987, 988, 989, 990, 991, 992, 993, 994, 995, 996, 997, 998, 999, 1000, 1001, 1002] (by decide +kernel) (by decide +kernel)
set_option maxRecDepth 20000 in
theorem gL_law_X11_type : GoodIn wsL_law (wsV RL 112 RX11 yX11_type wsX11_type) := goodIn_app (goodIn_of _ (by decide +kernel)) ggL_law_X11_type
set_option maxRecDepth 20000 in
theorem ggL_law_X10_clearText : GoodIn wsL_law wsX10_clearText := goodIn_r _ [924, 35, 307, 979, 980, 981, 982, 983, 984, 985, 1022, 1023] (by decide +kernel) (by decide +kernel)
set_option maxRecDepth 20000 in
theorem gL_law_X10_clearText : GoodIn wsL_law (wsV RL 113 RX10 yX10_clearText wsX10_clearText) := goodIn_app (goodIn_of _ (by decide +kernel)) ggL_law_X10_clearText
set_option maxRecDepth 20000 in
theorem ggL_law_X11_clearText : GoodIn wsL_law wsX11_clearText := goodIn_r _ [928, 351, 986, 987, 988, 989, 990, 991, 992, 993, 994, 995, 996, 997, 998, 999, 1000, 1001, 1002] (by decide +kernel) (by decide +kernel)
set_option maxRecDepth 20000 in
theorem gL_law_X11_clearText : GoodIn wsL_law (wsV RL 116 RX11 yX11_clearText wsX11_clearText) := goodIn_app (goodIn_of _ (by decide +kernel)) ggL_law_X11_clearText
set_option maxRecDepth 20000 in
theorem ggL_law_X10_fault : GoodIn wsL_law wsX10_fault := goodIn_r _ [932, 39, 15, 35, 933, 934, 935, 936, 937, 38, 938, 939, 940, 941, 942, 943, 944, 945, 946, 947, 948, 145, 146, 59, 147, 70, 949, 156, 157, 158, 159, 160, 161, 162, 163, 164, 165, 166, 167, 168, 169, 170, 171, 172, 173, 174, 175, 176, 177, 178, 179, 180, 181, 182, 183, 66, 67, 68, 184, 185, 186, 187, 188, 189, 190, 191, 192, 193, 194, 195, 196, 197, 198, 199, 200, 201, 202, 203, 204, 205, 206, 207, 208, 209, 210, 211, 212, 213, 214, 215, 216, 217, 218, 219, 220, 221, 222, 223, 224, 225, 226, 227, 228, 229, 230, 231, 232, 233, 234, 235, 236, 237, 238, 239, 240, 950, 951, 952, 953, 954, 258, 259, 48, 260, 253, 254, 255, 256, 60, 144, 261, 262, 263, 264, 133, 265, 266, 267, 268, 955, 403, 404, 14, 405, 53, 123, 400, 956, 979, 980, 981, 982, 983, 984, 985, 1024, 1025, 1026, 1003, 1004, 1027, 1028, 1029, 1030, 1031, 1032, 1022, 1023, 1039, 1033, 1034, 1035, 1036, 1037, 1038] (by decide +kernel) (by decide +kernel)
set_option maxRecDepth 20000 in
theorem gL_law_X10_fault : GoodIn wsL_law (wsV RL 117 RX10 yX10_fault wsX10_fault) := goodIn_app (goodIn_of _ (by decide +kernel)) ggL_law_X10_fault
set_option maxRecDepth 20000 in
theorem ggL_law_X11_fault : GoodIn wsL_law wsX11_fault := goodIn_r _ [960, 961, 352, 353, 5, 354, 962, 963, 964, 965, 275, 966, 351, 277, 967, 968, 969, 414, 415, 416, 417, 288, 289, 290, 291, 379, 380, 381, 382, 364, 365, 366, 367, 292, 293, 294, 295, 296, 297, 298, 299, 300, 301, 418, 419, 420, 421, 422, 423, 424, 425, 986, 987, 988, 989, 990, 991, 992, 993, 994, 995, 996, 997, 998, 999, 1000, 1001, 1002] (by decide +kernel) (by decide +kernel)
set_option maxRecDepth 20000 in
theorem gL_law_X11_fault : GoodIn wsL_law (wsV RL 120 RX11 yX11_fault wsX11_fault) := goodIn_app (goodIn_of _ (by decide +kernel)) ggL_law_X11_fault
set_option maxRecDepth 20000 in
theorem ggL_law_X10_moved : GoodIn wsL_law wsX10_moved := goodIn_r _ [973, 39, 15, 35, 974, 935, 936, 937, 38, 938, 939, 940, 941, 942, 943, 944, 945, 946, 947, 948, 145, 146, 59, 147, 70, 949, 156, 157, 158, 159, 160, 161, 162, 163, 164, 165, 166, 167, 168, 169, 170, 171, 172, 173, 174, 175, 176, 177, 178, 179, 180, 181, 182, 183, 66, 67, 68, 184, 185, 186, 187, 188, 189, 190, 191, 192, 193, 194, 195, 196, 197, 198, 199, 200, 201, 202, 203, 204, 205, 206, 207, 208, 209, 210, 211, 212, 213, 214, 215, 216, 217, 218, 219, 220, 221, 222, 223, 224, 225, 226, 227, 228, 229, 230, 231, 232, 233, 234, 235, 236, 237, 238, 239, 240, 950, 951, 952, 953, 954, 258, 259, 48, 260, 253, 254, 255, 256, 60, 144, 261, 262, 263, 264, 133, 265, 266, 267, 268, 955, 403, 404, 14, 405, 53, 123, 400, 956, 979, 980, 981, 982, 983, 984, 985, 1024, 1025, 1026, 1003, 1004, 1027, 1028, 1029, 1030, 1031, 1032, 1022, 1023, 1039, 1033, 1034, 1035, 1036, 1037, 1038] (by decide +kernel) (by decide +kernel)
set_option maxRecDepth 20000 in
theorem gL_law_X10_moved : GoodIn wsL_law (wsV RL 121 RX10 yX10_moved wsX10_moved) := goodIn_app (goodIn_of _ (by decide +kernel)) ggL_law_X10_moved
set_option maxRecDepth 20000 in
theorem ggL_law_X11_moved : GoodIn wsL_law wsX11_moved := goodIn_r _ [978, 966, 962, 963, 964, 5, 965, 275, 351, 277, 961, 967, 968, 969, 414, 415, 416, 417, 288, 289, 290, 291, 379, 380, 381, 382, 364, 365, 366, 367, 352, 353, 354, 292, 293, 294, 295, 296, 297, 298, 299, 300, 301, 418, 419, 420, 421, 422, 423, 424, 425, 986, 987, 988, 989, 990, 991, 992, 993, 994, 995, 996, 997, 998, 999, 1000, 1001, 1002] (by decide +kernel) (by decide +kernel)
set_option maxRecDepth 20000 in
theorem gL_law_X11_moved : GoodIn wsL_law (wsV RL 124 RX11 yX11_moved wsX11_moved) := goodIn_app (goodIn_of _ (by decide +kernel)) ggL_law_X11_moved
theorem dL_law_0 : decode cL_law 0 = .ok (.new 7, 3) := by decide +kernel
theorem dL_law_3 : decode cL_law 3 = .ok (.dup, 1) := by decide +kernel
theorem dL_law_4 : decode cL_law 4 = .ok (.invokespecial 9, 3) := by decide +kernel
theorem dL_law_7 : decode cL_law 7 = .ok (.astore_n 1, 1) := by decide +kernel
theorem dL_law_8 : decode cL_law 8 = .ok (.new 10, 3) := by decide +kernel
theorem dL_law_11 : decode cL_law 11 = .ok (.dup, 1) := by decide +kernel
theorem dL_law_12 : decode cL_law 12 = .ok (.invokespecial 12, 3) := by decide +kernel
theorem dL_law_15 : decode cL_law 15 = .ok (.astore_n 2, 1) := by decide +kernel
theorem dL_law_16 : decode cL_law 16 = .ok (.iconst 0, 1) := by decide +kernel
theorem dL_law_17 : decode cL_law 17 = .ok (.istore_n 3, 1) := by decide +kernel
theorem dL_law_18 : decode cL_law 18 = .ok (.iload_n 3, 1) := by decide +kernel
theorem dL_law_19 : decode cL_law 19 = .ok (.aload_n 0, 1) := by decide +kernel
theorem dL_law_20 : decode cL_law 20 = .ok (.arraylength, 1) := by decide +kernel
theorem dL_law_21 : decode cL_law 21 = .ok (.iconst 4, 1) := by decide +kernel
theorem dL_law_22 : decode cL_law 22 = .ok (.isub, 1) := by decide +kernel
theorem dL_law_23 : decode cL_law 23 = .ok (.if_icmp .gt 810, 3) := by decide +kernel
theorem dL_law_26 : decode cL_law 26 = .ok (.aload_n 0, 1) := by decide +kernel
theorem dL_law_27 : decode cL_law 27 = .ok (.iload_n 3, 1) := by decide +kernel
theorem dL_law_28 : decode cL_law 28 = .ok (.iaload, 1) := by decide +kernel
theorem dL_law_29 : decode cL_law 29 = .ok (.bipush 31, 2) := by decide +kernel
theorem dL_law_31 : decode cL_law 31 = .ok (.iand, 1) := by decide +kernel
theorem dL_law_32 : decode cL_law 32 = .ok (.tableswitch 795 0 26 #[124, 137, 160, 193, 216, 239, 282, 305, 328, 351, 374, 397, 430, 463, 506, 539, 562, 575, 618, 641, 664, 697, 710, 723, 746, 759, 782], 124) := by decide +kernel
theorem dL_law_156 : decode cL_law 156 = .ok (.aload_n 1, 1) := by decide +kernel
theorem dL_law_157 : decode cL_law 157 = .ok (.invokevirtual 13, 3) := by decide +kernel
theorem dL_law_160 : decode cL_law 160 = .ok (.aload_n 2, 1) := by decide +kernel
theorem dL_law_161 : decode cL_law 161 = .ok (.invokevirtual 17, 3) := by decide +kernel
theorem dL_law_164 : decode cL_law 164 = .ok (.if_icmp .eq 663, 3) := by decide +kernel
theorem dL_law_167 : decode cL_law 167 = .ok (.iconst 0, 1) := by decide +kernel
theorem dL_law_168 : decode cL_law 168 = .ok (.ireturn, 1) := by decide +kernel
theorem dL_law_169 : decode cL_law 169 = .ok (.aload_n 1, 1) := by decide +kernel
theorem dL_law_170 : decode cL_law 170 = .ok (.aload_n 0, 1) := by decide +kernel
theorem dL_law_171 : decode cL_law 171 = .ok (.iload_n 3, 1) := by decide +kernel
theorem dL_law_172 : decode cL_law 172 = .ok (.iconst 1, 1) := by decide +kernel
theorem dL_law_173 : decode cL_law 173 = .ok (.iadd, 1) := by decide +kernel
theorem dL_law_174 : decode cL_law 174 = .ok (.iaload, 1) := by decide +kernel
theorem dL_law_175 : decode cL_law 175 = .ok (.invokevirtual 18, 3) := by decide +kernel
theorem dL_law_178 : decode cL_law 178 = .ok (.aload_n 2, 1) := by decide +kernel
theorem dL_law_179 : decode cL_law 179 = .ok (.aload_n 0, 1) := by decide +kernel
theorem dL_law_180 : decode cL_law 180 = .ok (.iload_n 3, 1) := by decide +kernel
theorem dL_law_181 : decode cL_law 181 = .ok (.iconst 1, 1) := by decide +kernel
theorem dL_law_182 : decode cL_law 182 = .ok (.iadd, 1) := by decide +kernel
theorem dL_law_183 : decode cL_law 183 = .ok (.iaload, 1) := by decide +kernel
theorem dL_law_184 : decode cL_law 184 = .ok (.invokevirtual 22, 3) := by decide +kernel
theorem dL_law_187 : decode cL_law 187 = .ok (.if_icmp .eq 640, 3) := by decide +kernel
theorem dL_law_190 : decode cL_law 190 = .ok (.iconst 0, 1) := by decide +kernel
theorem dL_law_191 : decode cL_law 191 = .ok (.ireturn, 1) := by decide +kernel
theorem dL_law_192 : decode cL_law 192 = .ok (.aload_n 1, 1) := by decide +kernel
theorem dL_law_193 : decode cL_law 193 = .ok (.aload_n 0, 1) := by decide +kernel
theorem dL_law_194 : decode cL_law 194 = .ok (.iload_n 3, 1) := by decide +kernel
theorem dL_law_195 : decode cL_law 195 = .ok (.iconst 1, 1) := by decide +kernel
theorem dL_law_196 : decode cL_law 196 = .ok (.iadd, 1) := by decide +kernel
theorem dL_law_197 : decode cL_law 197 = .ok (.iaload, 1) := by decide +kernel
theorem dL_law_198 : decode cL_law 198 = .ok (.aload_n 0, 1) := by decide +kernel
theorem dL_law_199 : decode cL_law 199 = .ok (.iload_n 3, 1) := by decide +kernel
theorem dL_law_200 : decode cL_law 200 = .ok (.iconst 2, 1) := by decide +kernel
theorem dL_law_201 : decode cL_law 201 = .ok (.iadd, 1) := by decide +kernel
theorem dL_law_202 : decode cL_law 202 = .ok (.iaload, 1) := by decide +kernel
theorem dL_law_203 : decode cL_law 203 = .ok (.invokevirtual 23, 3) := by decide +kernel
theorem dL_law_206 : decode cL_law 206 = .ok (.aload_n 2, 1) := by decide +kernel
theorem dL_law_207 : decode cL_law 207 = .ok (.aload_n 0, 1) := by decide +kernel
theorem dL_law_208 : decode cL_law 208 = .ok (.iload_n 3, 1) := by decide +kernel
theorem dL_law_209 : decode cL_law 209 = .ok (.iconst 1, 1) := by decide +kernel
theorem dL_law_210 : decode cL_law 210 = .ok (.iadd, 1) := by decide +kernel
theorem dL_law_211 : decode cL_law 211 = .ok (.iaload, 1) := by decide +kernel
theorem dL_law_212 : decode cL_law 212 = .ok (.aload_n 0, 1) := by decide +kernel
theorem dL_law_213 : decode cL_law 213 = .ok (.iload_n 3, 1) := by decide +kernel
theorem dL_law_214 : decode cL_law 214 = .ok (.iconst 2, 1) := by decide +kernel
theorem dL_law_215 : decode cL_law 215 = .ok (.iadd, 1) := by decide +kernel
theorem dL_law_216 : decode cL_law 216 = .ok (.iaload, 1) := by decide +kernel
theorem dL_law_217 : decode cL_law 217 = .ok (.invokevirtual 27, 3) := by decide +kernel
theorem dL_law_220 : decode cL_law 220 = .ok (.if_icmp .eq 607, 3) := by decide +kernel
theorem dL_law_223 : decode cL_law 223 = .ok (.iconst 0, 1) := by decide +kernel
theorem dL_law_224 : decode cL_law 224 = .ok (.ireturn, 1) := by decide +kernel
theorem dL_law_225 : decode cL_law 225 = .ok (.aload_n 1, 1) := by decide +kernel
theorem dL_law_226 : decode cL_law 226 = .ok (.aload_n 0, 1) := by decide +kernel
theorem dL_law_227 : decode cL_law 227 = .ok (.iload_n 3, 1) := by decide +kernel
theorem dL_law_228 : decode cL_law 228 = .ok (.iconst 1, 1) := by decide +kernel
theorem dL_law_229 : decode cL_law 229 = .ok (.iadd, 1) := by decide +kernel
theorem dL_law_230 : decode cL_law 230 = .ok (.iaload, 1) := by decide +kernel
theorem dL_law_231 : decode cL_law 231 = .ok (.invokevirtual 28, 3) := by decide +kernel
theorem dL_law_234 : decode cL_law 234 = .ok (.aload_n 2, 1) := by decide +kernel
theorem dL_law_235 : decode cL_law 235 = .ok (.aload_n 0, 1) := by decide +kernel
theorem dL_law_236 : decode cL_law 236 = .ok (.iload_n 3, 1) := by decide +kernel
theorem dL_law_237 : decode cL_law 237 = .ok (.iconst 1, 1) := by decide +kernel
theorem dL_law_238 : decode cL_law 238 = .ok (.iadd, 1) := by decide +kernel
theorem dL_law_239 : decode cL_law 239 = .ok (.iaload, 1) := by decide +kernel
theorem dL_law_240 : decode cL_law 240 = .ok (.invokevirtual 31, 3) := by decide +kernel
theorem dL_law_243 : decode cL_law 243 = .ok (.if_icmp .eq 584, 3) := by decide +kernel
theorem dL_law_246 : decode cL_law 246 = .ok (.iconst 0, 1) := by decide +kernel
theorem dL_law_247 : decode cL_law 247 = .ok (.ireturn, 1) := by decide +kernel
theorem dL_law_248 : decode cL_law 248 = .ok (.aload_n 1, 1) := by decide +kernel
theorem dL_law_249 : decode cL_law 249 = .ok (.aload_n 0, 1) := by decide +kernel
theorem dL_law_250 : decode cL_law 250 = .ok (.iload_n 3, 1) := by decide +kernel
theorem dL_law_251 : decode cL_law 251 = .ok (.iconst 1, 1) := by decide +kernel
theorem dL_law_252 : decode cL_law 252 = .ok (.iadd, 1) := by decide +kernel
theorem dL_law_253 : decode cL_law 253 = .ok (.iaload, 1) := by decide +kernel
theorem dL_law_254 : decode cL_law 254 = .ok (.invokevirtual 32, 3) := by decide +kernel
theorem dL_law_257 : decode cL_law 257 = .ok (.aload_n 2, 1) := by decide +kernel
theorem dL_law_258 : decode cL_law 258 = .ok (.aload_n 0, 1) := by decide +kernel
theorem dL_law_259 : decode cL_law 259 = .ok (.iload_n 3, 1) := by decide +kernel
theorem dL_law_260 : decode cL_law 260 = .ok (.iconst 1, 1) := by decide +kernel
theorem dL_law_261 : decode cL_law 261 = .ok (.iadd, 1) := by decide +kernel
theorem dL_law_262 : decode cL_law 262 = .ok (.iaload, 1) := by decide +kernel
theorem dL_law_263 : decode cL_law 263 = .ok (.invokevirtual 35, 3) := by decide +kernel
theorem dL_law_266 : decode cL_law 266 = .ok (.if_icmp .eq 561, 3) := by decide +kernel
theorem dL_law_269 : decode cL_law 269 = .ok (.iconst 0, 1) := by decide +kernel
theorem dL_law_270 : decode cL_law 270 = .ok (.ireturn, 1) := by decide +kernel
theorem dL_law_271 : decode cL_law 271 = .ok (.aload_n 1, 1) := by decide +kernel
theorem dL_law_272 : decode cL_law 272 = .ok (.aload_n 0, 1) := by decide +kernel
theorem dL_law_273 : decode cL_law 273 = .ok (.iload_n 3, 1) := by decide +kernel
theorem dL_law_274 : decode cL_law 274 = .ok (.iconst 1, 1) := by decide +kernel
theorem dL_law_275 : decode cL_law 275 = .ok (.iadd, 1) := by decide +kernel
theorem dL_law_276 : decode cL_law 276 = .ok (.iaload, 1) := by decide +kernel
theorem dL_law_277 : decode cL_law 277 = .ok (.aload_n 0, 1) := by decide +kernel
theorem dL_law_278 : decode cL_law 278 = .ok (.iload_n 3, 1) := by decide +kernel
theorem dL_law_279 : decode cL_law 279 = .ok (.iconst 2, 1) := by decide +kernel
theorem dL_law_280 : decode cL_law 280 = .ok (.iadd, 1) := by decide +kernel
theorem dL_law_281 : decode cL_law 281 = .ok (.iaload, 1) := by decide +kernel
theorem dL_law_282 : decode cL_law 282 = .ok (.aload_n 0, 1) := by decide +kernel
theorem dL_law_283 : decode cL_law 283 = .ok (.iload_n 3, 1) := by decide +kernel
theorem dL_law_284 : decode cL_law 284 = .ok (.iconst 3, 1) := by decide +kernel
theorem dL_law_285 : decode cL_law 285 = .ok (.iadd, 1) := by decide +kernel
theorem dL_law_286 : decode cL_law 286 = .ok (.iaload, 1) := by decide +kernel
theorem dL_law_287 : decode cL_law 287 = .ok (.invokevirtual 36, 3) := by decide +kernel
theorem dL_law_290 : decode cL_law 290 = .ok (.aload_n 2, 1) := by decide +kernel
theorem dL_law_291 : decode cL_law 291 = .ok (.aload_n 0, 1) := by decide +kernel
theorem dL_law_292 : decode cL_law 292 = .ok (.iload_n 3, 1) := by decide +kernel
theorem dL_law_293 : decode cL_law 293 = .ok (.iconst 1, 1) := by decide +kernel
theorem dL_law_294 : decode cL_law 294 = .ok (.iadd, 1) := by decide +kernel
theorem dL_law_295 : decode cL_law 295 = .ok (.iaload, 1) := by decide +kernel
theorem dL_law_296 : decode cL_law 296 = .ok (.aload_n 0, 1) := by decide +kernel
theorem dL_law_297 : decode cL_law 297 = .ok (.iload_n 3, 1) := by decide +kernel
theorem dL_law_298 : decode cL_law 298 = .ok (.iconst 2, 1) := by decide +kernel
theorem dL_law_299 : decode cL_law 299 = .ok (.iadd, 1) := by decide +kernel
theorem dL_law_300 : decode cL_law 300 = .ok (.iaload, 1) := by decide +kernel
theorem dL_law_301 : decode cL_law 301 = .ok (.aload_n 0, 1) := by decide +kernel
theorem dL_law_302 : decode cL_law 302 = .ok (.iload_n 3, 1) := by decide +kernel
theorem dL_law_303 : decode cL_law 303 = .ok (.iconst 3, 1) := by decide +kernel
theorem dL_law_304 : decode cL_law 304 = .ok (.iadd, 1) := by decide +kernel
theorem dL_law_305 : decode cL_law 305 = .ok (.iaload, 1) := by decide +kernel
theorem dL_law_306 : decode cL_law 306 = .ok (.invokevirtual 40, 3) := by decide +kernel
theorem dL_law_309 : decode cL_law 309 = .ok (.if_icmp .eq 518, 3) := by decide +kernel
theorem dL_law_312 : decode cL_law 312 = .ok (.iconst 0, 1) := by decide +kernel
theorem dL_law_313 : decode cL_law 313 = .ok (.ireturn, 1) := by decide +kernel
theorem dL_law_314 : decode cL_law 314 = .ok (.aload_n 1, 1) := by decide +kernel
theorem dL_law_315 : decode cL_law 315 = .ok (.aload_n 0, 1) := by decide +kernel
theorem dL_law_316 : decode cL_law 316 = .ok (.iload_n 3, 1) := by decide +kernel
theorem dL_law_317 : decode cL_law 317 = .ok (.iconst 1, 1) := by decide +kernel
theorem dL_law_318 : decode cL_law 318 = .ok (.iadd, 1) := by decide +kernel
theorem dL_law_319 : decode cL_law 319 = .ok (.iaload, 1) := by decide +kernel
theorem dL_law_320 : decode cL_law 320 = .ok (.invokevirtual 41, 3) := by decide +kernel
theorem dL_law_323 : decode cL_law 323 = .ok (.aload_n 2, 1) := by decide +kernel
theorem dL_law_324 : decode cL_law 324 = .ok (.aload_n 0, 1) := by decide +kernel
theorem dL_law_325 : decode cL_law 325 = .ok (.iload_n 3, 1) := by decide +kernel
theorem dL_law_326 : decode cL_law 326 = .ok (.iconst 1, 1) := by decide +kernel
theorem dL_law_327 : decode cL_law 327 = .ok (.iadd, 1) := by decide +kernel
theorem dL_law_328 : decode cL_law 328 = .ok (.iaload, 1) := by decide +kernel
theorem dL_law_329 : decode cL_law 329 = .ok (.invokevirtual 44, 3) := by decide +kernel
theorem dL_law_332 : decode cL_law 332 = .ok (.if_icmp .eq 495, 3) := by decide +kernel
theorem dL_law_335 : decode cL_law 335 = .ok (.iconst 0, 1) := by decide +kernel
theorem dL_law_336 : decode cL_law 336 = .ok (.ireturn, 1) := by decide +kernel
theorem dL_law_337 : decode cL_law 337 = .ok (.aload_n 1, 1) := by decide +kernel
theorem dL_law_338 : decode cL_law 338 = .ok (.aload_n 0, 1) := by decide +kernel
theorem dL_law_339 : decode cL_law 339 = .ok (.iload_n 3, 1) := by decide +kernel
theorem dL_law_340 : decode cL_law 340 = .ok (.iconst 1, 1) := by decide +kernel
theorem dL_law_341 : decode cL_law 341 = .ok (.iadd, 1) := by decide +kernel
theorem dL_law_342 : decode cL_law 342 = .ok (.iaload, 1) := by decide +kernel
theorem dL_law_343 : decode cL_law 343 = .ok (.invokevirtual 45, 3) := by decide +kernel
theorem dL_law_346 : decode cL_law 346 = .ok (.aload_n 2, 1) := by decide +kernel
theorem dL_law_347 : decode cL_law 347 = .ok (.aload_n 0, 1) := by decide +kernel
theorem dL_law_348 : decode cL_law 348 = .ok (.iload_n 3, 1) := by decide +kernel
theorem dL_law_349 : decode cL_law 349 = .ok (.iconst 1, 1) := by decide +kernel
theorem dL_law_350 : decode cL_law 350 = .ok (.iadd, 1) := by decide +kernel
theorem dL_law_351 : decode cL_law 351 = .ok (.iaload, 1) := by decide +kernel
theorem dL_law_352 : decode cL_law 352 = .ok (.invokevirtual 48, 3) := by decide +kernel
theorem dL_law_355 : decode cL_law 355 = .ok (.if_icmp .eq 472, 3) := by decide +kernel
theorem dL_law_358 : decode cL_law 358 = .ok (.iconst 0, 1) := by decide +kernel
theorem dL_law_359 : decode cL_law 359 = .ok (.ireturn, 1) := by decide +kernel
theorem dL_law_360 : decode cL_law 360 = .ok (.aload_n 1, 1) := by decide +kernel
theorem dL_law_361 : decode cL_law 361 = .ok (.aload_n 0, 1) := by decide +kernel
theorem dL_law_362 : decode cL_law 362 = .ok (.iload_n 3, 1) := by decide +kernel
theorem dL_law_363 : decode cL_law 363 = .ok (.iconst 1, 1) := by decide +kernel
theorem dL_law_364 : decode cL_law 364 = .ok (.iadd, 1) := by decide +kernel
theorem dL_law_365 : decode cL_law 365 = .ok (.iaload, 1) := by decide +kernel
theorem dL_law_366 : decode cL_law 366 = .ok (.invokevirtual 49, 3) := by decide +kernel
theorem dL_law_369 : decode cL_law 369 = .ok (.aload_n 2, 1) := by decide +kernel
theorem dL_law_370 : decode cL_law 370 = .ok (.aload_n 0, 1) := by decide +kernel
theorem dL_law_371 : decode cL_law 371 = .ok (.iload_n 3, 1) := by decide +kernel
theorem dL_law_372 : decode cL_law 372 = .ok (.iconst 1, 1) := by decide +kernel
theorem dL_law_373 : decode cL_law 373 = .ok (.iadd, 1) := by decide +kernel
theorem dL_law_374 : decode cL_law 374 = .ok (.iaload, 1) := by decide +kernel
theorem dL_law_375 : decode cL_law 375 = .ok (.invokevirtual 52, 3) := by decide +kernel
theorem dL_law_378 : decode cL_law 378 = .ok (.if_icmp .eq 449, 3) := by decide +kernel
theorem dL_law_381 : decode cL_law 381 = .ok (.iconst 0, 1) := by decide +kernel
theorem dL_law_382 : decode cL_law 382 = .ok (.ireturn, 1) := by decide +kernel
theorem dL_law_383 : decode cL_law 383 = .ok (.aload_n 1, 1) := by decide +kernel
theorem dL_law_384 : decode cL_law 384 = .ok (.aload_n 0, 1) := by decide +kernel
theorem dL_law_385 : decode cL_law 385 = .ok (.iload_n 3, 1) := by decide +kernel
theorem dL_law_386 : decode cL_law 386 = .ok (.iconst 1, 1) := by decide +kernel
theorem dL_law_387 : decode cL_law 387 = .ok (.iadd, 1) := by decide +kernel
theorem dL_law_388 : decode cL_law 388 = .ok (.iaload, 1) := by decide +kernel
theorem dL_law_389 : decode cL_law 389 = .ok (.invokevirtual 53, 3) := by decide +kernel
theorem dL_law_392 : decode cL_law 392 = .ok (.aload_n 2, 1) := by decide +kernel
theorem dL_law_393 : decode cL_law 393 = .ok (.aload_n 0, 1) := by decide +kernel
theorem dL_law_394 : decode cL_law 394 = .ok (.iload_n 3, 1) := by decide +kernel
theorem dL_law_395 : decode cL_law 395 = .ok (.iconst 1, 1) := by decide +kernel
theorem dL_law_396 : decode cL_law 396 = .ok (.iadd, 1) := by decide +kernel
theorem dL_law_397 : decode cL_law 397 = .ok (.iaload, 1) := by decide +kernel
theorem dL_law_398 : decode cL_law 398 = .ok (.invokevirtual 56, 3) := by decide +kernel
theorem dL_law_401 : decode cL_law 401 = .ok (.if_icmp .eq 426, 3) := by decide +kernel
theorem dL_law_404 : decode cL_law 404 = .ok (.iconst 0, 1) := by decide +kernel
theorem dL_law_405 : decode cL_law 405 = .ok (.ireturn, 1) := by decide +kernel
theorem dL_law_406 : decode cL_law 406 = .ok (.aload_n 1, 1) := by decide +kernel
theorem dL_law_407 : decode cL_law 407 = .ok (.aload_n 0, 1) := by decide +kernel
theorem dL_law_408 : decode cL_law 408 = .ok (.iload_n 3, 1) := by decide +kernel
theorem dL_law_409 : decode cL_law 409 = .ok (.iconst 1, 1) := by decide +kernel
theorem dL_law_410 : decode cL_law 410 = .ok (.iadd, 1) := by decide +kernel
theorem dL_law_411 : decode cL_law 411 = .ok (.iaload, 1) := by decide +kernel
theorem dL_law_412 : decode cL_law 412 = .ok (.invokevirtual 57, 3) := by decide +kernel
theorem dL_law_415 : decode cL_law 415 = .ok (.aload_n 2, 1) := by decide +kernel
theorem dL_law_416 : decode cL_law 416 = .ok (.aload_n 0, 1) := by decide +kernel
theorem dL_law_417 : decode cL_law 417 = .ok (.iload_n 3, 1) := by decide +kernel
theorem dL_law_418 : decode cL_law 418 = .ok (.iconst 1, 1) := by decide +kernel
theorem dL_law_419 : decode cL_law 419 = .ok (.iadd, 1) := by decide +kernel
theorem dL_law_420 : decode cL_law 420 = .ok (.iaload, 1) := by decide +kernel
theorem dL_law_421 : decode cL_law 421 = .ok (.invokevirtual 60, 3) := by decide +kernel
theorem dL_law_424 : decode cL_law 424 = .ok (.if_icmp .eq 403, 3) := by decide +kernel
theorem dL_law_427 : decode cL_law 427 = .ok (.iconst 0, 1) := by decide +kernel
theorem dL_law_428 : decode cL_law 428 = .ok (.ireturn, 1) := by decide +kernel
theorem dL_law_429 : decode cL_law 429 = .ok (.aload_n 1, 1) := by decide +kernel
theorem dL_law_430 : decode cL_law 430 = .ok (.aload_n 0, 1) := by decide +kernel
theorem dL_law_431 : decode cL_law 431 = .ok (.iload_n 3, 1) := by decide +kernel
theorem dL_law_432 : decode cL_law 432 = .ok (.iconst 1, 1) := by decide +kernel
theorem dL_law_433 : decode cL_law 433 = .ok (.iadd, 1) := by decide +kernel
theorem dL_law_434 : decode cL_law 434 = .ok (.iaload, 1) := by decide +kernel
theorem dL_law_435 : decode cL_law 435 = .ok (.aload_n 0, 1) := by decide +kernel
theorem dL_law_436 : decode cL_law 436 = .ok (.iload_n 3, 1) := by decide +kernel
theorem dL_law_437 : decode cL_law 437 = .ok (.iconst 2, 1) := by decide +kernel
theorem dL_law_438 : decode cL_law 438 = .ok (.iadd, 1) := by decide +kernel
theorem dL_law_439 : decode cL_law 439 = .ok (.iaload, 1) := by decide +kernel
theorem dL_law_440 : decode cL_law 440 = .ok (.invokevirtual 61, 3) := by decide +kernel
theorem dL_law_443 : decode cL_law 443 = .ok (.aload_n 2, 1) := by decide +kernel
theorem dL_law_444 : decode cL_law 444 = .ok (.aload_n 0, 1) := by decide +kernel
theorem dL_law_445 : decode cL_law 445 = .ok (.iload_n 3, 1) := by decide +kernel
theorem dL_law_446 : decode cL_law 446 = .ok (.iconst 1, 1) := by decide +kernel
theorem dL_law_447 : decode cL_law 447 = .ok (.iadd, 1) := by decide +kernel
theorem dL_law_448 : decode cL_law 448 = .ok (.iaload, 1) := by decide +kernel
theorem dL_law_449 : decode cL_law 449 = .ok (.aload_n 0, 1) := by decide +kernel
theorem dL_law_450 : decode cL_law 450 = .ok (.iload_n 3, 1) := by decide +kernel
theorem dL_law_451 : decode cL_law 451 = .ok (.iconst 2, 1) := by decide +kernel
theorem dL_law_452 : decode cL_law 452 = .ok (.iadd, 1) := by decide +kernel
theorem dL_law_453 : decode cL_law 453 = .ok (.iaload, 1) := by decide +kernel
theorem dL_law_454 : decode cL_law 454 = .ok (.invokevirtual 64, 3) := by decide +kernel
theorem dL_law_457 : decode cL_law 457 = .ok (.if_icmp .eq 370, 3) := by decide +kernel
theorem dL_law_460 : decode cL_law 460 = .ok (.iconst 0, 1) := by decide +kernel
theorem dL_law_461 : decode cL_law 461 = .ok (.ireturn, 1) := by decide +kernel
theorem dL_law_462 : decode cL_law 462 = .ok (.aload_n 1, 1) := by decide +kernel
theorem dL_law_463 : decode cL_law 463 = .ok (.aload_n 0, 1) := by decide +kernel
theorem dL_law_464 : decode cL_law 464 = .ok (.iload_n 3, 1) := by decide +kernel
theorem dL_law_465 : decode cL_law 465 = .ok (.iconst 1, 1) := by decide +kernel
theorem dL_law_466 : decode cL_law 466 = .ok (.iadd, 1) := by decide +kernel
theorem dL_law_467 : decode cL_law 467 = .ok (.iaload, 1) := by decide +kernel
theorem dL_law_468 : decode cL_law 468 = .ok (.aload_n 0, 1) := by decide +kernel
theorem dL_law_469 : decode cL_law 469 = .ok (.iload_n 3, 1) := by decide +kernel
theorem dL_law_470 : decode cL_law 470 = .ok (.iconst 2, 1) := by decide +kernel
theorem dL_law_471 : decode cL_law 471 = .ok (.iadd, 1) := by decide +kernel
theorem dL_law_472 : decode cL_law 472 = .ok (.iaload, 1) := by decide +kernel
theorem dL_law_473 : decode cL_law 473 = .ok (.invokevirtual 65, 3) := by decide +kernel
theorem dL_law_476 : decode cL_law 476 = .ok (.aload_n 2, 1) := by decide +kernel
theorem dL_law_477 : decode cL_law 477 = .ok (.aload_n 0, 1) := by decide +kernel
theorem dL_law_478 : decode cL_law 478 = .ok (.iload_n 3, 1) := by decide +kernel
theorem dL_law_479 : decode cL_law 479 = .ok (.iconst 1, 1) := by decide +kernel
theorem dL_law_480 : decode cL_law 480 = .ok (.iadd, 1) := by decide +kernel
theorem dL_law_481 : decode cL_law 481 = .ok (.iaload, 1) := by decide +kernel
theorem dL_law_482 : decode cL_law 482 = .ok (.aload_n 0, 1) := by decide +kernel
theorem dL_law_483 : decode cL_law 483 = .ok (.iload_n 3, 1) := by decide +kernel
theorem dL_law_484 : decode cL_law 484 = .ok (.iconst 2, 1) := by decide +kernel
theorem dL_law_485 : decode cL_law 485 = .ok (.iadd, 1) := by decide +kernel
theorem dL_law_486 : decode cL_law 486 = .ok (.iaload, 1) := by decide +kernel
theorem dL_law_487 : decode cL_law 487 = .ok (.invokevirtual 68, 3) := by decide +kernel
theorem dL_law_490 : decode cL_law 490 = .ok (.if_icmp .eq 337, 3) := by decide +kernel
theorem dL_law_493 : decode cL_law 493 = .ok (.iconst 0, 1) := by decide +kernel
theorem dL_law_494 : decode cL_law 494 = .ok (.ireturn, 1) := by decide +kernel
theorem dL_law_495 : decode cL_law 495 = .ok (.aload_n 1, 1) := by decide +kernel
theorem dL_law_496 : decode cL_law 496 = .ok (.aload_n 0, 1) := by decide +kernel
theorem dL_law_497 : decode cL_law 497 = .ok (.iload_n 3, 1) := by decide +kernel
theorem dL_law_498 : decode cL_law 498 = .ok (.iconst 1, 1) := by decide +kernel
theorem dL_law_499 : decode cL_law 499 = .ok (.iadd, 1) := by decide +kernel
theorem dL_law_500 : decode cL_law 500 = .ok (.iaload, 1) := by decide +kernel
theorem dL_law_501 : decode cL_law 501 = .ok (.aload_n 0, 1) := by decide +kernel
theorem dL_law_502 : decode cL_law 502 = .ok (.iload_n 3, 1) := by decide +kernel
theorem dL_law_503 : decode cL_law 503 = .ok (.iconst 2, 1) := by decide +kernel
theorem dL_law_504 : decode cL_law 504 = .ok (.iadd, 1) := by decide +kernel
theorem dL_law_505 : decode cL_law 505 = .ok (.iaload, 1) := by decide +kernel
theorem dL_law_506 : decode cL_law 506 = .ok (.aload_n 0, 1) := by decide +kernel
theorem dL_law_507 : decode cL_law 507 = .ok (.iload_n 3, 1) := by decide +kernel
theorem dL_law_508 : decode cL_law 508 = .ok (.iconst 3, 1) := by decide +kernel
theorem dL_law_509 : decode cL_law 509 = .ok (.iadd, 1) := by decide +kernel
theorem dL_law_510 : decode cL_law 510 = .ok (.iaload, 1) := by decide +kernel
theorem dL_law_511 : decode cL_law 511 = .ok (.invokevirtual 69, 3) := by decide +kernel
theorem dL_law_514 : decode cL_law 514 = .ok (.aload_n 2, 1) := by decide +kernel
theorem dL_law_515 : decode cL_law 515 = .ok (.aload_n 0, 1) := by decide +kernel
theorem dL_law_516 : decode cL_law 516 = .ok (.iload_n 3, 1) := by decide +kernel
theorem dL_law_517 : decode cL_law 517 = .ok (.iconst 1, 1) := by decide +kernel
theorem dL_law_518 : decode cL_law 518 = .ok (.iadd, 1) := by decide +kernel
theorem dL_law_519 : decode cL_law 519 = .ok (.iaload, 1) := by decide +kernel
theorem dL_law_520 : decode cL_law 520 = .ok (.aload_n 0, 1) := by decide +kernel
theorem dL_law_521 : decode cL_law 521 = .ok (.iload_n 3, 1) := by decide +kernel
theorem dL_law_522 : decode cL_law 522 = .ok (.iconst 2, 1) := by decide +kernel
theorem dL_law_523 : decode cL_law 523 = .ok (.iadd, 1) := by decide +kernel
theorem dL_law_524 : decode cL_law 524 = .ok (.iaload, 1) := by decide +kernel
theorem dL_law_525 : decode cL_law 525 = .ok (.aload_n 0, 1) := by decide +kernel
theorem dL_law_526 : decode cL_law 526 = .ok (.iload_n 3, 1) := by decide +kernel
theorem dL_law_527 : decode cL_law 527 = .ok (.iconst 3, 1) := by decide +kernel
theorem dL_law_528 : decode cL_law 528 = .ok (.iadd, 1) := by decide +kernel
theorem dL_law_529 : decode cL_law 529 = .ok (.iaload, 1) := by decide +kernel
theorem dL_law_530 : decode cL_law 530 = .ok (.invokevirtual 72, 3) := by decide +kernel
theorem dL_law_533 : decode cL_law 533 = .ok (.if_icmp .eq 294, 3) := by decide +kernel
theorem dL_law_536 : decode cL_law 536 = .ok (.iconst 0, 1) := by decide +kernel
theorem dL_law_537 : decode cL_law 537 = .ok (.ireturn, 1) := by decide +kernel
theorem dL_law_538 : decode cL_law 538 = .ok (.aload_n 1, 1) := by decide +kernel
theorem dL_law_539 : decode cL_law 539 = .ok (.aload_n 0, 1) := by decide +kernel
theorem dL_law_540 : decode cL_law 540 = .ok (.iload_n 3, 1) := by decide +kernel
theorem dL_law_541 : decode cL_law 541 = .ok (.iconst 1, 1) := by decide +kernel
theorem dL_law_542 : decode cL_law 542 = .ok (.iadd, 1) := by decide +kernel
theorem dL_law_543 : decode cL_law 543 = .ok (.iaload, 1) := by decide +kernel
theorem dL_law_544 : decode cL_law 544 = .ok (.aload_n 0, 1) := by decide +kernel
theorem dL_law_545 : decode cL_law 545 = .ok (.iload_n 3, 1) := by decide +kernel
theorem dL_law_546 : decode cL_law 546 = .ok (.iconst 2, 1) := by decide +kernel
theorem dL_law_547 : decode cL_law 547 = .ok (.iadd, 1) := by decide +kernel
theorem dL_law_548 : decode cL_law 548 = .ok (.iaload, 1) := by decide +kernel
theorem dL_law_549 : decode cL_law 549 = .ok (.invokevirtual 73, 3) := by decide +kernel
theorem dL_law_552 : decode cL_law 552 = .ok (.aload_n 2, 1) := by decide +kernel
theorem dL_law_553 : decode cL_law 553 = .ok (.aload_n 0, 1) := by decide +kernel
theorem dL_law_554 : decode cL_law 554 = .ok (.iload_n 3, 1) := by decide +kernel
theorem dL_law_555 : decode cL_law 555 = .ok (.iconst 1, 1) := by decide +kernel
theorem dL_law_556 : decode cL_law 556 = .ok (.iadd, 1) := by decide +kernel
theorem dL_law_557 : decode cL_law 557 = .ok (.iaload, 1) := by decide +kernel
theorem dL_law_558 : decode cL_law 558 = .ok (.aload_n 0, 1) := by decide +kernel
theorem dL_law_559 : decode cL_law 559 = .ok (.iload_n 3, 1) := by decide +kernel
theorem dL_law_560 : decode cL_law 560 = .ok (.iconst 2, 1) := by decide +kernel
theorem dL_law_561 : decode cL_law 561 = .ok (.iadd, 1) := by decide +kernel
theorem dL_law_562 : decode cL_law 562 = .ok (.iaload, 1) := by decide +kernel
theorem dL_law_563 : decode cL_law 563 = .ok (.invokevirtual 76, 3) := by decide +kernel
theorem dL_law_566 : decode cL_law 566 = .ok (.if_icmp .eq 261, 3) := by decide +kernel
theorem dL_law_569 : decode cL_law 569 = .ok (.iconst 0, 1) := by decide +kernel
theorem dL_law_570 : decode cL_law 570 = .ok (.ireturn, 1) := by decide +kernel
theorem dL_law_571 : decode cL_law 571 = .ok (.aload_n 1, 1) := by decide +kernel
theorem dL_law_572 : decode cL_law 572 = .ok (.aload_n 0, 1) := by decide +kernel
theorem dL_law_573 : decode cL_law 573 = .ok (.iload_n 3, 1) := by decide +kernel
theorem dL_law_574 : decode cL_law 574 = .ok (.iconst 1, 1) := by decide +kernel
theorem dL_law_575 : decode cL_law 575 = .ok (.iadd, 1) := by decide +kernel
theorem dL_law_576 : decode cL_law 576 = .ok (.iaload, 1) := by decide +kernel
theorem dL_law_577 : decode cL_law 577 = .ok (.invokevirtual 77, 3) := by decide +kernel
theorem dL_law_580 : decode cL_law 580 = .ok (.aload_n 2, 1) := by decide +kernel
theorem dL_law_581 : decode cL_law 581 = .ok (.aload_n 0, 1) := by decide +kernel
theorem dL_law_582 : decode cL_law 582 = .ok (.iload_n 3, 1) := by decide +kernel
theorem dL_law_583 : decode cL_law 583 = .ok (.iconst 1, 1) := by decide +kernel
theorem dL_law_584 : decode cL_law 584 = .ok (.iadd, 1) := by decide +kernel
theorem dL_law_585 : decode cL_law 585 = .ok (.iaload, 1) := by decide +kernel
theorem dL_law_586 : decode cL_law 586 = .ok (.invokevirtual 80, 3) := by decide +kernel
theorem dL_law_589 : decode cL_law 589 = .ok (.if_icmp .eq 238, 3) := by decide +kernel
theorem dL_law_592 : decode cL_law 592 = .ok (.iconst 0, 1) := by decide +kernel
theorem dL_law_593 : decode cL_law 593 = .ok (.ireturn, 1) := by decide +kernel
theorem dL_law_594 : decode cL_law 594 = .ok (.aload_n 1, 1) := by decide +kernel
theorem dL_law_595 : decode cL_law 595 = .ok (.invokevirtual 81, 3) := by decide +kernel
theorem dL_law_598 : decode cL_law 598 = .ok (.aload_n 2, 1) := by decide +kernel
theorem dL_law_599 : decode cL_law 599 = .ok (.invokevirtual 84, 3) := by decide +kernel
theorem dL_law_602 : decode cL_law 602 = .ok (.if_icmp .eq 225, 3) := by decide +kernel
theorem dL_law_605 : decode cL_law 605 = .ok (.iconst 0, 1) := by decide +kernel
theorem dL_law_606 : decode cL_law 606 = .ok (.ireturn, 1) := by decide +kernel
theorem dL_law_607 : decode cL_law 607 = .ok (.aload_n 1, 1) := by decide +kernel
theorem dL_law_608 : decode cL_law 608 = .ok (.aload_n 0, 1) := by decide +kernel
theorem dL_law_609 : decode cL_law 609 = .ok (.iload_n 3, 1) := by decide +kernel
theorem dL_law_610 : decode cL_law 610 = .ok (.iconst 1, 1) := by decide +kernel
theorem dL_law_611 : decode cL_law 611 = .ok (.iadd, 1) := by decide +kernel
theorem dL_law_612 : decode cL_law 612 = .ok (.iaload, 1) := by decide +kernel
theorem dL_law_613 : decode cL_law 613 = .ok (.aload_n 0, 1) := by decide +kernel
theorem dL_law_614 : decode cL_law 614 = .ok (.iload_n 3, 1) := by decide +kernel
theorem dL_law_615 : decode cL_law 615 = .ok (.iconst 2, 1) := by decide +kernel
theorem dL_law_616 : decode cL_law 616 = .ok (.iadd, 1) := by decide +kernel
theorem dL_law_617 : decode cL_law 617 = .ok (.iaload, 1) := by decide +kernel
theorem dL_law_618 : decode cL_law 618 = .ok (.aload_n 0, 1) := by decide +kernel
theorem dL_law_619 : decode cL_law 619 = .ok (.iload_n 3, 1) := by decide +kernel
theorem dL_law_620 : decode cL_law 620 = .ok (.iconst 3, 1) := by decide +kernel
theorem dL_law_621 : decode cL_law 621 = .ok (.iadd, 1) := by decide +kernel
theorem dL_law_622 : decode cL_law 622 = .ok (.iaload, 1) := by decide +kernel
theorem dL_law_623 : decode cL_law 623 = .ok (.invokevirtual 85, 3) := by decide +kernel
theorem dL_law_626 : decode cL_law 626 = .ok (.aload_n 2, 1) := by decide +kernel
theorem dL_law_627 : decode cL_law 627 = .ok (.aload_n 0, 1) := by decide +kernel
theorem dL_law_628 : decode cL_law 628 = .ok (.iload_n 3, 1) := by decide +kernel
theorem dL_law_629 : decode cL_law 629 = .ok (.iconst 1, 1) := by decide +kernel
theorem dL_law_630 : decode cL_law 630 = .ok (.iadd, 1) := by decide +kernel
theorem dL_law_631 : decode cL_law 631 = .ok (.iaload, 1) := by decide +kernel
theorem dL_law_632 : decode cL_law 632 = .ok (.aload_n 0, 1) := by decide +kernel
theorem dL_law_633 : decode cL_law 633 = .ok (.iload_n 3, 1) := by decide +kernel
theorem dL_law_634 : decode cL_law 634 = .ok (.iconst 2, 1) := by decide +kernel
theorem dL_law_635 : decode cL_law 635 = .ok (.iadd, 1) := by decide +kernel
theorem dL_law_636 : decode cL_law 636 = .ok (.iaload, 1) := by decide +kernel
theorem dL_law_637 : decode cL_law 637 = .ok (.aload_n 0, 1) := by decide +kernel
theorem dL_law_638 : decode cL_law 638 = .ok (.iload_n 3, 1) := by decide +kernel
theorem dL_law_639 : decode cL_law 639 = .ok (.iconst 3, 1) := by decide +kernel
theorem dL_law_640 : decode cL_law 640 = .ok (.iadd, 1) := by decide +kernel
theorem dL_law_641 : decode cL_law 641 = .ok (.iaload, 1) := by decide +kernel
theorem dL_law_642 : decode cL_law 642 = .ok (.invokevirtual 88, 3) := by decide +kernel
theorem dL_law_645 : decode cL_law 645 = .ok (.if_icmp .eq 182, 3) := by decide +kernel
theorem dL_law_648 : decode cL_law 648 = .ok (.iconst 0, 1) := by decide +kernel
theorem dL_law_649 : decode cL_law 649 = .ok (.ireturn, 1) := by decide +kernel
theorem dL_law_650 : decode cL_law 650 = .ok (.aload_n 1, 1) := by decide +kernel
theorem dL_law_651 : decode cL_law 651 = .ok (.aload_n 0, 1) := by decide +kernel
theorem dL_law_652 : decode cL_law 652 = .ok (.iload_n 3, 1) := by decide +kernel
theorem dL_law_653 : decode cL_law 653 = .ok (.iconst 1, 1) := by decide +kernel
theorem dL_law_654 : decode cL_law 654 = .ok (.iadd, 1) := by decide +kernel
theorem dL_law_655 : decode cL_law 655 = .ok (.iaload, 1) := by decide +kernel
theorem dL_law_656 : decode cL_law 656 = .ok (.invokevirtual 89, 3) := by decide +kernel
theorem dL_law_659 : decode cL_law 659 = .ok (.aload_n 2, 1) := by decide +kernel
theorem dL_law_660 : decode cL_law 660 = .ok (.aload_n 0, 1) := by decide +kernel
theorem dL_law_661 : decode cL_law 661 = .ok (.iload_n 3, 1) := by decide +kernel
theorem dL_law_662 : decode cL_law 662 = .ok (.iconst 1, 1) := by decide +kernel
theorem dL_law_663 : decode cL_law 663 = .ok (.iadd, 1) := by decide +kernel
theorem dL_law_664 : decode cL_law 664 = .ok (.iaload, 1) := by decide +kernel
theorem dL_law_665 : decode cL_law 665 = .ok (.invokevirtual 92, 3) := by decide +kernel
theorem dL_law_668 : decode cL_law 668 = .ok (.if_icmp .eq 159, 3) := by decide +kernel
theorem dL_law_671 : decode cL_law 671 = .ok (.iconst 0, 1) := by decide +kernel
theorem dL_law_672 : decode cL_law 672 = .ok (.ireturn, 1) := by decide +kernel
theorem dL_law_673 : decode cL_law 673 = .ok (.aload_n 1, 1) := by decide +kernel
theorem dL_law_674 : decode cL_law 674 = .ok (.aload_n 0, 1) := by decide +kernel
theorem dL_law_675 : decode cL_law 675 = .ok (.iload_n 3, 1) := by decide +kernel
theorem dL_law_676 : decode cL_law 676 = .ok (.iconst 1, 1) := by decide +kernel
theorem dL_law_677 : decode cL_law 677 = .ok (.iadd, 1) := by decide +kernel
theorem dL_law_678 : decode cL_law 678 = .ok (.iaload, 1) := by decide +kernel
theorem dL_law_679 : decode cL_law 679 = .ok (.invokevirtual 93, 3) := by decide +kernel
theorem dL_law_682 : decode cL_law 682 = .ok (.aload_n 2, 1) := by decide +kernel
theorem dL_law_683 : decode cL_law 683 = .ok (.aload_n 0, 1) := by decide +kernel
theorem dL_law_684 : decode cL_law 684 = .ok (.iload_n 3, 1) := by decide +kernel
theorem dL_law_685 : decode cL_law 685 = .ok (.iconst 1, 1) := by decide +kernel
theorem dL_law_686 : decode cL_law 686 = .ok (.iadd, 1) := by decide +kernel
theorem dL_law_687 : decode cL_law 687 = .ok (.iaload, 1) := by decide +kernel
theorem dL_law_688 : decode cL_law 688 = .ok (.invokevirtual 96, 3) := by decide +kernel
theorem dL_law_691 : decode cL_law 691 = .ok (.if_icmp .eq 136, 3) := by decide +kernel
theorem dL_law_694 : decode cL_law 694 = .ok (.iconst 0, 1) := by decide +kernel
theorem dL_law_695 : decode cL_law 695 = .ok (.ireturn, 1) := by decide +kernel
theorem dL_law_696 : decode cL_law 696 = .ok (.aload_n 1, 1) := by decide +kernel
theorem dL_law_697 : decode cL_law 697 = .ok (.aload_n 0, 1) := by decide +kernel
theorem dL_law_698 : decode cL_law 698 = .ok (.iload_n 3, 1) := by decide +kernel
theorem dL_law_699 : decode cL_law 699 = .ok (.iconst 1, 1) := by decide +kernel
theorem dL_law_700 : decode cL_law 700 = .ok (.iadd, 1) := by decide +kernel
theorem dL_law_701 : decode cL_law 701 = .ok (.iaload, 1) := by decide +kernel
theorem dL_law_702 : decode cL_law 702 = .ok (.aload_n 0, 1) := by decide +kernel
theorem dL_law_703 : decode cL_law 703 = .ok (.iload_n 3, 1) := by decide +kernel
theorem dL_law_704 : decode cL_law 704 = .ok (.iconst 2, 1) := by decide +kernel
theorem dL_law_705 : decode cL_law 705 = .ok (.iadd, 1) := by decide +kernel
theorem dL_law_706 : decode cL_law 706 = .ok (.iaload, 1) := by decide +kernel
theorem dL_law_707 : decode cL_law 707 = .ok (.invokevirtual 97, 3) := by decide +kernel
theorem dL_law_710 : decode cL_law 710 = .ok (.aload_n 2, 1) := by decide +kernel
theorem dL_law_711 : decode cL_law 711 = .ok (.aload_n 0, 1) := by decide +kernel
theorem dL_law_712 : decode cL_law 712 = .ok (.iload_n 3, 1) := by decide +kernel
theorem dL_law_713 : decode cL_law 713 = .ok (.iconst 1, 1) := by decide +kernel
theorem dL_law_714 : decode cL_law 714 = .ok (.iadd, 1) := by decide +kernel
theorem dL_law_715 : decode cL_law 715 = .ok (.iaload, 1) := by decide +kernel
theorem dL_law_716 : decode cL_law 716 = .ok (.aload_n 0, 1) := by decide +kernel
theorem dL_law_717 : decode cL_law 717 = .ok (.iload_n 3, 1) := by decide +kernel
theorem dL_law_718 : decode cL_law 718 = .ok (.iconst 2, 1) := by decide +kernel
theorem dL_law_719 : decode cL_law 719 = .ok (.iadd, 1) := by decide +kernel
theorem dL_law_720 : decode cL_law 720 = .ok (.iaload, 1) := by decide +kernel
theorem dL_law_721 : decode cL_law 721 = .ok (.invokevirtual 100, 3) := by decide +kernel
theorem dL_law_724 : decode cL_law 724 = .ok (.if_icmp .eq 103, 3) := by decide +kernel
theorem dL_law_727 : decode cL_law 727 = .ok (.iconst 0, 1) := by decide +kernel
theorem dL_law_728 : decode cL_law 728 = .ok (.ireturn, 1) := by decide +kernel
theorem dL_law_729 : decode cL_law 729 = .ok (.aload_n 1, 1) := by decide +kernel
theorem dL_law_730 : decode cL_law 730 = .ok (.invokevirtual 101, 3) := by decide +kernel
theorem dL_law_733 : decode cL_law 733 = .ok (.aload_n 2, 1) := by decide +kernel
theorem dL_law_734 : decode cL_law 734 = .ok (.invokevirtual 104, 3) := by decide +kernel
theorem dL_law_737 : decode cL_law 737 = .ok (.if_icmp .eq 90, 3) := by decide +kernel
theorem dL_law_740 : decode cL_law 740 = .ok (.iconst 0, 1) := by decide +kernel
theorem dL_law_741 : decode cL_law 741 = .ok (.ireturn, 1) := by decide +kernel
theorem dL_law_742 : decode cL_law 742 = .ok (.aload_n 1, 1) := by decide +kernel
theorem dL_law_743 : decode cL_law 743 = .ok (.invokevirtual 105, 3) := by decide +kernel
theorem dL_law_746 : decode cL_law 746 = .ok (.aload_n 2, 1) := by decide +kernel
theorem dL_law_747 : decode cL_law 747 = .ok (.invokevirtual 108, 3) := by decide +kernel
theorem dL_law_750 : decode cL_law 750 = .ok (.if_icmp .eq 77, 3) := by decide +kernel
theorem dL_law_753 : decode cL_law 753 = .ok (.iconst 0, 1) := by decide +kernel
theorem dL_law_754 : decode cL_law 754 = .ok (.ireturn, 1) := by decide +kernel
theorem dL_law_755 : decode cL_law 755 = .ok (.aload_n 1, 1) := by decide +kernel
theorem dL_law_756 : decode cL_law 756 = .ok (.aload_n 0, 1) := by decide +kernel
theorem dL_law_757 : decode cL_law 757 = .ok (.iload_n 3, 1) := by decide +kernel
theorem dL_law_758 : decode cL_law 758 = .ok (.iconst 1, 1) := by decide +kernel
theorem dL_law_759 : decode cL_law 759 = .ok (.iadd, 1) := by decide +kernel
theorem dL_law_760 : decode cL_law 760 = .ok (.iaload, 1) := by decide +kernel
theorem dL_law_761 : decode cL_law 761 = .ok (.invokevirtual 109, 3) := by decide +kernel
theorem dL_law_764 : decode cL_law 764 = .ok (.aload_n 2, 1) := by decide +kernel
theorem dL_law_765 : decode cL_law 765 = .ok (.aload_n 0, 1) := by decide +kernel
theorem dL_law_766 : decode cL_law 766 = .ok (.iload_n 3, 1) := by decide +kernel
theorem dL_law_767 : decode cL_law 767 = .ok (.iconst 1, 1) := by decide +kernel
theorem dL_law_768 : decode cL_law 768 = .ok (.iadd, 1) := by decide +kernel
theorem dL_law_769 : decode cL_law 769 = .ok (.iaload, 1) := by decide +kernel
theorem dL_law_770 : decode cL_law 770 = .ok (.invokevirtual 112, 3) := by decide +kernel
theorem dL_law_773 : decode cL_law 773 = .ok (.if_icmp .eq 54, 3) := by decide +kernel
theorem dL_law_776 : decode cL_law 776 = .ok (.iconst 0, 1) := by decide +kernel
theorem dL_law_777 : decode cL_law 777 = .ok (.ireturn, 1) := by decide +kernel
theorem dL_law_778 : decode cL_law 778 = .ok (.aload_n 1, 1) := by decide +kernel
theorem dL_law_779 : decode cL_law 779 = .ok (.invokevirtual 113, 3) := by decide +kernel
theorem dL_law_782 : decode cL_law 782 = .ok (.aload_n 2, 1) := by decide +kernel
theorem dL_law_783 : decode cL_law 783 = .ok (.invokevirtual 116, 3) := by decide +kernel
theorem dL_law_786 : decode cL_law 786 = .ok (.if_icmp .eq 41, 3) := by decide +kernel
theorem dL_law_789 : decode cL_law 789 = .ok (.iconst 0, 1) := by decide +kernel
theorem dL_law_790 : decode cL_law 790 = .ok (.ireturn, 1) := by decide +kernel
theorem dL_law_791 : decode cL_law 791 = .ok (.aload_n 1, 1) := by decide +kernel
theorem dL_law_792 : decode cL_law 792 = .ok (.aload_n 0, 1) := by decide +kernel
theorem dL_law_793 : decode cL_law 793 = .ok (.iload_n 3, 1) := by decide +kernel
theorem dL_law_794 : decode cL_law 794 = .ok (.iconst 1, 1) := by decide +kernel
theorem dL_law_795 : decode cL_law 795 = .ok (.iadd, 1) := by decide +kernel
theorem dL_law_796 : decode cL_law 796 = .ok (.iaload, 1) := by decide +kernel
theorem dL_law_797 : decode cL_law 797 = .ok (.invokevirtual 117, 3) := by decide +kernel
theorem dL_law_800 : decode cL_law 800 = .ok (.aload_n 2, 1) := by decide +kernel
theorem dL_law_801 : decode cL_law 801 = .ok (.aload_n 0, 1) := by decide +kernel
theorem dL_law_802 : decode cL_law 802 = .ok (.iload_n 3, 1) := by decide +kernel
theorem dL_law_803 : decode cL_law 803 = .ok (.iconst 1, 1) := by decide +kernel
theorem dL_law_804 : decode cL_law 804 = .ok (.iadd, 1) := by decide +kernel
theorem dL_law_805 : decode cL_law 805 = .ok (.iaload, 1) := by decide +kernel
theorem dL_law_806 : decode cL_law 806 = .ok (.invokevirtual 120, 3) := by decide +kernel
theorem dL_law_809 : decode cL_law 809 = .ok (.if_icmp .eq 18, 3) := by decide +kernel
theorem dL_law_812 : decode cL_law 812 = .ok (.iconst 0, 1) := by decide +kernel
theorem dL_law_813 : decode cL_law 813 = .ok (.ireturn, 1) := by decide +kernel
theorem dL_law_814 : decode cL_law 814 = .ok (.aload_n 1, 1) := by decide +kernel
theorem dL_law_815 : decode cL_law 815 = .ok (.invokevirtual 121, 3) := by decide +kernel
theorem dL_law_818 : decode cL_law 818 = .ok (.aload_n 2, 1) := by decide +kernel
theorem dL_law_819 : decode cL_law 819 = .ok (.invokevirtual 124, 3) := by decide +kernel
theorem dL_law_822 : decode cL_law 822 = .ok (.if_icmp .eq 5, 3) := by decide +kernel
theorem dL_law_825 : decode cL_law 825 = .ok (.iconst 0, 1) := by decide +kernel
theorem dL_law_826 : decode cL_law 826 = .ok (.ireturn, 1) := by decide +kernel
theorem dL_law_827 : decode cL_law 827 = .ok (.iinc 3 4, 3) := by decide +kernel
theorem dL_law_830 : decode cL_law 830 = .ok (.goto (-812), 3) := by decide +kernel
theorem dL_law_833 : decode cL_law 833 = .ok (.iconst 1, 1) := by decide +kernel
theorem dL_law_834 : decode cL_law 834 = .ok (.ireturn, 1) := by decide +kernel
abbrev vwCl : List vw_C := [(RX0, TX0, 2), (RX1, TX1, 2), (RX2, TX2, 3), (RX3, TX3, 3), (RX4, TX4, 1), (RX5, TX5, 6), (RX6, TX6, 6), (RX7, TX7, 2), (RX8, TX8, 5), (RX9, TX9, 7), (RX10, TX10, 7), (RX11, TX11, 17)]

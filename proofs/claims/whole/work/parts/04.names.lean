theorem dX11_grade_79 : decode cX11_grade 79 = .ok (.iload_n 2, 1) := by decide +kernel
theorem dX11_grade_80 : decode cX11_grade 80 = .ok (.if_icmp .eq 39, 3) := by decide +kernel
theorem dX11_grade_83 : decode cX11_grade 83 = .ok (.iload 4, 2) := by decide +kernel
theorem dX11_grade_85 : decode cX11_grade 85 = .ok (.aload_n 0, 1) := by decide +kernel
theorem dX11_grade_86 : decode cX11_grade 86 = .ok (.iload 5, 2) := by decide +kernel
theorem dX11_grade_88 : decode cX11_grade 88 = .ok (.invokevirtual 130, 3) := by decide +kernel
theorem dX11_grade_91 : decode cX11_grade 91 = .ok (.ifCond .eq 7, 3) := by decide +kernel
theorem dX11_grade_94 : decode cX11_grade 94 = .ok (.iconst 1, 1) := by decide +kernel
theorem dX11_grade_95 : decode cX11_grade 95 = .ok (.goto 4, 3) := by decide +kernel
theorem dX11_grade_98 : decode cX11_grade 98 = .ok (.iconst 0, 1) := by decide +kernel
theorem dX11_grade_99 : decode cX11_grade 99 = .ok (.iadd, 1) := by decide +kernel
theorem dX11_grade_100 : decode cX11_grade 100 = .ok (.istore 4, 2) := by decide +kernel
theorem dX11_grade_102 : decode cX11_grade 102 = .ok (.aload_n 0, 1) := by decide +kernel
theorem dX11_grade_103 : decode cX11_grade 103 = .ok (.iload 5, 2) := by decide +kernel
theorem dX11_grade_105 : decode cX11_grade 105 = .ok (.aload_n 0, 1) := by decide +kernel
theorem dX11_grade_106 : decode cX11_grade 106 = .ok (.iload 5, 2) := by decide +kernel
theorem dX11_grade_108 : decode cX11_grade 108 = .ok (.invokevirtual 154, 3) := by decide +kernel
theorem dX11_grade_111 : decode cX11_grade 111 = .ok (.invokevirtual 80, 3) := by decide +kernel
theorem dX11_grade_114 : decode cX11_grade 114 = .ok (.istore 5, 2) := by decide +kernel
theorem dX11_grade_116 : decode cX11_grade 116 = .ok (.goto (-39), 3) := by decide +kernel
theorem dX11_grade_119 : decode cX11_grade 119 = .ok (.aload_n 0, 1) := by decide +kernel
theorem dX11_grade_120 : decode cX11_grade 120 = .ok (.getfield 25, 3) := by decide +kernel
theorem dX11_grade_123 : decode cX11_grade 123 = .ok (.iload_n 1, 1) := by decide +kernel
theorem dX11_grade_124 : decode cX11_grade 124 = .ok (.iaload, 1) := by decide +kernel
theorem dX11_grade_125 : decode cX11_grade 125 = .ok (.iconst 4, 1) := by decide +kernel
theorem dX11_grade_126 : decode cX11_grade 126 = .ok (.iload 4, 2) := by decide +kernel
theorem dX11_grade_128 : decode cX11_grade 128 = .ok (.imul, 1) := by decide +kernel
theorem dX11_grade_129 : decode cX11_grade 129 = .ok (.iadd, 1) := by decide +kernel
theorem dX11_grade_130 : decode cX11_grade 130 = .ok (.iload_n 3, 1) := by decide +kernel
theorem dX11_grade_131 : decode cX11_grade 131 = .ok (.aload_n 0, 1) := by decide +kernel
theorem dX11_grade_132 : decode cX11_grade 132 = .ok (.getfield 25, 3) := by decide +kernel
theorem dX11_grade_135 : decode cX11_grade 135 = .ok (.iload_n 1, 1) := by decide +kernel
theorem dX11_grade_136 : decode cX11_grade 136 = .ok (.iaload, 1) := by decide +kernel
theorem dX11_grade_137 : decode cX11_grade 137 = .ok (.isub, 1) := by decide +kernel
theorem dX11_grade_138 : decode cX11_grade 138 = .ok (.iconst 1, 1) := by decide +kernel
theorem dX11_grade_139 : decode cX11_grade 139 = .ok (.isub, 1) := by decide +kernel
theorem dX11_grade_140 : decode cX11_grade 140 = .ok (.iconst 2, 1) := by decide +kernel
theorem dX11_grade_141 : decode cX11_grade 141 = .ok (.idiv, 1) := by decide +kernel
theorem dX11_grade_142 : decode cX11_grade 142 = .ok (.iadd, 1) := by decide +kernel
theorem dX11_grade_143 : decode cX11_grade 143 = .ok (.bipush 10, 2) := by decide +kernel
theorem dX11_grade_145 : decode cX11_grade 145 = .ok (.idiv, 1) := by decide +kernel
theorem dX11_grade_146 : decode cX11_grade 146 = .ok (.istore 6, 2) := by decide +kernel
theorem dX11_grade_148 : decode cX11_grade 148 = .ok (.iload 6, 2) := by decide +kernel
theorem dX11_grade_150 : decode cX11_grade 150 = .ok (.bipush 9, 2) := by decide +kernel
theorem dX11_grade_152 : decode cX11_grade 152 = .ok (.if_icmp .le 8, 3) := by decide +kernel
theorem dX11_grade_155 : decode cX11_grade 155 = .ok (.bipush 9, 2) := by decide +kernel
theorem dX11_grade_157 : decode cX11_grade 157 = .ok (.goto 5, 3) := by decide +kernel
theorem dX11_grade_160 : decode cX11_grade 160 = .ok (.iload 6, 2) := by decide +kernel
theorem dX11_grade_162 : decode cX11_grade 162 = .ok (.ireturn, 1) := by decide +kernel
set_option maxRecDepth 20000 in
theorem ggX11_sign_X11_hasRoom : GoodIn wsX11_sign wsX11_hasRoom := goodIn_r _ [6, 7, 8, 9, 5, 10, 11, 12, 13, 14, 1, 15, 16, 17, 18, 19, 20, 21, 22, 23, 24, 25, 26, 27, 58, 59, 60, 61, 62, 63, 64, 65, 66, 67, 68, 69, 70, 71, 72, 73, 74] (by decide +kernel) (by decide +kernel)
set_option maxRecDepth 20000 in
theorem gX11_sign_X11_hasRoom : GoodIn wsX11_sign (wsV RX11 74 RX11 yX11_hasRoom wsX11_hasRoom) := goodIn_app (goodIn_of _ (by decide +kernel)) ggX11_sign_X11_hasRoom
set_option maxRecDepth 20000 in
theorem ggX11_sign_X11_in : GoodIn wsX11_sign wsX11_in := goodIn_r _ [17] (by decide +kernel) (by decide +kernel)
set_option maxRecDepth 20000 in
theorem gX11_sign_X11_in : GoodIn wsX11_sign (va_wsS RX11 57 yX11_in wsX11_in) := goodIn_app (goodIn_of _ (by decide +kernel)) ggX11_sign_X11_in
set_option maxRecDepth 20000 in
theorem ggX11_sign_X11_signs : GoodIn wsX11_sign wsX11_signs := goodIn_r _ [31, 1, 7, 8, 9, 5, 10, 11, 12, 13, 14, 32, 33, 34, 35, 18, 19, 20, 21, 22, 23, 24, 25, 26, 27, 36, 37, 38, 39, 40, 41, 42, 43, 44, 45, 46, 47, 2, 3, 4, 6, 15, 16, 17, 48, 49, 50, 51, 58, 59, 60, 61, 62, 63, 64, 65, 66, 67, 68, 69, 70, 71, 72, 73, 74] (by decide +kernel) (by decide +kernel)
set_option maxRecDepth 20000 in
theorem gX11_sign_X11_signs : GoodIn wsX11_sign (wsV RX11 140 RX11 yX11_signs wsX11_signs) := goodIn_app (goodIn_of _ (by decide +kernel)) ggX11_sign_X11_signs
set_option maxRecDepth 20000 in
theorem ggX11_sign_X11_records : GoodIn wsX11_sign wsX11_records := goodIn_r _ [55, 56, 57, 1, 58, 59, 60, 61, 62, 63, 64, 65, 66, 67, 68, 69, 70, 71, 72, 73, 74] (by decide +kernel) (by decide +kernel)
set_option maxRecDepth 20000 in
theorem gX11_sign_X11_records : GoodIn wsX11_sign (wsV RX11 68 RX11 yX11_records wsX11_records) := goodIn_app (goodIn_of _ (by decide +kernel)) ggX11_sign_X11_records
theorem dX11_sign_0 : decode cX11_sign 0 = .ok (.aload_n 0, 1) := by decide +kernel
theorem dX11_sign_1 : decode cX11_sign 1 = .ok (.iload_n 1, 1) := by decide +kernel
theorem dX11_sign_2 : decode cX11_sign 2 = .ok (.invokevirtual 74, 3) := by decide +kernel
theorem dX11_sign_5 : decode cX11_sign 5 = .ok (.ifCond .eq 30, 3) := by decide +kernel
theorem dX11_sign_8 : decode cX11_sign 8 = .ok (.iload_n 2, 1) := by decide +kernel
theorem dX11_sign_9 : decode cX11_sign 9 = .ok (.iconst 0, 1) := by decide +kernel
theorem dX11_sign_10 : decode cX11_sign 10 = .ok (.iconst 2, 1) := by decide +kernel
theorem dX11_sign_11 : decode cX11_sign 11 = .ok (.invokestatic 57, 3) := by decide +kernel
theorem dX11_sign_14 : decode cX11_sign 14 = .ok (.ifCond .eq 21, 3) := by decide +kernel
theorem dX11_sign_17 : decode cX11_sign 17 = .ok (.iload_n 3, 1) := by decide +kernel
theorem dX11_sign_18 : decode cX11_sign 18 = .ok (.iconst 0, 1) := by decide +kernel
theorem dX11_sign_19 : decode cX11_sign 19 = .ok (.iload_n 2, 1) := by decide +kernel
theorem dX11_sign_20 : decode cX11_sign 20 = .ok (.iconst 2, 1) := by decide +kernel
theorem dX11_sign_21 : decode cX11_sign 21 = .ok (.if_icmp .ne 7, 3) := by decide +kernel
theorem dX11_sign_24 : decode cX11_sign 24 = .ok (.iconst 3, 1) := by decide +kernel
theorem dX11_sign_25 : decode cX11_sign 25 = .ok (.goto 4, 3) := by decide +kernel
theorem dX11_sign_28 : decode cX11_sign 28 = .ok (.iconst 0, 1) := by decide +kernel
theorem dX11_sign_29 : decode cX11_sign 29 = .ok (.invokestatic 57, 3) := by decide +kernel
theorem dX11_sign_32 : decode cX11_sign 32 = .ok (.ifCond .ne 5, 3) := by decide +kernel
theorem dX11_sign_35 : decode cX11_sign 35 = .ok (.iconst (-1), 1) := by decide +kernel
theorem dX11_sign_36 : decode cX11_sign 36 = .ok (.ireturn, 1) := by decide +kernel
theorem dX11_sign_37 : decode cX11_sign 37 = .ok (.aload_n 0, 1) := by decide +kernel
theorem dX11_sign_38 : decode cX11_sign 38 = .ok (.getfield 7, 3) := by decide +kernel
theorem dX11_sign_41 : decode cX11_sign 41 = .ok (.sipush 429, 3) := by decide +kernel
theorem dX11_sign_44 : decode cX11_sign 44 = .ok (.iload_n 1, 1) := by decide +kernel
theorem dX11_sign_45 : decode cX11_sign 45 = .ok (.iadd, 1) := by decide +kernel
theorem dX11_sign_46 : decode cX11_sign 46 = .ok (.iaload, 1) := by decide +kernel
theorem dX11_sign_47 : decode cX11_sign 47 = .ok (.ifCond .ne 16, 3) := by decide +kernel
theorem dX11_sign_50 : decode cX11_sign 50 = .ok (.aload_n 0, 1) := by decide +kernel
theorem dX11_sign_51 : decode cX11_sign 51 = .ok (.iconst 0, 1) := by decide +kernel
theorem dX11_sign_52 : decode cX11_sign 52 = .ok (.invokevirtual 140, 3) := by decide +kernel
theorem dX11_sign_55 : decode cX11_sign 55 = .ok (.bipush 20, 2) := by decide +kernel
theorem dX11_sign_57 : decode cX11_sign 57 = .ok (.if_icmp .ne 6, 3) := by decide +kernel
theorem dX11_sign_60 : decode cX11_sign 60 = .ok (.bipush (-3), 2) := by decide +kernel
theorem dX11_sign_62 : decode cX11_sign 62 = .ok (.ireturn, 1) := by decide +kernel
theorem dX11_sign_63 : decode cX11_sign 63 = .ok (.aload_n 0, 1) := by decide +kernel
theorem dX11_sign_64 : decode cX11_sign 64 = .ok (.invokevirtual 68, 3) := by decide +kernel
theorem dX11_sign_67 : decode cX11_sign 67 = .ok (.aload_n 0, 1) := by decide +kernel
theorem dX11_sign_68 : decode cX11_sign 68 = .ok (.getfield 7, 3) := by decide +kernel
theorem dX11_sign_71 : decode cX11_sign 71 = .ok (.sipush 429, 3) := by decide +kernel
theorem dX11_sign_74 : decode cX11_sign 74 = .ok (.iload_n 1, 1) := by decide +kernel
theorem dX11_sign_75 : decode cX11_sign 75 = .ok (.iadd, 1) := by decide +kernel
theorem dX11_sign_76 : decode cX11_sign 76 = .ok (.iconst 1, 1) := by decide +kernel
theorem dX11_sign_77 : decode cX11_sign 77 = .ok (.iconst 4, 1) := by decide +kernel
theorem dX11_sign_78 : decode cX11_sign 78 = .ok (.iload_n 2, 1) := by decide +kernel
theorem dX11_sign_79 : decode cX11_sign 79 = .ok (.imul, 1) := by decide +kernel
theorem dX11_sign_80 : decode cX11_sign 80 = .ok (.iadd, 1) := by decide +kernel
theorem dX11_sign_81 : decode cX11_sign 81 = .ok (.iload_n 3, 1) := by decide +kernel
theorem dX11_sign_82 : decode cX11_sign 82 = .ok (.iadd, 1) := by decide +kernel
theorem dX11_sign_83 : decode cX11_sign 83 = .ok (.iastore, 1) := by decide +kernel
theorem dX11_sign_84 : decode cX11_sign 84 = .ok (.aload_n 0, 1) := by decide +kernel
theorem dX11_sign_85 : decode cX11_sign 85 = .ok (.iconst 0, 1) := by decide +kernel
theorem dX11_sign_86 : decode cX11_sign 86 = .ok (.invokevirtual 140, 3) := by decide +kernel
theorem dX11_sign_89 : decode cX11_sign 89 = .ok (.ireturn, 1) := by decide +kernel
set_option maxRecDepth 20000 in
theorem ggX11_unsign_X11_hasRoom : GoodIn wsX11_unsign wsX11_hasRoom := goodIn_r _ [6, 7, 8, 9, 5, 10, 11, 12, 13, 14, 1, 15, 16, 17, 18, 19, 20, 21, 22, 23, 24, 25, 26, 27, 34, 35, 36, 37, 38, 39, 40, 41, 42, 43, 44, 45, 46, 47, 48, 49, 50] (by decide +kernel) (by decide +kernel)
set_option maxRecDepth 20000 in
theorem gX11_unsign_X11_hasRoom : GoodIn wsX11_unsign (wsV RX11 74 RX11 yX11_hasRoom wsX11_hasRoom) := goodIn_app (goodIn_of _ (by decide +kernel)) ggX11_unsign_X11_hasRoom
set_option maxRecDepth 20000 in
theorem ggX11_unsign_X11_records : GoodIn wsX11_unsign wsX11_records := goodIn_r _ [31, 32, 33, 1, 34, 35, 36, 37, 38, 39, 40, 41, 42, 43, 44, 45, 46, 47, 48, 49, 50] (by decide +kernel) (by decide +kernel)
set_option maxRecDepth 20000 in
theorem gX11_unsign_X11_records : GoodIn wsX11_unsign (wsV RX11 68 RX11 yX11_records wsX11_records) := goodIn_app (goodIn_of _ (by decide +kernel)) ggX11_unsign_X11_records
theorem dX11_unsign_0 : decode cX11_unsign 0 = .ok (.aload_n 0, 1) := by decide +kernel
theorem dX11_unsign_1 : decode cX11_unsign 1 = .ok (.iload_n 1, 1) := by decide +kernel
theorem dX11_unsign_2 : decode cX11_unsign 2 = .ok (.invokevirtual 74, 3) := by decide +kernel
theorem dX11_unsign_5 : decode cX11_unsign 5 = .ok (.ifCond .ne 5, 3) := by decide +kernel
theorem dX11_unsign_8 : decode cX11_unsign 8 = .ok (.iconst (-1), 1) := by decide +kernel
theorem dX11_unsign_9 : decode cX11_unsign 9 = .ok (.ireturn, 1) := by decide +kernel
theorem dX11_unsign_10 : decode cX11_unsign 10 = .ok (.aload_n 0, 1) := by decide +kernel
theorem dX11_unsign_11 : decode cX11_unsign 11 = .ok (.getfield 7, 3) := by decide +kernel
theorem dX11_unsign_14 : decode cX11_unsign 14 = .ok (.sipush 429, 3) := by decide +kernel
theorem dX11_unsign_17 : decode cX11_unsign 17 = .ok (.iload_n 1, 1) := by decide +kernel
theorem dX11_unsign_18 : decode cX11_unsign 18 = .ok (.iadd, 1) := by decide +kernel
theorem dX11_unsign_19 : decode cX11_unsign 19 = .ok (.iaload, 1) := by decide +kernel
theorem dX11_unsign_20 : decode cX11_unsign 20 = .ok (.ifCond .ne 6, 3) := by decide +kernel
theorem dX11_unsign_23 : decode cX11_unsign 23 = .ok (.bipush (-4), 2) := by decide +kernel
theorem dX11_unsign_25 : decode cX11_unsign 25 = .ok (.ireturn, 1) := by decide +kernel
theorem dX11_unsign_26 : decode cX11_unsign 26 = .ok (.aload_n 0, 1) := by decide +kernel
theorem dX11_unsign_27 : decode cX11_unsign 27 = .ok (.invokevirtual 68, 3) := by decide +kernel
theorem dX11_unsign_30 : decode cX11_unsign 30 = .ok (.aload_n 0, 1) := by decide +kernel
theorem dX11_unsign_31 : decode cX11_unsign 31 = .ok (.getfield 7, 3) := by decide +kernel
theorem dX11_unsign_34 : decode cX11_unsign 34 = .ok (.sipush 429, 3) := by decide +kernel
theorem dX11_unsign_37 : decode cX11_unsign 37 = .ok (.iload_n 1, 1) := by decide +kernel
theorem dX11_unsign_38 : decode cX11_unsign 38 = .ok (.iadd, 1) := by decide +kernel
theorem dX11_unsign_39 : decode cX11_unsign 39 = .ok (.iaload, 1) := by decide +kernel
theorem dX11_unsign_40 : decode cX11_unsign 40 = .ok (.istore_n 2, 1) := by decide +kernel
theorem dX11_unsign_41 : decode cX11_unsign 41 = .ok (.aload_n 0, 1) := by decide +kernel
theorem dX11_unsign_42 : decode cX11_unsign 42 = .ok (.getfield 7, 3) := by decide +kernel
theorem dX11_unsign_45 : decode cX11_unsign 45 = .ok (.sipush 429, 3) := by decide +kernel
theorem dX11_unsign_48 : decode cX11_unsign 48 = .ok (.iload_n 1, 1) := by decide +kernel
theorem dX11_unsign_49 : decode cX11_unsign 49 = .ok (.iadd, 1) := by decide +kernel
theorem dX11_unsign_50 : decode cX11_unsign 50 = .ok (.iconst 0, 1) := by decide +kernel
theorem dX11_unsign_51 : decode cX11_unsign 51 = .ok (.iastore, 1) := by decide +kernel
theorem dX11_unsign_52 : decode cX11_unsign 52 = .ok (.iload_n 2, 1) := by decide +kernel
theorem dX11_unsign_53 : decode cX11_unsign 53 = .ok (.iconst 1, 1) := by decide +kernel
theorem dX11_unsign_54 : decode cX11_unsign 54 = .ok (.isub, 1) := by decide +kernel
theorem dX11_unsign_55 : decode cX11_unsign 55 = .ok (.iconst 4, 1) := by decide +kernel
theorem dX11_unsign_56 : decode cX11_unsign 56 = .ok (.idiv, 1) := by decide +kernel
theorem dX11_unsign_57 : decode cX11_unsign 57 = .ok (.ireturn, 1) := by decide +kernel
set_option maxRecDepth 20000 in
theorem ggX11_pointed_X11_isOpen : GoodIn wsX11_pointed wsX11_isOpen := goodIn_r _ [7, 1, 8, 9, 10, 6, 11, 12, 13, 14, 15, 16, 17, 18, 19, 20, 21, 22, 23, 24, 25, 26, 27, 28, 29, 30, 31, 32, 33, 34, 35, 36, 37, 38, 39, 40, 45, 46, 47, 48, 49, 50, 51, 52, 53, 54, 55, 56, 57, 58, 59, 60, 61] (by decide +kernel) (by decide +kernel)
set_option maxRecDepth 20000 in
theorem gX11_pointed_X11_isOpen : GoodIn wsX11_pointed (wsV RX11 87 RX11 yX11_isOpen wsX11_isOpen) := goodIn_app (goodIn_of _ (by decide +kernel)) ggX11_pointed_X11_isOpen
set_option maxRecDepth 20000 in
theorem ggX11_pointed_X11_leads : GoodIn wsX11_pointed wsX11_leads := goodIn_r _ [44, 2, 3, 4, 5, 6, 7, 1, 8, 9, 10, 11, 12, 13, 14, 15, 16, 17, 18, 19, 20, 21, 22, 23, 24, 25, 26, 27, 28, 29, 30, 31, 32, 33, 34, 35, 36, 37, 38, 39, 40, 45, 46, 47, 48, 49, 50, 51, 52, 53, 54, 55, 56, 57, 58, 59, 60, 61] (by decide +kernel) (by decide +kernel)
set_option maxRecDepth 20000 in
theorem gX11_pointed_X11_leads : GoodIn wsX11_pointed (wsV RX11 154 RX11 yX11_leads wsX11_leads) := goodIn_app (goodIn_of _ (by decide +kernel)) ggX11_pointed_X11_leads
theorem dX11_pointed_0 : decode cX11_pointed 0 = .ok (.aload_n 0, 1) := by decide +kernel
theorem dX11_pointed_1 : decode cX11_pointed 1 = .ok (.getfield 7, 3) := by decide +kernel
theorem dX11_pointed_4 : decode cX11_pointed 4 = .ok (.sipush 429, 3) := by decide +kernel
theorem dX11_pointed_7 : decode cX11_pointed 7 = .ok (.iload_n 1, 1) := by decide +kernel
theorem dX11_pointed_8 : decode cX11_pointed 8 = .ok (.iadd, 1) := by decide +kernel
theorem dX11_pointed_9 : decode cX11_pointed 9 = .ok (.iaload, 1) := by decide +kernel
theorem dX11_pointed_10 : decode cX11_pointed 10 = .ok (.iconst 1, 1) := by decide +kernel
theorem dX11_pointed_11 : decode cX11_pointed 11 = .ok (.isub, 1) := by decide +kernel
theorem dX11_pointed_12 : decode cX11_pointed 12 = .ok (.iconst 4, 1) := by decide +kernel
theorem dX11_pointed_13 : decode cX11_pointed 13 = .ok (.idiv, 1) := by decide +kernel
theorem dX11_pointed_14 : decode cX11_pointed 14 = .ok (.istore_n 2, 1) := by decide +kernel
theorem dX11_pointed_15 : decode cX11_pointed 15 = .ok (.iload_n 2, 1) := by decide +kernel
theorem dX11_pointed_16 : decode cX11_pointed 16 = .ok (.iconst 2, 1) := by decide +kernel
theorem dX11_pointed_17 : decode cX11_pointed 17 = .ok (.if_icmp .ne 33, 3) := by decide +kernel
theorem dX11_pointed_20 : decode cX11_pointed 20 = .ok (.aload_n 0, 1) := by decide +kernel
theorem dX11_pointed_21 : decode cX11_pointed 21 = .ok (.getfield 7, 3) := by decide +kernel
theorem dX11_pointed_24 : decode cX11_pointed 24 = .ok (.sipush 429, 3) := by decide +kernel
theorem dX11_pointed_27 : decode cX11_pointed 27 = .ok (.iload_n 1, 1) := by decide +kernel
theorem dX11_pointed_28 : decode cX11_pointed 28 = .ok (.iadd, 1) := by decide +kernel
theorem dX11_pointed_29 : decode cX11_pointed 29 = .ok (.iaload, 1) := by decide +kernel
theorem dX11_pointed_30 : decode cX11_pointed 30 = .ok (.iconst 1, 1) := by decide +kernel
theorem dX11_pointed_31 : decode cX11_pointed 31 = .ok (.isub, 1) := by decide +kernel
theorem dX11_pointed_32 : decode cX11_pointed 32 = .ok (.iconst 4, 1) := by decide +kernel
theorem dX11_pointed_33 : decode cX11_pointed 33 = .ok (.irem, 1) := by decide +kernel
theorem dX11_pointed_34 : decode cX11_pointed 34 = .ok (.istore_n 3, 1) := by decide +kernel
theorem dX11_pointed_35 : decode cX11_pointed 35 = .ok (.aload_n 0, 1) := by decide +kernel
theorem dX11_pointed_36 : decode cX11_pointed 36 = .ok (.iload_n 1, 1) := by decide +kernel
theorem dX11_pointed_37 : decode cX11_pointed 37 = .ok (.iload_n 3, 1) := by decide +kernel
theorem dX11_pointed_38 : decode cX11_pointed 38 = .ok (.invokevirtual 87, 3) := by decide +kernel
theorem dX11_pointed_41 : decode cX11_pointed 41 = .ok (.ifCond .eq 7, 3) := by decide +kernel
theorem dX11_pointed_44 : decode cX11_pointed 44 = .ok (.iload_n 3, 1) := by decide +kernel
theorem dX11_pointed_45 : decode cX11_pointed 45 = .ok (.goto 4, 3) := by decide +kernel
theorem dX11_pointed_48 : decode cX11_pointed 48 = .ok (.iconst (-1), 1) := by decide +kernel
theorem dX11_pointed_49 : decode cX11_pointed 49 = .ok (.ireturn, 1) := by decide +kernel
theorem dX11_pointed_50 : decode cX11_pointed 50 = .ok (.iload_n 1, 1) := by decide +kernel
theorem dX11_pointed_51 : decode cX11_pointed 51 = .ok (.aload_n 0, 1) := by decide +kernel
theorem dX11_pointed_52 : decode cX11_pointed 52 = .ok (.getfield 7, 3) := by decide +kernel
theorem dX11_pointed_55 : decode cX11_pointed 55 = .ok (.bipush 8, 2) := by decide +kernel
theorem dX11_pointed_57 : decode cX11_pointed 57 = .ok (.iaload, 1) := by decide +kernel
theorem dX11_pointed_58 : decode cX11_pointed 58 = .ok (.if_icmp .eq 12, 3) := by decide +kernel
theorem dX11_pointed_61 : decode cX11_pointed 61 = .ok (.aload_n 0, 1) := by decide +kernel
theorem dX11_pointed_62 : decode cX11_pointed 62 = .ok (.getfield 25, 3) := by decide +kernel
theorem dX11_pointed_65 : decode cX11_pointed 65 = .ok (.iload_n 1, 1) := by decide +kernel
theorem dX11_pointed_66 : decode cX11_pointed 66 = .ok (.iaload, 1) := by decide +kernel
theorem dX11_pointed_67 : decode cX11_pointed 67 = .ok (.ifCond .ge 5, 3) := by decide +kernel
theorem dX11_pointed_70 : decode cX11_pointed 70 = .ok (.iconst (-1), 1) := by decide +kernel
theorem dX11_pointed_71 : decode cX11_pointed 71 = .ok (.ireturn, 1) := by decide +kernel
theorem dX11_pointed_72 : decode cX11_pointed 72 = .ok (.aload_n 0, 1) := by decide +kernel
theorem dX11_pointed_73 : decode cX11_pointed 73 = .ok (.iload_n 1, 1) := by decide +kernel
theorem dX11_pointed_74 : decode cX11_pointed 74 = .ok (.invokevirtual 154, 3) := by decide +kernel
theorem dX11_pointed_77 : decode cX11_pointed 77 = .ok (.istore_n 3, 1) := by decide +kernel
theorem dX11_pointed_78 : decode cX11_pointed 78 = .ok (.iload_n 2, 1) := by decide +kernel
theorem dX11_pointed_79 : decode cX11_pointed 79 = .ok (.iconst 1, 1) := by decide +kernel
theorem dX11_pointed_80 : decode cX11_pointed 80 = .ok (.if_icmp .ne 27, 3) := by decide +kernel
theorem dX11_pointed_83 : decode cX11_pointed 83 = .ok (.iload_n 3, 1) := by decide +kernel
theorem dX11_pointed_84 : decode cX11_pointed 84 = .ok (.iconst 1, 1) := by decide +kernel
theorem dX11_pointed_85 : decode cX11_pointed 85 = .ok (.iadd, 1) := by decide +kernel
theorem dX11_pointed_86 : decode cX11_pointed 86 = .ok (.iconst 4, 1) := by decide +kernel
theorem dX11_pointed_87 : decode cX11_pointed 87 = .ok (.irem, 1) := by decide +kernel
theorem dX11_pointed_88 : decode cX11_pointed 88 = .ok (.istore_n 3, 1) := by decide +kernel
theorem dX11_pointed_89 : decode cX11_pointed 89 = .ok (.aload_n 0, 1) := by decide +kernel
theorem dX11_pointed_90 : decode cX11_pointed 90 = .ok (.iload_n 1, 1) := by decide +kernel
theorem dX11_pointed_91 : decode cX11_pointed 91 = .ok (.iload_n 3, 1) := by decide +kernel
theorem dX11_pointed_92 : decode cX11_pointed 92 = .ok (.invokevirtual 87, 3) := by decide +kernel
theorem dX11_pointed_95 : decode cX11_pointed 95 = .ok (.ifCond .ne 12, 3) := by decide +kernel
theorem dX11_pointed_98 : decode cX11_pointed 98 = .ok (.iload_n 3, 1) := by decide +kernel
theorem dX11_pointed_99 : decode cX11_pointed 99 = .ok (.iconst 1, 1) := by decide +kernel
theorem dX11_pointed_100 : decode cX11_pointed 100 = .ok (.iadd, 1) := by decide +kernel
theorem dX11_pointed_101 : decode cX11_pointed 101 = .ok (.iconst 4, 1) := by decide +kernel
theorem dX11_pointed_102 : decode cX11_pointed 102 = .ok (.irem, 1) := by decide +kernel
theorem dX11_pointed_103 : decode cX11_pointed 103 = .ok (.istore_n 3, 1) := by decide +kernel
theorem dX11_pointed_104 : decode cX11_pointed 104 = .ok (.goto (-15), 3) := by decide +kernel
theorem dX11_pointed_107 : decode cX11_pointed 107 = .ok (.iload_n 3, 1) := by decide +kernel
theorem dX11_pointed_108 : decode cX11_pointed 108 = .ok (.ireturn, 1) := by decide +kernel
set_option maxRecDepth 20000 in
theorem ggX11_hasSign_X11_isFork : GoodIn wsX11_hasSign wsX11_isFork := goodIn_r _ [6, 7, 8, 9, 5, 10, 1, 11, 12, 13, 14, 15, 16, 17, 18, 19, 20, 21, 22, 23, 24, 25, 26, 27, 28, 29, 30, 31, 32, 33, 34, 35, 36, 37, 38, 39, 40, 41, 42, 43, 44, 45, 46, 47, 48, 49, 50, 51, 52, 53, 54, 55, 56, 57, 58, 59, 60, 61, 62, 63, 64] (by decide +kernel) (by decide +kernel)
set_option maxRecDepth 20000 in
theorem gX11_hasSign_X11_isFork : GoodIn wsX11_hasSign (wsV RX11 130 RX11 yX11_isFork wsX11_isFork) := goodIn_app (goodIn_of _ (by decide +kernel)) ggX11_hasSign_X11_isFork
theorem dX11_hasSign_0 : decode cX11_hasSign 0 = .ok (.aload_n 0, 1) := by decide +kernel
theorem dX11_hasSign_1 : decode cX11_hasSign 1 = .ok (.getfield 7, 3) := by decide +kernel
theorem dX11_hasSign_4 : decode cX11_hasSign 4 = .ok (.sipush 429, 3) := by decide +kernel
theorem dX11_hasSign_7 : decode cX11_hasSign 7 = .ok (.iload_n 1, 1) := by decide +kernel
theorem dX11_hasSign_8 : decode cX11_hasSign 8 = .ok (.iadd, 1) := by decide +kernel
theorem dX11_hasSign_9 : decode cX11_hasSign 9 = .ok (.iaload, 1) := by decide +kernel
theorem dX11_hasSign_10 : decode cX11_hasSign 10 = .ok (.ifCond .le 15, 3) := by decide +kernel
theorem dX11_hasSign_13 : decode cX11_hasSign 13 = .ok (.aload_n 0, 1) := by decide +kernel
theorem dX11_hasSign_14 : decode cX11_hasSign 14 = .ok (.iload_n 1, 1) := by decide +kernel
theorem dX11_hasSign_15 : decode cX11_hasSign 15 = .ok (.invokevirtual 130, 3) := by decide +kernel
theorem dX11_hasSign_18 : decode cX11_hasSign 18 = .ok (.ifCond .eq 7, 3) := by decide +kernel
theorem dX11_hasSign_21 : decode cX11_hasSign 21 = .ok (.iconst 1, 1) := by decide +kernel
theorem dX11_hasSign_22 : decode cX11_hasSign 22 = .ok (.goto 4, 3) := by decide +kernel
theorem dX11_hasSign_25 : decode cX11_hasSign 25 = .ok (.iconst 0, 1) := by decide +kernel
theorem dX11_hasSign_26 : decode cX11_hasSign 26 = .ok (.ireturn, 1) := by decide +kernel
set_option maxRecDepth 20000 in
theorem ggX11_points_X11_hasRoom : GoodIn wsX11_points wsX11_hasRoom := goodIn_r _ [6, 7, 8, 9, 5, 10, 11, 12, 13, 14, 1, 15, 16, 17, 18, 19, 20, 21, 22, 23, 24, 25, 26, 27, 66, 67, 68, 69, 70, 71, 72, 73, 74, 75, 76, 77, 78, 79, 80, 81, 82] (by decide +kernel) (by decide +kernel)
set_option maxRecDepth 20000 in
theorem gX11_points_X11_hasRoom : GoodIn wsX11_points (wsV RX11 74 RX11 yX11_hasRoom wsX11_hasRoom) := goodIn_app (goodIn_of _ (by decide +kernel)) ggX11_points_X11_hasRoom
set_option maxRecDepth 20000 in
theorem ggX11_points_X11_hasSign : GoodIn wsX11_points wsX11_hasSign := goodIn_r _ [31, 1, 32, 33, 34, 5, 35, 18, 19, 20, 21, 11, 12, 13, 14, 22, 23, 24, 25, 26, 27, 36, 37, 38, 39, 40, 41, 42, 43, 44, 45, 46, 47, 2, 3, 4, 6, 7, 8, 9, 10, 15, 16, 17, 48, 49, 50, 51, 66, 67, 68, 69, 70, 71, 72, 73, 74, 75, 76, 77, 78, 79, 80, 81, 82] (by decide +kernel) (by decide +kernel)
set_option maxRecDepth 20000 in
theorem gX11_points_X11_hasSign : GoodIn wsX11_points (wsV RX11 160 RX11 yX11_hasSign wsX11_hasSign) := goodIn_app (goodIn_of _ (by decide +kernel)) ggX11_points_X11_hasSign
set_option maxRecDepth 20000 in
theorem ggX11_points_X11_lays : GoodIn wsX11_points wsX11_lays := goodIn_r _ [55, 56, 57, 7, 8, 9, 5, 10, 11, 12, 13, 14, 1, 40, 41, 42, 43, 44, 45, 46, 47, 2, 3, 4, 6, 15, 16, 17, 18, 19, 20, 21, 22, 23, 24, 25, 26, 27, 48, 49, 50, 51, 66, 67, 68, 69, 70, 71, 72, 73, 74, 75, 76, 77, 78, 79, 80, 81, 82] (by decide +kernel) (by decide +kernel)
set_option maxRecDepth 20000 in
theorem gX11_points_X11_lays : GoodIn wsX11_points (wsV RX11 147 RX11 yX11_lays wsX11_lays) := goodIn_app (goodIn_of _ (by decide +kernel)) ggX11_points_X11_lays
set_option maxRecDepth 20000 in
theorem ggX11_points_X11_pointed : GoodIn wsX11_points wsX11_pointed := goodIn_r _ [61, 1, 56, 40, 41, 42, 5, 43, 44, 45, 46, 47, 11, 12, 13, 14, 2, 3, 4, 6, 7, 8, 9, 10, 15, 16, 17, 18, 19, 20, 21, 22, 23, 24, 25, 26, 27, 48, 49, 50, 51, 62, 63, 64, 65, 66, 67, 68, 69, 70, 71, 72, 73, 74, 75, 76, 77, 78, 79, 80, 81, 82] (by decide +kernel) (by decide +kernel)
set_option maxRecDepth 20000 in
theorem gX11_points_X11_pointed : GoodIn wsX11_points (wsV RX11 163 RX11 yX11_pointed wsX11_pointed) := goodIn_app (goodIn_of _ (by decide +kernel)) ggX11_points_X11_pointed
theorem dX11_points_0 : decode cX11_points 0 = .ok (.aload_n 0, 1) := by decide +kernel
theorem dX11_points_1 : decode cX11_points 1 = .ok (.iload_n 1, 1) := by decide +kernel
theorem dX11_points_2 : decode cX11_points 2 = .ok (.invokevirtual 74, 3) := by decide +kernel
theorem dX11_points_5 : decode cX11_points 5 = .ok (.ifCond .ne 5, 3) := by decide +kernel
theorem dX11_points_8 : decode cX11_points 8 = .ok (.iconst (-1), 1) := by decide +kernel
theorem dX11_points_9 : decode cX11_points 9 = .ok (.ireturn, 1) := by decide +kernel
theorem dX11_points_10 : decode cX11_points 10 = .ok (.aload_n 0, 1) := by decide +kernel
theorem dX11_points_11 : decode cX11_points 11 = .ok (.iload_n 1, 1) := by decide +kernel
theorem dX11_points_12 : decode cX11_points 12 = .ok (.invokevirtual 160, 3) := by decide +kernel
theorem dX11_points_15 : decode cX11_points 15 = .ok (.ifCond .ne 6, 3) := by decide +kernel
theorem dX11_points_18 : decode cX11_points 18 = .ok (.bipush (-2), 2) := by decide +kernel
theorem dX11_points_20 : decode cX11_points 20 = .ok (.ireturn, 1) := by decide +kernel
theorem dX11_points_21 : decode cX11_points 21 = .ok (.aload_n 0, 1) := by decide +kernel
theorem dX11_points_22 : decode cX11_points 22 = .ok (.aload_n 0, 1) := by decide +kernel
theorem dX11_points_23 : decode cX11_points 23 = .ok (.getfield 7, 3) := by decide +kernel
theorem dX11_points_26 : decode cX11_points 26 = .ok (.bipush 8, 2) := by decide +kernel
theorem dX11_points_28 : decode cX11_points 28 = .ok (.iaload, 1) := by decide +kernel
theorem dX11_points_29 : decode cX11_points 29 = .ok (.invokevirtual 147, 3) := by decide +kernel
theorem dX11_points_32 : decode cX11_points 32 = .ok (.aload_n 0, 1) := by decide +kernel
theorem dX11_points_33 : decode cX11_points 33 = .ok (.iload_n 1, 1) := by decide +kernel
theorem dX11_points_34 : decode cX11_points 34 = .ok (.invokevirtual 163, 3) := by decide +kernel
theorem dX11_points_37 : decode cX11_points 37 = .ok (.istore_n 2, 1) := by decide +kernel
theorem dX11_points_38 : decode cX11_points 38 = .ok (.iload_n 2, 1) := by decide +kernel
theorem dX11_points_39 : decode cX11_points 39 = .ok (.ifCond .ge 8, 3) := by decide +kernel
theorem dX11_points_42 : decode cX11_points 42 = .ok (.bipush (-4), 2) := by decide +kernel
theorem dX11_points_44 : decode cX11_points 44 = .ok (.goto 4, 3) := by decide +kernel
theorem dX11_points_47 : decode cX11_points 47 = .ok (.iload_n 2, 1) := by decide +kernel
theorem dX11_points_48 : decode cX11_points 48 = .ok (.ireturn, 1) := by decide +kernel
set_option maxRecDepth 20000 in
theorem ggX11_goes_X11_hasSign : GoodIn wsX11_goes wsX11_hasSign := goodIn_r _ [7, 8, 9, 10, 11, 6, 12, 13, 14, 15, 16, 17, 18, 19, 20, 21, 22, 23, 24, 25, 26, 27, 28, 29, 30, 31, 32, 33, 34, 35, 36, 37, 38, 39, 40, 41, 42, 43, 44, 45, 46, 47, 48, 49, 50, 51, 52, 53, 63, 64, 65, 66, 67, 68, 69, 70, 71, 72, 73, 74, 75, 76, 77, 78, 79] (by decide +kernel) (by decide +kernel)
set_option maxRecDepth 20000 in
theorem gX11_goes_X11_hasSign : GoodIn wsX11_goes (wsV RX11 160 RX11 yX11_hasSign wsX11_hasSign) := goodIn_app (goodIn_of _ (by decide +kernel)) ggX11_goes_X11_hasSign
set_option maxRecDepth 20000 in
theorem ggX11_goes_X11_pointed : GoodIn wsX11_goes wsX11_pointed := goodIn_r _ [57, 8, 58, 31, 32, 33, 6, 34, 35, 36, 37, 38, 17, 18, 19, 20, 39, 40, 41, 42, 43, 44, 45, 46, 47, 48, 49, 13, 14, 15, 16, 21, 22, 23, 24, 25, 26, 50, 51, 52, 53, 59, 60, 61, 62, 63, 64, 65, 66, 67, 68, 69, 70, 71, 72, 73, 74, 75, 76, 77, 78, 79] (by decide +kernel) (by decide +kernel)
set_option maxRecDepth 20000 in
theorem gX11_goes_X11_pointed : GoodIn wsX11_goes (wsV RX11 163 RX11 yX11_pointed wsX11_pointed) := goodIn_app (goodIn_of _ (by decide +kernel)) ggX11_goes_X11_pointed
set_option maxRecDepth 20000 in
theorem ggX11_goes_X11_isOpen : GoodIn wsX11_goes wsX11_isOpen := goodIn_r _ [34, 8, 35, 36, 37, 6, 38, 17, 18, 19, 20, 39, 40, 41, 42, 43, 44, 45, 46, 47, 48, 49, 13, 14, 15, 16, 21, 22, 23, 24, 25, 26, 50, 51, 52, 53, 63, 64, 65, 66, 67, 68, 69, 70, 71, 72, 73, 74, 75, 76, 77, 78, 79] (by decide +kernel) (by decide +kernel)
set_option maxRecDepth 20000 in
theorem gX11_goes_X11_isOpen : GoodIn wsX11_goes (wsV RX11 87 RX11 yX11_isOpen wsX11_isOpen) := goodIn_app (goodIn_of _ (by decide +kernel)) ggX11_goes_X11_isOpen
theorem dX11_goes_0 : decode cX11_goes 0 = .ok (.aload_n 0, 1) := by decide +kernel
theorem dX11_goes_1 : decode cX11_goes 1 = .ok (.aload_n 0, 1) := by decide +kernel
theorem dX11_goes_2 : decode cX11_goes 2 = .ok (.getfield 166, 3) := by decide +kernel
theorem dX11_goes_5 : decode cX11_goes 5 = .ok (.invokevirtual 160, 3) := by decide +kernel
theorem dX11_goes_8 : decode cX11_goes 8 = .ok (.ifCond .eq 14, 3) := by decide +kernel
theorem dX11_goes_11 : decode cX11_goes 11 = .ok (.aload_n 0, 1) := by decide +kernel
theorem dX11_goes_12 : decode cX11_goes 12 = .ok (.aload_n 0, 1) := by decide +kernel
theorem dX11_goes_13 : decode cX11_goes 13 = .ok (.getfield 166, 3) := by decide +kernel
theorem dX11_goes_16 : decode cX11_goes 16 = .ok (.invokevirtual 163, 3) := by decide +kernel
theorem dX11_goes_19 : decode cX11_goes 19 = .ok (.goto 4, 3) := by decide +kernel
theorem dX11_goes_22 : decode cX11_goes 22 = .ok (.iconst (-1), 1) := by decide +kernel
theorem dX11_goes_23 : decode cX11_goes 23 = .ok (.istore_n 1, 1) := by decide +kernel
theorem dX11_goes_24 : decode cX11_goes 24 = .ok (.iconst 1, 1) := by decide +kernel
theorem dX11_goes_25 : decode cX11_goes 25 = .ok (.istore_n 2, 1) := by decide +kernel
theorem dX11_goes_26 : decode cX11_goes 26 = .ok (.iload_n 2, 1) := by decide +kernel
theorem dX11_goes_27 : decode cX11_goes 27 = .ok (.iconst 5, 1) := by decide +kernel
theorem dX11_goes_28 : decode cX11_goes 28 = .ok (.if_icmp .ge 45, 3) := by decide +kernel
theorem dX11_goes_31 : decode cX11_goes 31 = .ok (.iload_n 1, 1) := by decide +kernel
theorem dX11_goes_32 : decode cX11_goes 32 = .ok (.ifCond .ge 41, 3) := by decide +kernel
theorem dX11_goes_35 : decode cX11_goes 35 = .ok (.aload_n 0, 1) := by decide +kernel
theorem dX11_goes_36 : decode cX11_goes 36 = .ok (.aload_n 0, 1) := by decide +kernel
theorem dX11_goes_37 : decode cX11_goes 37 = .ok (.getfield 166, 3) := by decide +kernel
theorem dX11_goes_40 : decode cX11_goes 40 = .ok (.aload_n 0, 1) := by decide +kernel
theorem dX11_goes_41 : decode cX11_goes 41 = .ok (.getfield 169, 3) := by decide +kernel
theorem dX11_goes_44 : decode cX11_goes 44 = .ok (.iload_n 2, 1) := by decide +kernel
theorem dX11_goes_45 : decode cX11_goes 45 = .ok (.iadd, 1) := by decide +kernel
theorem dX11_goes_46 : decode cX11_goes 46 = .ok (.iconst 4, 1) := by decide +kernel
theorem dX11_goes_47 : decode cX11_goes 47 = .ok (.irem, 1) := by decide +kernel
theorem dX11_goes_48 : decode cX11_goes 48 = .ok (.invokevirtual 87, 3) := by decide +kernel
theorem dX11_goes_51 : decode cX11_goes 51 = .ok (.ifCond .eq 14, 3) := by decide +kernel
theorem dX11_goes_54 : decode cX11_goes 54 = .ok (.aload_n 0, 1) := by decide +kernel
theorem dX11_goes_55 : decode cX11_goes 55 = .ok (.getfield 169, 3) := by decide +kernel
theorem dX11_goes_58 : decode cX11_goes 58 = .ok (.iload_n 2, 1) := by decide +kernel
theorem dX11_goes_59 : decode cX11_goes 59 = .ok (.iadd, 1) := by decide +kernel
theorem dX11_goes_60 : decode cX11_goes 60 = .ok (.iconst 4, 1) := by decide +kernel
theorem dX11_goes_61 : decode cX11_goes 61 = .ok (.irem, 1) := by decide +kernel
theorem dX11_goes_62 : decode cX11_goes 62 = .ok (.goto 4, 3) := by decide +kernel
theorem dX11_goes_65 : decode cX11_goes 65 = .ok (.iconst (-1), 1) := by decide +kernel
theorem dX11_goes_66 : decode cX11_goes 66 = .ok (.istore_n 1, 1) := by decide +kernel
theorem dX11_goes_67 : decode cX11_goes 67 = .ok (.iinc 2 1, 3) := by decide +kernel
theorem dX11_goes_70 : decode cX11_goes 70 = .ok (.goto (-44), 3) := by decide +kernel
theorem dX11_goes_73 : decode cX11_goes 73 = .ok (.iload_n 1, 1) := by decide +kernel
theorem dX11_goes_74 : decode cX11_goes 74 = .ok (.ireturn, 1) := by decide +kernel
set_option maxRecDepth 20000 in
theorem ggX11_walks_X11_lays : GoodIn wsX11_walks wsX11_lays := goodIn_r _ [10, 11, 12, 13, 14, 15, 9, 16, 17, 18, 19, 20, 1, 21, 22, 23, 24, 25, 26, 27, 28, 29, 30, 31, 32, 33, 34, 35, 36, 37, 38, 39, 40, 41, 42, 43, 44, 45, 46, 47, 48, 49, 74, 75, 76, 77, 78, 79, 80, 81, 82, 83, 84, 85, 86, 87, 88, 89, 90] (by decide +kernel) (by decide +kernel)
set_option maxRecDepth 20000 in
theorem gX11_walks_X11_lays : GoodIn wsX11_walks (wsV RX11 147 RX11 yX11_lays wsX11_lays) := goodIn_app (goodIn_of _ (by decide +kernel)) ggX11_walks_X11_lays
set_option maxRecDepth 20000 in
theorem ggX11_walks_X11_goes : GoodIn wsX11_walks wsX11_goes := goodIn_r _ [53, 3, 4, 54, 55, 56, 9, 57, 1, 58, 59, 60, 61, 36, 37, 38, 39, 17, 18, 19, 20, 40, 41, 42, 43, 44, 45, 62, 63, 64, 65, 21, 22, 23, 24, 25, 26, 27, 28, 29, 30, 31, 32, 13, 14, 15, 16, 33, 34, 35, 46, 47, 48, 49, 66, 67, 68, 69, 11, 70, 71, 72, 73, 74, 75, 76, 77, 78, 79, 80, 81, 82, 83, 84, 85, 86, 87, 88, 89, 90] (by decide +kernel) (by decide +kernel)
set_option maxRecDepth 20000 in
theorem gX11_walks_X11_goes : GoodIn wsX11_walks (wsV RX11 175 RX11 yX11_goes wsX11_goes) := goodIn_app (goodIn_of _ (by decide +kernel)) ggX11_walks_X11_goes
set_option maxRecDepth 20000 in
theorem ggX11_walks_X11_beside : GoodIn wsX11_walks wsX11_beside := goodIn_r _ [28, 17, 18, 19, 9, 20, 1, 29, 30, 31, 32, 13, 14, 15, 16, 33, 34, 35, 36, 37, 38, 39, 40, 41, 42, 43, 44, 45, 74, 75, 76, 77, 78, 79, 80, 81, 82, 83, 84, 85, 86, 87, 88, 89, 90] (by decide +kernel) (by decide +kernel)
set_option maxRecDepth 20000 in
theorem gX11_walks_X11_beside : GoodIn wsX11_walks (wsV RX11 80 RX11 yX11_beside wsX11_beside) := goodIn_app (goodIn_of _ (by decide +kernel)) ggX11_walks_X11_beside
theorem dX11_walks_0 : decode cX11_walks 0 = .ok (.aload_n 0, 1) := by decide +kernel
theorem dX11_walks_1 : decode cX11_walks 1 = .ok (.aload_n 0, 1) := by decide +kernel
theorem dX11_walks_2 : decode cX11_walks 2 = .ok (.getfield 7, 3) := by decide +kernel
theorem dX11_walks_5 : decode cX11_walks 5 = .ok (.bipush 8, 2) := by decide +kernel
theorem dX11_walks_7 : decode cX11_walks 7 = .ok (.iaload, 1) := by decide +kernel
theorem dX11_walks_8 : decode cX11_walks 8 = .ok (.invokevirtual 147, 3) := by decide +kernel
theorem dX11_walks_11 : decode cX11_walks 11 = .ok (.iconst 0, 1) := by decide +kernel
theorem dX11_walks_12 : decode cX11_walks 12 = .ok (.istore_n 2, 1) := by decide +kernel
theorem dX11_walks_13 : decode cX11_walks 13 = .ok (.iload_n 2, 1) := by decide +kernel
theorem dX11_walks_14 : decode cX11_walks 14 = .ok (.sipush 210, 3) := by decide +kernel
theorem dX11_walks_17 : decode cX11_walks 17 = .ok (.if_icmp .ge 16, 3) := by decide +kernel
theorem dX11_walks_20 : decode cX11_walks 20 = .ok (.aload_n 0, 1) := by decide +kernel
theorem dX11_walks_21 : decode cX11_walks 21 = .ok (.getfield 31, 3) := by decide +kernel
theorem dX11_walks_24 : decode cX11_walks 24 = .ok (.iload_n 2, 1) := by decide +kernel
theorem dX11_walks_25 : decode cX11_walks 25 = .ok (.iconst 0, 1) := by decide +kernel
theorem dX11_walks_26 : decode cX11_walks 26 = .ok (.bastore, 1) := by decide +kernel
theorem dX11_walks_27 : decode cX11_walks 27 = .ok (.iinc 2 1, 3) := by decide +kernel
theorem dX11_walks_30 : decode cX11_walks 30 = .ok (.goto (-17), 3) := by decide +kernel
theorem dX11_walks_33 : decode cX11_walks 33 = .ok (.aload_n 0, 1) := by decide +kernel
theorem dX11_walks_34 : decode cX11_walks 34 = .ok (.aload_n 0, 1) := by decide +kernel
theorem dX11_walks_35 : decode cX11_walks 35 = .ok (.getfield 7, 3) := by decide +kernel
theorem dX11_walks_38 : decode cX11_walks 38 = .ok (.bipush 7, 2) := by decide +kernel
theorem dX11_walks_40 : decode cX11_walks 40 = .ok (.iaload, 1) := by decide +kernel
theorem dX11_walks_41 : decode cX11_walks 41 = .ok (.putfield 166, 3) := by decide +kernel
theorem dX11_walks_44 : decode cX11_walks 44 = .ok (.aload_n 0, 1) := by decide +kernel
theorem dX11_walks_45 : decode cX11_walks 45 = .ok (.iconst 2, 1) := by decide +kernel
theorem dX11_walks_46 : decode cX11_walks 46 = .ok (.putfield 169, 3) := by decide +kernel
theorem dX11_walks_49 : decode cX11_walks 49 = .ok (.aload_n 0, 1) := by decide +kernel
theorem dX11_walks_50 : decode cX11_walks 50 = .ok (.iconst 0, 1) := by decide +kernel
theorem dX11_walks_51 : decode cX11_walks 51 = .ok (.putfield 172, 3) := by decide +kernel
theorem dX11_walks_54 : decode cX11_walks 54 = .ok (.aload_n 0, 1) := by decide +kernel
theorem dX11_walks_55 : decode cX11_walks 55 = .ok (.getfield 31, 3) := by decide +kernel
theorem dX11_walks_58 : decode cX11_walks 58 = .ok (.aload_n 0, 1) := by decide +kernel
theorem dX11_walks_59 : decode cX11_walks 59 = .ok (.getfield 166, 3) := by decide +kernel
theorem dX11_walks_62 : decode cX11_walks 62 = .ok (.iconst 1, 1) := by decide +kernel
theorem dX11_walks_63 : decode cX11_walks 63 = .ok (.bastore, 1) := by decide +kernel
theorem dX11_walks_64 : decode cX11_walks 64 = .ok (.iconst 1, 1) := by decide +kernel
theorem dX11_walks_65 : decode cX11_walks 65 = .ok (.istore_n 2, 1) := by decide +kernel
theorem dX11_walks_66 : decode cX11_walks 66 = .ok (.aload_n 0, 1) := by decide +kernel
theorem dX11_walks_67 : decode cX11_walks 67 = .ok (.getfield 172, 3) := by decide +kernel
theorem dX11_walks_70 : decode cX11_walks 70 = .ok (.iload_n 1, 1) := by decide +kernel
theorem dX11_walks_71 : decode cX11_walks 71 = .ok (.if_icmp .ge 85, 3) := by decide +kernel
theorem dX11_walks_74 : decode cX11_walks 74 = .ok (.aload_n 0, 1) := by decide +kernel
theorem dX11_walks_75 : decode cX11_walks 75 = .ok (.getfield 166, 3) := by decide +kernel
theorem dX11_walks_78 : decode cX11_walks 78 = .ok (.aload_n 0, 1) := by decide +kernel
theorem dX11_walks_79 : decode cX11_walks 79 = .ok (.getfield 7, 3) := by decide +kernel
theorem dX11_walks_82 : decode cX11_walks 82 = .ok (.bipush 8, 2) := by decide +kernel
theorem dX11_walks_84 : decode cX11_walks 84 = .ok (.iaload, 1) := by decide +kernel
theorem dX11_walks_85 : decode cX11_walks 85 = .ok (.if_icmp .eq 71, 3) := by decide +kernel
theorem dX11_walks_88 : decode cX11_walks 88 = .ok (.iload_n 2, 1) := by decide +kernel
theorem dX11_walks_89 : decode cX11_walks 89 = .ok (.ifCond .eq 67, 3) := by decide +kernel
theorem dX11_walks_92 : decode cX11_walks 92 = .ok (.aload_n 0, 1) := by decide +kernel
theorem dX11_walks_93 : decode cX11_walks 93 = .ok (.invokevirtual 175, 3) := by decide +kernel
theorem dX11_walks_96 : decode cX11_walks 96 = .ok (.istore_n 3, 1) := by decide +kernel
theorem dX11_walks_97 : decode cX11_walks 97 = .ok (.iload_n 3, 1) := by decide +kernel
theorem dX11_walks_98 : decode cX11_walks 98 = .ok (.ifCond .lt 7, 3) := by decide +kernel
theorem dX11_walks_101 : decode cX11_walks 101 = .ok (.iconst 1, 1) := by decide +kernel
theorem dX11_walks_102 : decode cX11_walks 102 = .ok (.goto 4, 3) := by decide +kernel
theorem dX11_walks_105 : decode cX11_walks 105 = .ok (.iconst 0, 1) := by decide +kernel
theorem dX11_walks_106 : decode cX11_walks 106 = .ok (.istore_n 2, 1) := by decide +kernel
theorem dX11_walks_107 : decode cX11_walks 107 = .ok (.iload_n 2, 1) := by decide +kernel
theorem dX11_walks_108 : decode cX11_walks 108 = .ok (.ifCond .eq 45, 3) := by decide +kernel
theorem dX11_walks_111 : decode cX11_walks 111 = .ok (.aload_n 0, 1) := by decide +kernel
theorem dX11_walks_112 : decode cX11_walks 112 = .ok (.aload_n 0, 1) := by decide +kernel
theorem dX11_walks_113 : decode cX11_walks 113 = .ok (.aload_n 0, 1) := by decide +kernel
theorem dX11_walks_114 : decode cX11_walks 114 = .ok (.getfield 166, 3) := by decide +kernel
theorem dX11_walks_117 : decode cX11_walks 117 = .ok (.iload_n 3, 1) := by decide +kernel
theorem dX11_walks_118 : decode cX11_walks 118 = .ok (.invokevirtual 80, 3) := by decide +kernel
theorem dX11_walks_121 : decode cX11_walks 121 = .ok (.putfield 166, 3) := by decide +kernel
theorem dX11_walks_124 : decode cX11_walks 124 = .ok (.aload_n 0, 1) := by decide +kernel
theorem dX11_walks_125 : decode cX11_walks 125 = .ok (.iload_n 3, 1) := by decide +kernel
theorem dX11_walks_126 : decode cX11_walks 126 = .ok (.iconst 2, 1) := by decide +kernel
theorem dX11_walks_127 : decode cX11_walks 127 = .ok (.iadd, 1) := by decide +kernel
theorem dX11_walks_128 : decode cX11_walks 128 = .ok (.iconst 4, 1) := by decide +kernel
theorem dX11_walks_129 : decode cX11_walks 129 = .ok (.irem, 1) := by decide +kernel
theorem dX11_walks_130 : decode cX11_walks 130 = .ok (.putfield 169, 3) := by decide +kernel
theorem dX11_walks_133 : decode cX11_walks 133 = .ok (.aload_n 0, 1) := by decide +kernel
theorem dX11_walks_134 : decode cX11_walks 134 = .ok (.getfield 31, 3) := by decide +kernel
theorem dX11_walks_137 : decode cX11_walks 137 = .ok (.aload_n 0, 1) := by decide +kernel
theorem dX11_walks_138 : decode cX11_walks 138 = .ok (.getfield 166, 3) := by decide +kernel
theorem dX11_walks_141 : decode cX11_walks 141 = .ok (.iconst 1, 1) := by decide +kernel
theorem dX11_walks_142 : decode cX11_walks 142 = .ok (.bastore, 1) := by decide +kernel
theorem dX11_walks_143 : decode cX11_walks 143 = .ok (.aload_n 0, 1) := by decide +kernel
theorem dX11_walks_144 : decode cX11_walks 144 = .ok (.dup, 1) := by decide +kernel
theorem dX11_walks_145 : decode cX11_walks 145 = .ok (.getfield 172, 3) := by decide +kernel
theorem dX11_walks_148 : decode cX11_walks 148 = .ok (.iconst 1, 1) := by decide +kernel
theorem dX11_walks_149 : decode cX11_walks 149 = .ok (.iadd, 1) := by decide +kernel
theorem dX11_walks_150 : decode cX11_walks 150 = .ok (.putfield 172, 3) := by decide +kernel
theorem dX11_walks_153 : decode cX11_walks 153 = .ok (.goto (-87), 3) := by decide +kernel
theorem dX11_walks_156 : decode cX11_walks 156 = .ok (.return_, 1) := by decide +kernel
set_option maxRecDepth 20000 in
theorem ggX11_walk_X11_in : GoodIn wsX11_walk wsX11_in := goodIn_r _ [7] (by decide +kernel) (by decide +kernel)
set_option maxRecDepth 20000 in
theorem gX11_walk_X11_in : GoodIn wsX11_walk (va_wsS RX11 57 yX11_in wsX11_in) := goodIn_app (goodIn_of _ (by decide +kernel)) ggX11_walk_X11_in
set_option maxRecDepth 20000 in
theorem ggX11_walk_X11_walks : GoodIn wsX11_walk wsX11_walks := goodIn_r _ [11, 12, 1, 2, 13, 3, 14, 15, 16, 6, 17, 18, 19, 20, 21, 22, 23, 24, 25, 26, 27, 28, 29, 30, 31, 32, 33, 34, 35, 36, 37, 38, 39, 4, 5, 7, 40, 41, 42, 43, 44, 45, 46, 47, 48, 49, 50, 51, 52, 53, 54, 55, 56, 57, 58, 59, 60, 61, 62, 63, 64, 65, 66, 67, 68, 69, 70, 71, 72, 73, 74, 75, 76, 77, 78, 79, 80, 81, 82, 83, 84, 85, 86, 87, 88, 89, 90, 91, 92, 93, 94] (by decide +kernel) (by decide +kernel)
set_option maxRecDepth 20000 in
theorem gX11_walk_X11_walks : GoodIn wsX11_walk (wsV RX11 178 RX11 yX11_walks wsX11_walks) := goodIn_app (goodIn_of _ (by decide +kernel)) ggX11_walk_X11_walks
theorem dX11_walk_0 : decode cX11_walk 0 = .ok (.iload_n 1, 1) := by decide +kernel
theorem dX11_walk_1 : decode cX11_walk 1 = .ok (.iconst 0, 1) := by decide +kernel
theorem dX11_walk_2 : decode cX11_walk 2 = .ok (.sipush 2000, 3) := by decide +kernel
theorem dX11_walk_5 : decode cX11_walk 5 = .ok (.invokestatic 57, 3) := by decide +kernel
theorem dX11_walk_8 : decode cX11_walk 8 = .ok (.ifCond .eq 12, 3) := by decide +kernel
theorem dX11_walk_11 : decode cX11_walk 11 = .ok (.iload_n 2, 1) := by decide +kernel
theorem dX11_walk_12 : decode cX11_walk 12 = .ok (.iconst 0, 1) := by decide +kernel
theorem dX11_walk_13 : decode cX11_walk 13 = .ok (.iconst 2, 1) := by decide +kernel
theorem dX11_walk_14 : decode cX11_walk 14 = .ok (.invokestatic 57, 3) := by decide +kernel
theorem dX11_walk_17 : decode cX11_walk 17 = .ok (.ifCond .ne 5, 3) := by decide +kernel
theorem dX11_walk_20 : decode cX11_walk 20 = .ok (.iconst (-1), 1) := by decide +kernel
theorem dX11_walk_21 : decode cX11_walk 21 = .ok (.ireturn, 1) := by decide +kernel
theorem dX11_walk_22 : decode cX11_walk 22 = .ok (.aload_n 0, 1) := by decide +kernel
theorem dX11_walk_23 : decode cX11_walk 23 = .ok (.iload_n 1, 1) := by decide +kernel
theorem dX11_walk_24 : decode cX11_walk 24 = .ok (.invokevirtual 178, 3) := by decide +kernel
theorem dX11_walk_27 : decode cX11_walk 27 = .ok (.iconst 0, 1) := by decide +kernel
theorem dX11_walk_28 : decode cX11_walk 28 = .ok (.istore_n 3, 1) := by decide +kernel
theorem dX11_walk_29 : decode cX11_walk 29 = .ok (.iconst 0, 1) := by decide +kernel
theorem dX11_walk_30 : decode cX11_walk 30 = .ok (.istore 4, 2) := by decide +kernel
theorem dX11_walk_32 : decode cX11_walk 32 = .ok (.iload 4, 2) := by decide +kernel
theorem dX11_walk_34 : decode cX11_walk 34 = .ok (.sipush 210, 3) := by decide +kernel
theorem dX11_walk_37 : decode cX11_walk 37 = .ok (.if_icmp .ge 27, 3) := by decide +kernel
theorem dX11_walk_40 : decode cX11_walk 40 = .ok (.iload_n 3, 1) := by decide +kernel
theorem dX11_walk_41 : decode cX11_walk 41 = .ok (.aload_n 0, 1) := by decide +kernel
theorem dX11_walk_42 : decode cX11_walk 42 = .ok (.getfield 31, 3) := by decide +kernel
theorem dX11_walk_45 : decode cX11_walk 45 = .ok (.iload 4, 2) := by decide +kernel
theorem dX11_walk_47 : decode cX11_walk 47 = .ok (.baload, 1) := by decide +kernel
theorem dX11_walk_48 : decode cX11_walk 48 = .ok (.ifCond .eq 7, 3) := by decide +kernel
theorem dX11_walk_51 : decode cX11_walk 51 = .ok (.iconst 1, 1) := by decide +kernel
theorem dX11_walk_52 : decode cX11_walk 52 = .ok (.goto 4, 3) := by decide +kernel
theorem dX11_walk_55 : decode cX11_walk 55 = .ok (.iconst 0, 1) := by decide +kernel
theorem dX11_walk_56 : decode cX11_walk 56 = .ok (.iadd, 1) := by decide +kernel
theorem dX11_walk_57 : decode cX11_walk 57 = .ok (.istore_n 3, 1) := by decide +kernel
theorem dX11_walk_58 : decode cX11_walk 58 = .ok (.iinc 4 1, 3) := by decide +kernel
theorem dX11_walk_61 : decode cX11_walk 61 = .ok (.goto (-29), 3) := by decide +kernel
theorem dX11_walk_64 : decode cX11_walk 64 = .ok (.iload_n 2, 1) := by decide +kernel
theorem dX11_walk_65 : decode cX11_walk 65 = .ok (.ifCond .ne 10, 3) := by decide +kernel
theorem dX11_walk_68 : decode cX11_walk 68 = .ok (.aload_n 0, 1) := by decide +kernel
theorem dX11_walk_69 : decode cX11_walk 69 = .ok (.getfield 166, 3) := by decide +kernel
theorem dX11_walk_72 : decode cX11_walk 72 = .ok (.goto 16, 3) := by decide +kernel
theorem dX11_walk_75 : decode cX11_walk 75 = .ok (.iload_n 2, 1) := by decide +kernel
theorem dX11_walk_76 : decode cX11_walk 76 = .ok (.iconst 1, 1) := by decide +kernel
theorem dX11_walk_77 : decode cX11_walk 77 = .ok (.if_icmp .ne 10, 3) := by decide +kernel
theorem dX11_walk_80 : decode cX11_walk 80 = .ok (.aload_n 0, 1) := by decide +kernel
theorem dX11_walk_81 : decode cX11_walk 81 = .ok (.getfield 172, 3) := by decide +kernel
theorem dX11_walk_84 : decode cX11_walk 84 = .ok (.goto 4, 3) := by decide +kernel
theorem dX11_walk_87 : decode cX11_walk 87 = .ok (.iload_n 3, 1) := by decide +kernel
theorem dX11_walk_88 : decode cX11_walk 88 = .ok (.ireturn, 1) := by decide +kernel
set_option maxRecDepth 20000 in
theorem ggX11_walked_X11_walks : GoodIn wsX11_walked wsX11_walks := goodIn_r _ [8, 2, 9, 1, 10, 3, 11, 12, 13, 7, 14, 15, 16, 17, 18, 19, 20, 21, 22, 23, 24, 25, 26, 27, 28, 29, 30, 31, 32, 33, 34, 35, 36, 37, 38, 39, 40, 41, 42, 43, 44, 45, 46, 47, 48, 49, 50, 51, 52, 53, 54, 55, 56, 57, 58, 59, 60, 61, 62, 63, 64, 65, 66, 67, 68, 69, 70, 71, 72, 73, 74, 75, 76, 77, 78, 79, 80, 81, 82, 83, 84, 85, 86, 87, 88, 89, 90, 91, 92, 93, 94] (by decide +kernel) (by decide +kernel)
set_option maxRecDepth 20000 in
theorem gX11_walked_X11_walks : GoodIn wsX11_walked (wsV RX11 178 RX11 yX11_walks wsX11_walks) := goodIn_app (goodIn_of _ (by decide +kernel)) ggX11_walked_X11_walks
theorem dX11_walked_0 : decode cX11_walked 0 = .ok (.aload_n 0, 1) := by decide +kernel
theorem dX11_walked_1 : decode cX11_walked 1 = .ok (.sipush 2000, 3) := by decide +kernel
theorem dX11_walked_4 : decode cX11_walked 4 = .ok (.invokevirtual 178, 3) := by decide +kernel
theorem dX11_walked_7 : decode cX11_walked 7 = .ok (.aload_n 0, 1) := by decide +kernel
theorem dX11_walked_8 : decode cX11_walked 8 = .ok (.getfield 166, 3) := by decide +kernel
theorem dX11_walked_11 : decode cX11_walked 11 = .ok (.aload_n 0, 1) := by decide +kernel
theorem dX11_walked_12 : decode cX11_walked 12 = .ok (.getfield 7, 3) := by decide +kernel
theorem dX11_walked_15 : decode cX11_walked 15 = .ok (.bipush 8, 2) := by decide +kernel
theorem dX11_walked_17 : decode cX11_walked 17 = .ok (.iaload, 1) := by decide +kernel
theorem dX11_walked_18 : decode cX11_walked 18 = .ok (.if_icmp .ne 10, 3) := by decide +kernel
theorem dX11_walked_21 : decode cX11_walked 21 = .ok (.aload_n 0, 1) := by decide +kernel
theorem dX11_walked_22 : decode cX11_walked 22 = .ok (.getfield 172, 3) := by decide +kernel
theorem dX11_walked_25 : decode cX11_walked 25 = .ok (.goto 5, 3) := by decide +kernel
theorem dX11_walked_28 : decode cX11_walked 28 = .ok (.bipush (-4), 2) := by decide +kernel
theorem dX11_walked_30 : decode cX11_walked 30 = .ok (.ireturn, 1) := by decide +kernel
set_option maxRecDepth 20000 in
theorem ggX11_type_X11_in : GoodIn wsX11_type wsX11_in := goodIn_r _ [6] (by decide +kernel) (by decide +kernel)
set_option maxRecDepth 20000 in
theorem gX11_type_X11_in : GoodIn wsX11_type (va_wsS RX11 57 yX11_in wsX11_in) := goodIn_app (goodIn_of _ (by decide +kernel)) ggX11_type_X11_in
theorem dX11_type_0 : decode cX11_type 0 = .ok (.iload_n 1, 1) := by decide +kernel
theorem dX11_type_1 : decode cX11_type 1 = .ok (.bipush 32, 2) := by decide +kernel
theorem dX11_type_3 : decode cX11_type 3 = .ok (.bipush 126, 2) := by decide +kernel
theorem dX11_type_5 : decode cX11_type 5 = .ok (.invokestatic 57, 3) := by decide +kernel
theorem dX11_type_8 : decode cX11_type 8 = .ok (.ifCond .ne 5, 3) := by decide +kernel
theorem dX11_type_11 : decode cX11_type 11 = .ok (.iconst (-1), 1) := by decide +kernel
theorem dX11_type_12 : decode cX11_type 12 = .ok (.ireturn, 1) := by decide +kernel
theorem dX11_type_13 : decode cX11_type 13 = .ok (.aload_n 0, 1) := by decide +kernel
theorem dX11_type_14 : decode cX11_type 14 = .ok (.getfield 65, 3) := by decide +kernel
theorem dX11_type_17 : decode cX11_type 17 = .ok (.sipush 200, 3) := by decide +kernel
theorem dX11_type_20 : decode cX11_type 20 = .ok (.if_icmp .ne 6, 3) := by decide +kernel
theorem dX11_type_23 : decode cX11_type 23 = .ok (.bipush (-3), 2) := by decide +kernel
theorem dX11_type_25 : decode cX11_type 25 = .ok (.ireturn, 1) := by decide +kernel
theorem dX11_type_26 : decode cX11_type 26 = .ok (.aload_n 0, 1) := by decide +kernel
theorem dX11_type_27 : decode cX11_type 27 = .ok (.getfield 16, 3) := by decide +kernel
theorem dX11_type_30 : decode cX11_type 30 = .ok (.aload_n 0, 1) := by decide +kernel
theorem dX11_type_31 : decode cX11_type 31 = .ok (.getfield 65, 3) := by decide +kernel
theorem dX11_type_34 : decode cX11_type 34 = .ok (.iload_n 1, 1) := by decide +kernel
theorem dX11_type_35 : decode cX11_type 35 = .ok (.iastore, 1) := by decide +kernel
theorem dX11_type_36 : decode cX11_type 36 = .ok (.aload_n 0, 1) := by decide +kernel
theorem dX11_type_37 : decode cX11_type 37 = .ok (.dup, 1) := by decide +kernel
theorem dX11_type_38 : decode cX11_type 38 = .ok (.getfield 65, 3) := by decide +kernel
theorem dX11_type_41 : decode cX11_type 41 = .ok (.iconst 1, 1) := by decide +kernel
theorem dX11_type_42 : decode cX11_type 42 = .ok (.iadd, 1) := by decide +kernel
theorem dX11_type_43 : decode cX11_type 43 = .ok (.putfield 65, 3) := by decide +kernel
theorem dX11_type_46 : decode cX11_type 46 = .ok (.aload_n 0, 1) := by decide +kernel
theorem dX11_type_47 : decode cX11_type 47 = .ok (.getfield 65, 3) := by decide +kernel
theorem dX11_type_50 : decode cX11_type 50 = .ok (.ireturn, 1) := by decide +kernel
theorem dX11_clearText_0 : decode cX11_clearText 0 = .ok (.aload_n 0, 1) := by decide +kernel
theorem dX11_clearText_1 : decode cX11_clearText 1 = .ok (.getfield 65, 3) := by decide +kernel
theorem dX11_clearText_4 : decode cX11_clearText 4 = .ok (.istore_n 1, 1) := by decide +kernel
theorem dX11_clearText_5 : decode cX11_clearText 5 = .ok (.aload_n 0, 1) := by decide +kernel
theorem dX11_clearText_6 : decode cX11_clearText 6 = .ok (.iconst 0, 1) := by decide +kernel
theorem dX11_clearText_7 : decode cX11_clearText 7 = .ok (.putfield 65, 3) := by decide +kernel
theorem dX11_clearText_10 : decode cX11_clearText 10 = .ok (.iload_n 1, 1) := by decide +kernel
theorem dX11_clearText_11 : decode cX11_clearText 11 = .ok (.ireturn, 1) := by decide +kernel
theorem dX11_directionOf_0 : decode cX11_directionOf 0 = .ok (.iload_n 0, 1) := by decide +kernel
theorem dX11_directionOf_1 : decode cX11_directionOf 1 = .ok (.bipush 85, 2) := by decide +kernel
theorem dX11_directionOf_3 : decode cX11_directionOf 3 = .ok (.if_icmp .ne 7, 3) := by decide +kernel
theorem dX11_directionOf_6 : decode cX11_directionOf 6 = .ok (.iconst 0, 1) := by decide +kernel
theorem dX11_directionOf_7 : decode cX11_directionOf 7 = .ok (.goto 34, 3) := by decide +kernel
theorem dX11_directionOf_10 : decode cX11_directionOf 10 = .ok (.iload_n 0, 1) := by decide +kernel
theorem dX11_directionOf_11 : decode cX11_directionOf 11 = .ok (.bipush 82, 2) := by decide +kernel
theorem dX11_directionOf_13 : decode cX11_directionOf 13 = .ok (.if_icmp .ne 7, 3) := by decide +kernel
theorem dX11_directionOf_16 : decode cX11_directionOf 16 = .ok (.iconst 1, 1) := by decide +kernel
theorem dX11_directionOf_17 : decode cX11_directionOf 17 = .ok (.goto 24, 3) := by decide +kernel
theorem dX11_directionOf_20 : decode cX11_directionOf 20 = .ok (.iload_n 0, 1) := by decide +kernel
theorem dX11_directionOf_21 : decode cX11_directionOf 21 = .ok (.bipush 68, 2) := by decide +kernel
theorem dX11_directionOf_23 : decode cX11_directionOf 23 = .ok (.if_icmp .ne 7, 3) := by decide +kernel
theorem dX11_directionOf_26 : decode cX11_directionOf 26 = .ok (.iconst 2, 1) := by decide +kernel
theorem dX11_directionOf_27 : decode cX11_directionOf 27 = .ok (.goto 14, 3) := by decide +kernel
theorem dX11_directionOf_30 : decode cX11_directionOf 30 = .ok (.iload_n 0, 1) := by decide +kernel
theorem dX11_directionOf_31 : decode cX11_directionOf 31 = .ok (.bipush 76, 2) := by decide +kernel
theorem dX11_directionOf_33 : decode cX11_directionOf 33 = .ok (.if_icmp .ne 7, 3) := by decide +kernel
theorem dX11_directionOf_36 : decode cX11_directionOf 36 = .ok (.iconst 3, 1) := by decide +kernel
theorem dX11_directionOf_37 : decode cX11_directionOf 37 = .ok (.goto 4, 3) := by decide +kernel
theorem dX11_directionOf_40 : decode cX11_directionOf 40 = .ok (.iconst (-1), 1) := by decide +kernel
theorem dX11_directionOf_41 : decode cX11_directionOf 41 = .ok (.ireturn, 1) := by decide +kernel
set_option maxRecDepth 20000 in
theorem ggX11_moves_X11_directionOf : GoodIn wsX11_moves wsX11_directionOf := goodIn_r _ [9] (by decide +kernel) (by decide +kernel)
set_option maxRecDepth 20000 in
theorem gX11_moves_X11_directionOf : GoodIn wsX11_moves (va_wsS RX11 184 yX11_directionOf wsX11_directionOf) := goodIn_app (goodIn_of _ (by decide +kernel)) ggX11_moves_X11_directionOf
set_option maxRecDepth 20000 in
theorem ggX11_moves_X11_beside : GoodIn wsX11_moves wsX11_beside := goodIn_r _ [13, 14, 15, 16, 8, 17, 1, 18, 19, 20, 21, 22, 23, 24, 25, 26, 27, 28, 29, 30, 31, 32, 33, 34, 35, 36, 37, 38, 47, 48, 49, 50, 51, 52, 53, 54, 55, 56, 57, 58, 59, 60, 61, 62, 63] (by decide +kernel) (by decide +kernel)
set_option maxRecDepth 20000 in
theorem gX11_moves_X11_beside : GoodIn wsX11_moves (wsV RX11 80 RX11 yX11_beside wsX11_beside) := goodIn_app (goodIn_of _ (by decide +kernel)) ggX11_moves_X11_beside
set_option maxRecDepth 20000 in
theorem ggX11_moves_X11_isOpen : GoodIn wsX11_moves wsX11_isOpen := goodIn_r _ [42, 1, 10, 11, 12, 8, 13, 14, 15, 16, 17, 18, 19, 20, 21, 22, 23, 24, 25, 26, 27, 28, 29, 30, 31, 32, 33, 34, 35, 36, 37, 38, 43, 44, 45, 46, 47, 48, 49, 50, 51, 52, 53, 54, 55, 56, 57, 58, 59, 60, 61, 62, 63] (by decide +kernel) (by decide +kernel)
set_option maxRecDepth 20000 in
theorem gX11_moves_X11_isOpen : GoodIn wsX11_moves (wsV RX11 87 RX11 yX11_isOpen wsX11_isOpen) := goodIn_app (goodIn_of _ (by decide +kernel)) ggX11_moves_X11_isOpen
theorem dX11_moves_0 : decode cX11_moves 0 = .ok (.aload_n 0, 1) := by decide +kernel
theorem dX11_moves_1 : decode cX11_moves 1 = .ok (.aload_n 0, 1) := by decide +kernel
theorem dX11_moves_2 : decode cX11_moves 2 = .ok (.getfield 7, 3) := by decide +kernel
theorem dX11_moves_5 : decode cX11_moves 5 = .ok (.bipush 7, 2) := by decide +kernel
theorem dX11_moves_7 : decode cX11_moves 7 = .ok (.iaload, 1) := by decide +kernel
theorem dX11_moves_8 : decode cX11_moves 8 = .ok (.putfield 181, 3) := by decide +kernel
theorem dX11_moves_11 : decode cX11_moves 11 = .ok (.iconst 0, 1) := by decide +kernel
theorem dX11_moves_12 : decode cX11_moves 12 = .ok (.istore_n 1, 1) := by decide +kernel
theorem dX11_moves_13 : decode cX11_moves 13 = .ok (.iload_n 1, 1) := by decide +kernel
theorem dX11_moves_14 : decode cX11_moves 14 = .ok (.aload_n 0, 1) := by decide +kernel
theorem dX11_moves_15 : decode cX11_moves 15 = .ok (.getfield 65, 3) := by decide +kernel
theorem dX11_moves_18 : decode cX11_moves 18 = .ok (.if_icmp .ge 103, 3) := by decide +kernel
theorem dX11_moves_21 : decode cX11_moves 21 = .ok (.aload_n 0, 1) := by decide +kernel
theorem dX11_moves_22 : decode cX11_moves 22 = .ok (.getfield 16, 3) := by decide +kernel
theorem dX11_moves_25 : decode cX11_moves 25 = .ok (.iload_n 1, 1) := by decide +kernel
theorem dX11_moves_26 : decode cX11_moves 26 = .ok (.iaload, 1) := by decide +kernel
theorem dX11_moves_27 : decode cX11_moves 27 = .ok (.invokestatic 184, 3) := by decide +kernel
theorem dX11_moves_30 : decode cX11_moves 30 = .ok (.istore_n 2, 1) := by decide +kernel
theorem dX11_moves_31 : decode cX11_moves 31 = .ok (.iload_n 2, 1) := by decide +kernel
theorem dX11_moves_32 : decode cX11_moves 32 = .ok (.ifCond .ge 7, 3) := by decide +kernel
theorem dX11_moves_35 : decode cX11_moves 35 = .ok (.iconst 1, 1) := by decide +kernel
theorem dX11_moves_36 : decode cX11_moves 36 = .ok (.goto 54, 3) := by decide +kernel
theorem dX11_moves_39 : decode cX11_moves 39 = .ok (.aload_n 0, 1) := by decide +kernel
theorem dX11_moves_40 : decode cX11_moves 40 = .ok (.aload_n 0, 1) := by decide +kernel
theorem dX11_moves_41 : decode cX11_moves 41 = .ok (.getfield 181, 3) := by decide +kernel
theorem dX11_moves_44 : decode cX11_moves 44 = .ok (.iload_n 2, 1) := by decide +kernel
theorem dX11_moves_45 : decode cX11_moves 45 = .ok (.invokevirtual 80, 3) := by decide +kernel
theorem dX11_moves_48 : decode cX11_moves 48 = .ok (.ifCond .ge 7, 3) := by decide +kernel
theorem dX11_moves_51 : decode cX11_moves 51 = .ok (.iconst 2, 1) := by decide +kernel
theorem dX11_moves_52 : decode cX11_moves 52 = .ok (.goto 38, 3) := by decide +kernel
theorem dX11_moves_55 : decode cX11_moves 55 = .ok (.aload_n 0, 1) := by decide +kernel
theorem dX11_moves_56 : decode cX11_moves 56 = .ok (.aload_n 0, 1) := by decide +kernel
theorem dX11_moves_57 : decode cX11_moves 57 = .ok (.getfield 181, 3) := by decide +kernel
theorem dX11_moves_60 : decode cX11_moves 60 = .ok (.iload_n 2, 1) := by decide +kernel
theorem dX11_moves_61 : decode cX11_moves 61 = .ok (.invokevirtual 87, 3) := by decide +kernel
theorem dX11_moves_64 : decode cX11_moves 64 = .ok (.ifCond .ne 7, 3) := by decide +kernel
theorem dX11_moves_67 : decode cX11_moves 67 = .ok (.iconst 3, 1) := by decide +kernel
theorem dX11_moves_68 : decode cX11_moves 68 = .ok (.goto 22, 3) := by decide +kernel
theorem dX11_moves_71 : decode cX11_moves 71 = .ok (.aload_n 0, 1) := by decide +kernel
theorem dX11_moves_72 : decode cX11_moves 72 = .ok (.getfield 181, 3) := by decide +kernel
theorem dX11_moves_75 : decode cX11_moves 75 = .ok (.aload_n 0, 1) := by decide +kernel
theorem dX11_moves_76 : decode cX11_moves 76 = .ok (.getfield 7, 3) := by decide +kernel
theorem dX11_moves_79 : decode cX11_moves 79 = .ok (.bipush 8, 2) := by decide +kernel
theorem dX11_moves_81 : decode cX11_moves 81 = .ok (.iaload, 1) := by decide +kernel
theorem dX11_moves_82 : decode cX11_moves 82 = .ok (.if_icmp .ne 7, 3) := by decide +kernel
theorem dX11_moves_85 : decode cX11_moves 85 = .ok (.iconst 4, 1) := by decide +kernel
theorem dX11_moves_86 : decode cX11_moves 86 = .ok (.goto 4, 3) := by decide +kernel
theorem dX11_moves_89 : decode cX11_moves 89 = .ok (.iconst 0, 1) := by decide +kernel
theorem dX11_moves_90 : decode cX11_moves 90 = .ok (.istore_n 3, 1) := by decide +kernel
theorem dX11_moves_91 : decode cX11_moves 91 = .ok (.aload_n 0, 1) := by decide +kernel
theorem dX11_moves_92 : decode cX11_moves 92 = .ok (.iload_n 1, 1) := by decide +kernel
theorem dX11_moves_93 : decode cX11_moves 93 = .ok (.putfield 187, 3) := by decide +kernel
theorem dX11_moves_96 : decode cX11_moves 96 = .ok (.iload_n 3, 1) := by decide +kernel
theorem dX11_moves_97 : decode cX11_moves 97 = .ok (.ifCond .le 5, 3) := by decide +kernel
theorem dX11_moves_100 : decode cX11_moves 100 = .ok (.iload_n 3, 1) := by decide +kernel
theorem dX11_moves_101 : decode cX11_moves 101 = .ok (.ireturn, 1) := by decide +kernel
theorem dX11_moves_102 : decode cX11_moves 102 = .ok (.aload_n 0, 1) := by decide +kernel
theorem dX11_moves_103 : decode cX11_moves 103 = .ok (.aload_n 0, 1) := by decide +kernel
theorem dX11_moves_104 : decode cX11_moves 104 = .ok (.aload_n 0, 1) := by decide +kernel
theorem dX11_moves_105 : decode cX11_moves 105 = .ok (.getfield 181, 3) := by decide +kernel
theorem dX11_moves_108 : decode cX11_moves 108 = .ok (.iload_n 2, 1) := by decide +kernel
theorem dX11_moves_109 : decode cX11_moves 109 = .ok (.invokevirtual 80, 3) := by decide +kernel
theorem dX11_moves_112 : decode cX11_moves 112 = .ok (.putfield 181, 3) := by decide +kernel
theorem dX11_moves_115 : decode cX11_moves 115 = .ok (.iinc 1 1, 3) := by decide +kernel
theorem dX11_moves_118 : decode cX11_moves 118 = .ok (.goto (-105), 3) := by decide +kernel
theorem dX11_moves_121 : decode cX11_moves 121 = .ok (.aload_n 0, 1) := by decide +kernel
theorem dX11_moves_122 : decode cX11_moves 122 = .ok (.aload_n 0, 1) := by decide +kernel
theorem dX11_moves_123 : decode cX11_moves 123 = .ok (.getfield 65, 3) := by decide +kernel
theorem dX11_moves_126 : decode cX11_moves 126 = .ok (.putfield 187, 3) := by decide +kernel
theorem dX11_moves_129 : decode cX11_moves 129 = .ok (.aload_n 0, 1) := by decide +kernel
theorem dX11_moves_130 : decode cX11_moves 130 = .ok (.getfield 181, 3) := by decide +kernel
theorem dX11_moves_133 : decode cX11_moves 133 = .ok (.aload_n 0, 1) := by decide +kernel
theorem dX11_moves_134 : decode cX11_moves 134 = .ok (.getfield 7, 3) := by decide +kernel
theorem dX11_moves_137 : decode cX11_moves 137 = .ok (.bipush 8, 2) := by decide +kernel
theorem dX11_moves_139 : decode cX11_moves 139 = .ok (.iaload, 1) := by decide +kernel
theorem dX11_moves_140 : decode cX11_moves 140 = .ok (.if_icmp .ne 7, 3) := by decide +kernel
theorem dX11_moves_143 : decode cX11_moves 143 = .ok (.iconst 0, 1) := by decide +kernel
theorem dX11_moves_144 : decode cX11_moves 144 = .ok (.goto 4, 3) := by decide +kernel
theorem dX11_moves_147 : decode cX11_moves 147 = .ok (.iconst 5, 1) := by decide +kernel
theorem dX11_moves_148 : decode cX11_moves 148 = .ok (.ireturn, 1) := by decide +kernel
set_option maxRecDepth 20000 in
theorem ggX11_fault_X11_in : GoodIn wsX11_fault wsX11_in := goodIn_r _ [5] (by decide +kernel) (by decide +kernel)
set_option maxRecDepth 20000 in
theorem gX11_fault_X11_in : GoodIn wsX11_fault (va_wsS RX11 57 yX11_in wsX11_in) := goodIn_app (goodIn_of _ (by decide +kernel)) ggX11_fault_X11_in
set_option maxRecDepth 20000 in
theorem ggX11_fault_X11_moves : GoodIn wsX11_fault wsX11_moves := goodIn_r _ [9, 10, 11, 12, 13, 1, 14, 15, 4, 16, 17, 18, 19, 20, 21, 22, 23, 24, 25, 26, 27, 28, 29, 30, 31, 32, 2, 3, 5, 33, 34, 35, 36, 37, 38, 39, 40, 41, 42, 43, 44, 45, 46, 47, 48, 49, 50, 51, 52, 53, 54, 55, 56, 57, 58, 59, 60, 61, 62, 63, 64, 65, 66, 67] (by decide +kernel) (by decide +kernel)
set_option maxRecDepth 20000 in
theorem gX11_fault_X11_moves : GoodIn wsX11_fault (wsV RX11 190 RX11 yX11_moves wsX11_moves) := goodIn_app (goodIn_of _ (by decide +kernel)) ggX11_fault_X11_moves
theorem dX11_fault_0 : decode cX11_fault 0 = .ok (.iload_n 1, 1) := by decide +kernel
theorem dX11_fault_1 : decode cX11_fault 1 = .ok (.iconst 0, 1) := by decide +kernel
theorem dX11_fault_2 : decode cX11_fault 2 = .ok (.iconst 1, 1) := by decide +kernel
theorem dX11_fault_3 : decode cX11_fault 3 = .ok (.invokestatic 57, 3) := by decide +kernel
theorem dX11_fault_6 : decode cX11_fault 6 = .ok (.ifCond .ne 5, 3) := by decide +kernel
theorem dX11_fault_9 : decode cX11_fault 9 = .ok (.iconst (-1), 1) := by decide +kernel
theorem dX11_fault_10 : decode cX11_fault 10 = .ok (.ireturn, 1) := by decide +kernel
theorem dX11_fault_11 : decode cX11_fault 11 = .ok (.aload_n 0, 1) := by decide +kernel
theorem dX11_fault_12 : decode cX11_fault 12 = .ok (.invokevirtual 190, 3) := by decide +kernel
theorem dX11_fault_15 : decode cX11_fault 15 = .ok (.istore_n 2, 1) := by decide +kernel
theorem dX11_fault_16 : decode cX11_fault 16 = .ok (.iload_n 2, 1) := by decide +kernel
theorem dX11_fault_17 : decode cX11_fault 17 = .ok (.ifCond .ne 8, 3) := by decide +kernel
theorem dX11_fault_20 : decode cX11_fault 20 = .ok (.bipush (-4), 2) := by decide +kernel
theorem dX11_fault_22 : decode cX11_fault 22 = .ok (.goto 15, 3) := by decide +kernel
theorem dX11_fault_25 : decode cX11_fault 25 = .ok (.iload_n 1, 1) := by decide +kernel
theorem dX11_fault_26 : decode cX11_fault 26 = .ok (.ifCond .ne 10, 3) := by decide +kernel
theorem dX11_fault_29 : decode cX11_fault 29 = .ok (.aload_n 0, 1) := by decide +kernel
theorem dX11_fault_30 : decode cX11_fault 30 = .ok (.getfield 187, 3) := by decide +kernel
theorem dX11_fault_33 : decode cX11_fault 33 = .ok (.goto 4, 3) := by decide +kernel
theorem dX11_fault_36 : decode cX11_fault 36 = .ok (.iload_n 2, 1) := by decide +kernel
theorem dX11_fault_37 : decode cX11_fault 37 = .ok (.ireturn, 1) := by decide +kernel
set_option maxRecDepth 20000 in
theorem ggX11_moved_X11_moves : GoodIn wsX11_moved wsX11_moves := goodIn_r _ [6, 7, 1, 8, 9, 10, 11, 12, 5, 13, 14, 15, 16, 17, 18, 19, 20, 21, 22, 23, 24, 25, 26, 27, 28, 29, 30, 31, 32, 33, 34, 35, 36, 37, 38, 39, 40, 41, 42, 43, 44, 45, 46, 47, 48, 49, 50, 51, 52, 53, 54, 55, 56, 57, 58, 59, 60, 61, 62, 63, 64, 65, 66, 67] (by decide +kernel) (by decide +kernel)
set_option maxRecDepth 20000 in
theorem gX11_moved_X11_moves : GoodIn wsX11_moved (wsV RX11 190 RX11 yX11_moves wsX11_moves) := goodIn_app (goodIn_of _ (by decide +kernel)) ggX11_moved_X11_moves
theorem dX11_moved_0 : decode cX11_moved 0 = .ok (.aload_n 0, 1) := by decide +kernel
theorem dX11_moved_1 : decode cX11_moved 1 = .ok (.invokevirtual 190, 3) := by decide +kernel
theorem dX11_moved_4 : decode cX11_moved 4 = .ok (.istore_n 1, 1) := by decide +kernel
theorem dX11_moved_5 : decode cX11_moved 5 = .ok (.aload_n 0, 1) := by decide +kernel
theorem dX11_moved_6 : decode cX11_moved 6 = .ok (.getfield 181, 3) := by decide +kernel
theorem dX11_moved_9 : decode cX11_moved 9 = .ok (.ireturn, 1) := by decide +kernel
theorem dJ11_isValidCodePoint_9a6ad_0 : decode cJ11_isValidCodePoint_9a6ad 0 = .ok (.iload_n 0, 1) := by decide +kernel
theorem dJ11_isValidCodePoint_9a6ad_1 : decode cJ11_isValidCodePoint_9a6ad 1 = .ok (.bipush 16, 2) := by decide +kernel
theorem dJ11_isValidCodePoint_9a6ad_3 : decode cJ11_isValidCodePoint_9a6ad 3 = .ok (.iushr, 1) := by decide +kernel
theorem dJ11_isValidCodePoint_9a6ad_4 : decode cJ11_isValidCodePoint_9a6ad 4 = .ok (.istore_n 1, 1) := by decide +kernel
theorem dJ11_isValidCodePoint_9a6ad_5 : decode cJ11_isValidCodePoint_9a6ad 5 = .ok (.iload_n 1, 1) := by decide +kernel
theorem dJ11_isValidCodePoint_9a6ad_6 : decode cJ11_isValidCodePoint_9a6ad 6 = .ok (.bipush 17, 2) := by decide +kernel
theorem dJ11_isValidCodePoint_9a6ad_8 : decode cJ11_isValidCodePoint_9a6ad 8 = .ok (.if_icmp .ge 7, 3) := by decide +kernel
theorem dJ11_isValidCodePoint_9a6ad_11 : decode cJ11_isValidCodePoint_9a6ad 11 = .ok (.iconst 1, 1) := by decide +kernel
theorem dJ11_isValidCodePoint_9a6ad_12 : decode cJ11_isValidCodePoint_9a6ad 12 = .ok (.goto 4, 3) := by decide +kernel
theorem dJ11_isValidCodePoint_9a6ad_15 : decode cJ11_isValidCodePoint_9a6ad 15 = .ok (.iconst 0, 1) := by decide +kernel
theorem dJ11_isValidCodePoint_9a6ad_16 : decode cJ11_isValidCodePoint_9a6ad 16 = .ok (.ireturn, 1) := by decide +kernel
theorem dJ11_highSurrogate_5068e_0 : decode cJ11_highSurrogate_5068e 0 = .ok (.iload_n 0, 1) := by decide +kernel
theorem dJ11_highSurrogate_5068e_1 : decode cJ11_highSurrogate_5068e 1 = .ok (.bipush 10, 2) := by decide +kernel
theorem dJ11_highSurrogate_5068e_3 : decode cJ11_highSurrogate_5068e 3 = .ok (.iushr, 1) := by decide +kernel
theorem dJ11_highSurrogate_5068e_4 : decode cJ11_highSurrogate_5068e 4 = .ok (.ldc 110, 2) := by decide +kernel
theorem dJ11_highSurrogate_5068e_6 : decode cJ11_highSurrogate_5068e 6 = .ok (.iadd, 1) := by decide +kernel
theorem dJ11_highSurrogate_5068e_7 : decode cJ11_highSurrogate_5068e 7 = .ok (.i2c, 1) := by decide +kernel
theorem dJ11_highSurrogate_5068e_8 : decode cJ11_highSurrogate_5068e 8 = .ok (.ireturn, 1) := by decide +kernel
theorem dJ11_lowSurrogate_5068e_0 : decode cJ11_lowSurrogate_5068e 0 = .ok (.iload_n 0, 1) := by decide +kernel
theorem dJ11_lowSurrogate_5068e_1 : decode cJ11_lowSurrogate_5068e 1 = .ok (.sipush 1023, 3) := by decide +kernel
theorem dJ11_lowSurrogate_5068e_4 : decode cJ11_lowSurrogate_5068e 4 = .ok (.iand, 1) := by decide +kernel
theorem dJ11_lowSurrogate_5068e_5 : decode cJ11_lowSurrogate_5068e 5 = .ok (.ldc 76, 2) := by decide +kernel
theorem dJ11_lowSurrogate_5068e_7 : decode cJ11_lowSurrogate_5068e 7 = .ok (.iadd, 1) := by decide +kernel
theorem dJ11_lowSurrogate_5068e_8 : decode cJ11_lowSurrogate_5068e 8 = .ok (.i2c, 1) := by decide +kernel
theorem dJ11_lowSurrogate_5068e_9 : decode cJ11_lowSurrogate_5068e 9 = .ok (.ireturn, 1) := by decide +kernel
theorem dJ6_bitCount_0f7a4_0 : decode cJ6_bitCount_0f7a4 0 = .ok (.iload_n 0, 1) := by decide +kernel
theorem dJ6_bitCount_0f7a4_1 : decode cJ6_bitCount_0f7a4 1 = .ok (.iload_n 0, 1) := by decide +kernel
theorem dJ6_bitCount_0f7a4_2 : decode cJ6_bitCount_0f7a4 2 = .ok (.iconst 1, 1) := by decide +kernel
theorem dJ6_bitCount_0f7a4_3 : decode cJ6_bitCount_0f7a4 3 = .ok (.iushr, 1) := by decide +kernel
theorem dJ6_bitCount_0f7a4_4 : decode cJ6_bitCount_0f7a4 4 = .ok (.ldc_w 265, 3) := by decide +kernel
theorem dJ6_bitCount_0f7a4_7 : decode cJ6_bitCount_0f7a4 7 = .ok (.iand, 1) := by decide +kernel
theorem dJ6_bitCount_0f7a4_8 : decode cJ6_bitCount_0f7a4 8 = .ok (.isub, 1) := by decide +kernel
theorem dJ6_bitCount_0f7a4_9 : decode cJ6_bitCount_0f7a4 9 = .ok (.istore_n 0, 1) := by decide +kernel
theorem dJ6_bitCount_0f7a4_10 : decode cJ6_bitCount_0f7a4 10 = .ok (.iload_n 0, 1) := by decide +kernel
theorem dJ6_bitCount_0f7a4_11 : decode cJ6_bitCount_0f7a4 11 = .ok (.ldc_w 266, 3) := by decide +kernel
theorem dJ6_bitCount_0f7a4_14 : decode cJ6_bitCount_0f7a4 14 = .ok (.iand, 1) := by decide +kernel
theorem dJ6_bitCount_0f7a4_15 : decode cJ6_bitCount_0f7a4 15 = .ok (.iload_n 0, 1) := by decide +kernel
theorem dJ6_bitCount_0f7a4_16 : decode cJ6_bitCount_0f7a4 16 = .ok (.iconst 2, 1) := by decide +kernel
theorem dJ6_bitCount_0f7a4_17 : decode cJ6_bitCount_0f7a4 17 = .ok (.iushr, 1) := by decide +kernel
theorem dJ6_bitCount_0f7a4_18 : decode cJ6_bitCount_0f7a4 18 = .ok (.ldc_w 266, 3) := by decide +kernel
theorem dJ6_bitCount_0f7a4_21 : decode cJ6_bitCount_0f7a4 21 = .ok (.iand, 1) := by decide +kernel
theorem dJ6_bitCount_0f7a4_22 : decode cJ6_bitCount_0f7a4 22 = .ok (.iadd, 1) := by decide +kernel
theorem dJ6_bitCount_0f7a4_23 : decode cJ6_bitCount_0f7a4 23 = .ok (.istore_n 0, 1) := by decide +kernel
theorem dJ6_bitCount_0f7a4_24 : decode cJ6_bitCount_0f7a4 24 = .ok (.iload_n 0, 1) := by decide +kernel
theorem dJ6_bitCount_0f7a4_25 : decode cJ6_bitCount_0f7a4 25 = .ok (.iload_n 0, 1) := by decide +kernel
theorem dJ6_bitCount_0f7a4_26 : decode cJ6_bitCount_0f7a4 26 = .ok (.iconst 4, 1) := by decide +kernel
theorem dJ6_bitCount_0f7a4_27 : decode cJ6_bitCount_0f7a4 27 = .ok (.iushr, 1) := by decide +kernel
theorem dJ6_bitCount_0f7a4_28 : decode cJ6_bitCount_0f7a4 28 = .ok (.iadd, 1) := by decide +kernel
theorem dJ6_bitCount_0f7a4_29 : decode cJ6_bitCount_0f7a4 29 = .ok (.ldc_w 267, 3) := by decide +kernel
theorem dJ6_bitCount_0f7a4_32 : decode cJ6_bitCount_0f7a4 32 = .ok (.iand, 1) := by decide +kernel
theorem dJ6_bitCount_0f7a4_33 : decode cJ6_bitCount_0f7a4 33 = .ok (.istore_n 0, 1) := by decide +kernel
theorem dJ6_bitCount_0f7a4_34 : decode cJ6_bitCount_0f7a4 34 = .ok (.iload_n 0, 1) := by decide +kernel
theorem dJ6_bitCount_0f7a4_35 : decode cJ6_bitCount_0f7a4 35 = .ok (.iload_n 0, 1) := by decide +kernel
theorem dJ6_bitCount_0f7a4_36 : decode cJ6_bitCount_0f7a4 36 = .ok (.bipush 8, 2) := by decide +kernel
theorem dJ6_bitCount_0f7a4_38 : decode cJ6_bitCount_0f7a4 38 = .ok (.iushr, 1) := by decide +kernel
theorem dJ6_bitCount_0f7a4_39 : decode cJ6_bitCount_0f7a4 39 = .ok (.iadd, 1) := by decide +kernel
theorem dJ6_bitCount_0f7a4_40 : decode cJ6_bitCount_0f7a4 40 = .ok (.istore_n 0, 1) := by decide +kernel
theorem dJ6_bitCount_0f7a4_41 : decode cJ6_bitCount_0f7a4 41 = .ok (.iload_n 0, 1) := by decide +kernel
theorem dJ6_bitCount_0f7a4_42 : decode cJ6_bitCount_0f7a4 42 = .ok (.iload_n 0, 1) := by decide +kernel
theorem dJ6_bitCount_0f7a4_43 : decode cJ6_bitCount_0f7a4 43 = .ok (.bipush 16, 2) := by decide +kernel
theorem dJ6_bitCount_0f7a4_45 : decode cJ6_bitCount_0f7a4 45 = .ok (.iushr, 1) := by decide +kernel
theorem dJ6_bitCount_0f7a4_46 : decode cJ6_bitCount_0f7a4 46 = .ok (.iadd, 1) := by decide +kernel
theorem dJ6_bitCount_0f7a4_47 : decode cJ6_bitCount_0f7a4 47 = .ok (.istore_n 0, 1) := by decide +kernel
theorem dJ6_bitCount_0f7a4_48 : decode cJ6_bitCount_0f7a4 48 = .ok (.iload_n 0, 1) := by decide +kernel
theorem dJ6_bitCount_0f7a4_49 : decode cJ6_bitCount_0f7a4 49 = .ok (.bipush 63, 2) := by decide +kernel
theorem dJ6_bitCount_0f7a4_51 : decode cJ6_bitCount_0f7a4 51 = .ok (.iand, 1) := by decide +kernel
theorem dJ6_bitCount_0f7a4_52 : decode cJ6_bitCount_0f7a4 52 = .ok (.ireturn, 1) := by decide +kernel
theorem dJ9_max_7cf53_0 : decode cJ9_max_7cf53 0 = .ok (.iload_n 0, 1) := by decide +kernel
theorem dJ9_max_7cf53_1 : decode cJ9_max_7cf53 1 = .ok (.iload_n 1, 1) := by decide +kernel
theorem dJ9_max_7cf53_2 : decode cJ9_max_7cf53 2 = .ok (.if_icmp .lt 7, 3) := by decide +kernel
theorem dJ9_max_7cf53_5 : decode cJ9_max_7cf53 5 = .ok (.iload_n 0, 1) := by decide +kernel
theorem dJ9_max_7cf53_6 : decode cJ9_max_7cf53 6 = .ok (.goto 4, 3) := by decide +kernel
theorem dJ9_max_7cf53_9 : decode cJ9_max_7cf53 9 = .ok (.iload_n 1, 1) := by decide +kernel
theorem dJ9_max_7cf53_10 : decode cJ9_max_7cf53 10 = .ok (.ireturn, 1) := by decide +kernel
theorem dJ9_min_7cf53_0 : decode cJ9_min_7cf53 0 = .ok (.iload_n 0, 1) := by decide +kernel
theorem dJ9_min_7cf53_1 : decode cJ9_min_7cf53 1 = .ok (.iload_n 1, 1) := by decide +kernel
theorem dJ9_min_7cf53_2 : decode cJ9_min_7cf53 2 = .ok (.if_icmp .gt 7, 3) := by decide +kernel
theorem dJ9_min_7cf53_5 : decode cJ9_min_7cf53 5 = .ok (.iload_n 0, 1) := by decide +kernel
theorem dJ9_min_7cf53_6 : decode cJ9_min_7cf53 6 = .ok (.goto 4, 3) := by decide +kernel
theorem dJ9_min_7cf53_9 : decode cJ9_min_7cf53 9 = .ok (.iload_n 1, 1) := by decide +kernel
theorem dJ9_min_7cf53_10 : decode cJ9_min_7cf53 10 = .ok (.ireturn, 1) := by decide +kernel
set_option maxRecDepth 20000 in
theorem ggJ0_length_8abf5_J0_coder_7d493 : GoodIn wsJ0_length_8abf5 wsJ0_coder_7d493 := goodIn_r _ [6, 7, 8] (by decide +kernel) (by decide +kernel)
set_option maxRecDepth 20000 in
theorem gJ0_length_8abf5_J0_coder_7d493 : GoodIn wsJ0_length_8abf5 (wsV RJ0 335 RJ0 yJ0_coder_7d493 wsJ0_coder_7d493) := goodIn_app (goodIn_of _ (by decide +kernel)) ggJ0_length_8abf5_J0_coder_7d493
theorem dJ0_length_8abf5_0 : decode cJ0_length_8abf5 0 = .ok (.aload_n 0, 1) := by decide +kernel
theorem dJ0_length_8abf5_1 : decode cJ0_length_8abf5 1 = .ok (.getfield 9, 3) := by decide +kernel
theorem dJ0_length_8abf5_4 : decode cJ0_length_8abf5 4 = .ok (.arraylength, 1) := by decide +kernel
theorem dJ0_length_8abf5_5 : decode cJ0_length_8abf5 5 = .ok (.aload_n 0, 1) := by decide +kernel
theorem dJ0_length_8abf5_6 : decode cJ0_length_8abf5 6 = .ok (.invokevirtual 335, 3) := by decide +kernel
theorem dJ0_length_8abf5_9 : decode cJ0_length_8abf5 9 = .ok (.ishr, 1) := by decide +kernel
theorem dJ0_length_8abf5_10 : decode cJ0_length_8abf5 10 = .ok (.ireturn, 1) := by decide +kernel
set_option maxRecDepth 20000 in
theorem ggJ0_indexOf_0f7a4_J0_indexOf_7cf53 : GoodIn wsJ0_indexOf_0f7a4 wsJ0_indexOf_7cf53 := goodIn_r _ [5, 6, 7, 8, 9, 4, 10, 11, 12, 13, 14, 15, 16, 17, 18, 19, 20, 21, 22, 23, 24, 25, 26, 27, 28, 29, 30, 31, 32, 33, 34, 35, 36, 37, 38, 39, 40, 41, 42, 43, 44, 45, 46, 47, 48, 49, 50, 51, 52, 53, 54, 55, 56, 57, 58, 59, 60, 61, 62, 63, 64, 65, 66, 67, 68, 69, 70, 71, 72, 73, 74, 75, 76, 77, 78, 79, 80, 81, 82, 83, 84, 85] (by decide +kernel) (by decide +kernel)
set_option maxRecDepth 20000 in
theorem gJ0_indexOf_0f7a4_J0_indexOf_7cf53 : GoodIn wsJ0_indexOf_0f7a4 (wsV RJ0 633 RJ0 yJ0_indexOf_7cf53 wsJ0_indexOf_7cf53) := goodIn_app (goodIn_of _ (by decide +kernel)) ggJ0_indexOf_0f7a4_J0_indexOf_7cf53
theorem dJ0_indexOf_0f7a4_0 : decode cJ0_indexOf_0f7a4 0 = .ok (.aload_n 0, 1) := by decide +kernel
theorem dJ0_indexOf_0f7a4_1 : decode cJ0_indexOf_0f7a4 1 = .ok (.iload_n 1, 1) := by decide +kernel
theorem dJ0_indexOf_0f7a4_2 : decode cJ0_indexOf_0f7a4 2 = .ok (.iconst 0, 1) := by decide +kernel
theorem dJ0_indexOf_0f7a4_3 : decode cJ0_indexOf_0f7a4 3 = .ok (.invokevirtual 633, 3) := by decide +kernel
theorem dJ0_indexOf_0f7a4_6 : decode cJ0_indexOf_0f7a4 6 = .ok (.ireturn, 1) := by decide +kernel
set_option maxRecDepth 20000 in
theorem ggJ0_indexOf_7cf53_J0_isLatin1_aae02 : GoodIn wsJ0_indexOf_7cf53 wsJ0_isLatin1_aae02 := goodIn_r _ [6, 7, 8] (by decide +kernel) (by decide +kernel)
set_option maxRecDepth 20000 in
theorem gJ0_indexOf_7cf53_J0_isLatin1_aae02 : GoodIn wsJ0_indexOf_7cf53 (wsV RJ0 492 RJ0 yJ0_isLatin1_aae02 wsJ0_isLatin1_aae02) := goodIn_app (goodIn_of _ (by decide +kernel)) ggJ0_indexOf_7cf53_J0_isLatin1_aae02
set_option maxRecDepth 20000 in
theorem ggJ0_indexOf_7cf53_J0_length_8abf5 : GoodIn wsJ0_indexOf_7cf53 wsJ0_length_8abf5 := goodIn_r _ [12, 1, 13, 14, 15, 5, 16, 7, 8] (by decide +kernel) (by decide +kernel)
set_option maxRecDepth 20000 in
theorem gJ0_indexOf_7cf53_J0_length_8abf5 : GoodIn wsJ0_indexOf_7cf53 (wsV RJ0 505 RJ0 yJ0_length_8abf5 wsJ0_length_8abf5) := goodIn_app (goodIn_of _ (by decide +kernel)) ggJ0_indexOf_7cf53_J0_length_8abf5
set_option maxRecDepth 20000 in
theorem ggJ0_indexOf_7cf53_J1_indexOf_4cfef : GoodIn wsJ0_indexOf_7cf53 wsJ1_indexOf_4cfef := goodIn_r _ [20, 21, 22, 23, 24, 25, 26, 27, 28, 29, 19, 30, 31, 32, 33] (by decide +kernel) (by decide +kernel)
set_option maxRecDepth 20000 in
theorem gJ0_indexOf_7cf53_J1_indexOf_4cfef : GoodIn wsJ0_indexOf_7cf53 (va_wsS RJ0 637 yJ1_indexOf_4cfef wsJ1_indexOf_4cfef) := goodIn_app (goodIn_of _ (by decide +kernel)) ggJ0_indexOf_7cf53_J1_indexOf_4cfef
set_option maxRecDepth 20000 in
theorem ggJ0_indexOf_7cf53_J2_indexOf_4cfef : GoodIn wsJ0_indexOf_7cf53 wsJ2_indexOf_4cfef := goodIn_r _ [37, 38, 22, 23, 24, 39, 26, 27, 40, 41, 42, 36, 43, 44, 45, 46, 47, 48, 49, 50, 51, 5, 52, 53, 54, 55, 56, 57, 58, 59, 60, 61, 62, 63, 64, 65, 66, 67, 68, 69, 70, 71, 72, 73, 74, 75, 76, 77, 78, 79, 80, 81] (by decide +kernel) (by decide +kernel)
set_option maxRecDepth 20000 in
theorem gJ0_indexOf_7cf53_J2_indexOf_4cfef : GoodIn wsJ0_indexOf_7cf53 (va_wsS RJ0 640 yJ2_indexOf_4cfef wsJ2_indexOf_4cfef) := goodIn_app (goodIn_of _ (by decide +kernel)) ggJ0_indexOf_7cf53_J2_indexOf_4cfef
theorem dJ0_indexOf_7cf53_0 : decode cJ0_indexOf_7cf53 0 = .ok (.aload_n 0, 1) := by decide +kernel
theorem dJ0_indexOf_7cf53_1 : decode cJ0_indexOf_7cf53 1 = .ok (.invokevirtual 492, 3) := by decide +kernel
theorem dJ0_indexOf_7cf53_4 : decode cJ0_indexOf_7cf53 4 = .ok (.ifCond .eq 19, 3) := by decide +kernel
theorem dJ0_indexOf_7cf53_7 : decode cJ0_indexOf_7cf53 7 = .ok (.aload_n 0, 1) := by decide +kernel
theorem dJ0_indexOf_7cf53_8 : decode cJ0_indexOf_7cf53 8 = .ok (.getfield 9, 3) := by decide +kernel
theorem dJ0_indexOf_7cf53_11 : decode cJ0_indexOf_7cf53 11 = .ok (.iload_n 1, 1) := by decide +kernel
theorem dJ0_indexOf_7cf53_12 : decode cJ0_indexOf_7cf53 12 = .ok (.iload_n 2, 1) := by decide +kernel
theorem dJ0_indexOf_7cf53_13 : decode cJ0_indexOf_7cf53 13 = .ok (.aload_n 0, 1) := by decide +kernel
theorem dJ0_indexOf_7cf53_14 : decode cJ0_indexOf_7cf53 14 = .ok (.invokevirtual 505, 3) := by decide +kernel
theorem dJ0_indexOf_7cf53_17 : decode cJ0_indexOf_7cf53 17 = .ok (.invokestatic 637, 3) := by decide +kernel
theorem dJ0_indexOf_7cf53_20 : decode cJ0_indexOf_7cf53 20 = .ok (.goto 16, 3) := by decide +kernel
theorem dJ0_indexOf_7cf53_23 : decode cJ0_indexOf_7cf53 23 = .ok (.aload_n 0, 1) := by decide +kernel
theorem dJ0_indexOf_7cf53_24 : decode cJ0_indexOf_7cf53 24 = .ok (.getfield 9, 3) := by decide +kernel
theorem dJ0_indexOf_7cf53_27 : decode cJ0_indexOf_7cf53 27 = .ok (.iload_n 1, 1) := by decide +kernel
theorem dJ0_indexOf_7cf53_28 : decode cJ0_indexOf_7cf53 28 = .ok (.iload_n 2, 1) := by decide +kernel
theorem dJ0_indexOf_7cf53_29 : decode cJ0_indexOf_7cf53 29 = .ok (.aload_n 0, 1) := by decide +kernel
theorem dJ0_indexOf_7cf53_30 : decode cJ0_indexOf_7cf53 30 = .ok (.invokevirtual 505, 3) := by decide +kernel
theorem dJ0_indexOf_7cf53_33 : decode cJ0_indexOf_7cf53 33 = .ok (.invokestatic 640, 3) := by decide +kernel
theorem dJ0_indexOf_7cf53_36 : decode cJ0_indexOf_7cf53 36 = .ok (.ireturn, 1) := by decide +kernel
theorem dJ0_coder_7d493_0 : decode cJ0_coder_7d493 0 = .ok (.getstatic 38, 3) := by decide +kernel
theorem dJ0_coder_7d493_3 : decode cJ0_coder_7d493 3 = .ok (.ifCond .eq 10, 3) := by decide +kernel
theorem dJ0_coder_7d493_6 : decode cJ0_coder_7d493 6 = .ok (.aload_n 0, 1) := by decide +kernel
theorem dJ0_coder_7d493_7 : decode cJ0_coder_7d493 7 = .ok (.getfield 15, 3) := by decide +kernel
theorem dJ0_coder_7d493_10 : decode cJ0_coder_7d493 10 = .ok (.goto 4, 3) := by decide +kernel
theorem dJ0_coder_7d493_13 : decode cJ0_coder_7d493 13 = .ok (.iconst 1, 1) := by decide +kernel
theorem dJ0_coder_7d493_14 : decode cJ0_coder_7d493 14 = .ok (.ireturn, 1) := by decide +kernel
theorem dJ0_isLatin1_aae02_0 : decode cJ0_isLatin1_aae02 0 = .ok (.getstatic 38, 3) := by decide +kernel
theorem dJ0_isLatin1_aae02_3 : decode cJ0_isLatin1_aae02 3 = .ok (.ifCond .eq 14, 3) := by decide +kernel
theorem dJ0_isLatin1_aae02_6 : decode cJ0_isLatin1_aae02 6 = .ok (.aload_n 0, 1) := by decide +kernel
theorem dJ0_isLatin1_aae02_7 : decode cJ0_isLatin1_aae02 7 = .ok (.getfield 15, 3) := by decide +kernel
theorem dJ0_isLatin1_aae02_10 : decode cJ0_isLatin1_aae02 10 = .ok (.ifCond .ne 7, 3) := by decide +kernel
theorem dJ0_isLatin1_aae02_13 : decode cJ0_isLatin1_aae02 13 = .ok (.iconst 1, 1) := by decide +kernel
theorem dJ0_isLatin1_aae02_14 : decode cJ0_isLatin1_aae02 14 = .ok (.goto 4, 3) := by decide +kernel
theorem dJ0_isLatin1_aae02_17 : decode cJ0_isLatin1_aae02 17 = .ok (.iconst 0, 1) := by decide +kernel
theorem dJ0_isLatin1_aae02_18 : decode cJ0_isLatin1_aae02 18 = .ok (.ireturn, 1) := by decide +kernel
set_option maxRecDepth 20000 in
theorem ggJ0_checkBoundsBeginEnd_23922_J3_checkFromToIndex_8c36e : GoodIn wsJ0_checkBoundsBeginEnd_23922 wsJ3_checkFromToIndex_8c36e := goodIn_r _ [5] (by decide +kernel) (by decide +kernel)
set_option maxRecDepth 20000 in
theorem gJ0_checkBoundsBeginEnd_23922_J3_checkFromToIndex_8c36e : GoodIn wsJ0_checkBoundsBeginEnd_23922 (va_wsS RJ0 1062 yJ3_checkFromToIndex_8c36e wsJ3_checkFromToIndex_8c36e) := goodIn_app (goodIn_of _ (by decide +kernel)) ggJ0_checkBoundsBeginEnd_23922_J3_checkFromToIndex_8c36e
theorem dJ0_checkBoundsBeginEnd_23922_0 : decode cJ0_checkBoundsBeginEnd_23922 0 = .ok (.iload_n 0, 1) := by decide +kernel
theorem dJ0_checkBoundsBeginEnd_23922_1 : decode cJ0_checkBoundsBeginEnd_23922 1 = .ok (.iload_n 1, 1) := by decide +kernel
theorem dJ0_checkBoundsBeginEnd_23922_2 : decode cJ0_checkBoundsBeginEnd_23922 2 = .ok (.iload_n 2, 1) := by decide +kernel
theorem dJ0_checkBoundsBeginEnd_23922_3 : decode cJ0_checkBoundsBeginEnd_23922 3 = .ok (.getstatic 1053, 3) := by decide +kernel
theorem dJ0_checkBoundsBeginEnd_23922_6 : decode cJ0_checkBoundsBeginEnd_23922 6 = .ok (.invokestatic 1062, 3) := by decide +kernel
theorem dJ0_checkBoundsBeginEnd_23922_9 : decode cJ0_checkBoundsBeginEnd_23922 9 = .ok (.pop, 1) := by decide +kernel
theorem dJ0_checkBoundsBeginEnd_23922_10 : decode cJ0_checkBoundsBeginEnd_23922 10 = .ok (.return_, 1) := by decide +kernel
theorem dJ1_canEncode_9a6ad_0 : decode cJ1_canEncode_9a6ad 0 = .ok (.iload_n 0, 1) := by decide +kernel
theorem dJ1_canEncode_9a6ad_1 : decode cJ1_canEncode_9a6ad 1 = .ok (.ifCond .lt 14, 3) := by decide +kernel
theorem dJ1_canEncode_9a6ad_4 : decode cJ1_canEncode_9a6ad 4 = .ok (.iload_n 0, 1) := by decide +kernel
theorem dJ1_canEncode_9a6ad_5 : decode cJ1_canEncode_9a6ad 5 = .ok (.sipush 255, 3) := by decide +kernel
theorem dJ1_canEncode_9a6ad_8 : decode cJ1_canEncode_9a6ad 8 = .ok (.if_icmp .gt 7, 3) := by decide +kernel
theorem dJ1_canEncode_9a6ad_11 : decode cJ1_canEncode_9a6ad 11 = .ok (.iconst 1, 1) := by decide +kernel
theorem dJ1_canEncode_9a6ad_12 : decode cJ1_canEncode_9a6ad 12 = .ok (.goto 4, 3) := by decide +kernel
theorem dJ1_canEncode_9a6ad_15 : decode cJ1_canEncode_9a6ad 15 = .ok (.iconst 0, 1) := by decide +kernel
theorem dJ1_canEncode_9a6ad_16 : decode cJ1_canEncode_9a6ad 16 = .ok (.ireturn, 1) := by decide +kernel
set_option maxRecDepth 20000 in
theorem ggJ1_indexOf_4cfef_J1_canEncode_9a6ad : GoodIn wsJ1_indexOf_4cfef wsJ1_canEncode_9a6ad := goodIn_r _ [11] (by decide +kernel) (by decide +kernel)
set_option maxRecDepth 20000 in
theorem gJ1_indexOf_4cfef_J1_canEncode_9a6ad : GoodIn wsJ1_indexOf_4cfef (va_wsS RJ1 88 yJ1_canEncode_9a6ad wsJ1_canEncode_9a6ad) := goodIn_app (goodIn_of _ (by decide +kernel)) ggJ1_indexOf_4cfef_J1_canEncode_9a6ad
set_option maxRecDepth 20000 in
theorem ggJ1_indexOf_4cfef_J1_indexOfChar_4cfef : GoodIn wsJ1_indexOf_4cfef wsJ1_indexOfChar_4cfef := goodIn_r _ [14] (by decide +kernel) (by decide +kernel)
set_option maxRecDepth 20000 in
theorem gJ1_indexOf_4cfef_J1_indexOfChar_4cfef : GoodIn wsJ1_indexOf_4cfef (va_wsS RJ1 95 yJ1_indexOfChar_4cfef wsJ1_indexOfChar_4cfef) := goodIn_app (goodIn_of _ (by decide +kernel)) ggJ1_indexOf_4cfef_J1_indexOfChar_4cfef
theorem dJ1_indexOf_4cfef_0 : decode cJ1_indexOf_4cfef 0 = .ok (.iload_n 1, 1) := by decide +kernel
theorem dJ1_indexOf_4cfef_1 : decode cJ1_indexOf_4cfef 1 = .ok (.invokestatic 88, 3) := by decide +kernel
theorem dJ1_indexOf_4cfef_4 : decode cJ1_indexOf_4cfef 4 = .ok (.ifCond .ne 5, 3) := by decide +kernel
theorem dJ1_indexOf_4cfef_7 : decode cJ1_indexOf_4cfef 7 = .ok (.iconst (-1), 1) := by decide +kernel
theorem dJ1_indexOf_4cfef_8 : decode cJ1_indexOf_4cfef 8 = .ok (.ireturn, 1) := by decide +kernel
theorem dJ1_indexOf_4cfef_9 : decode cJ1_indexOf_4cfef 9 = .ok (.iload_n 2, 1) := by decide +kernel
theorem dJ1_indexOf_4cfef_10 : decode cJ1_indexOf_4cfef 10 = .ok (.iconst 0, 1) := by decide +kernel
theorem dJ1_indexOf_4cfef_11 : decode cJ1_indexOf_4cfef 11 = .ok (.invokestatic 92, 3) := by decide +kernel
theorem dJ1_indexOf_4cfef_14 : decode cJ1_indexOf_4cfef 14 = .ok (.istore_n 2, 1) := by decide +kernel
theorem dJ1_indexOf_4cfef_15 : decode cJ1_indexOf_4cfef 15 = .ok (.iload_n 3, 1) := by decide +kernel
theorem dJ1_indexOf_4cfef_16 : decode cJ1_indexOf_4cfef 16 = .ok (.aload_n 0, 1) := by decide +kernel
theorem dJ1_indexOf_4cfef_17 : decode cJ1_indexOf_4cfef 17 = .ok (.arraylength, 1) := by decide +kernel
theorem dJ1_indexOf_4cfef_18 : decode cJ1_indexOf_4cfef 18 = .ok (.invokestatic 38, 3) := by decide +kernel
theorem dJ1_indexOf_4cfef_21 : decode cJ1_indexOf_4cfef 21 = .ok (.istore_n 3, 1) := by decide +kernel
theorem dJ1_indexOf_4cfef_22 : decode cJ1_indexOf_4cfef 22 = .ok (.iload_n 2, 1) := by decide +kernel
theorem dJ1_indexOf_4cfef_23 : decode cJ1_indexOf_4cfef 23 = .ok (.iload_n 3, 1) := by decide +kernel
theorem dJ1_indexOf_4cfef_24 : decode cJ1_indexOf_4cfef 24 = .ok (.if_icmp .lt 5, 3) := by decide +kernel
theorem dJ1_indexOf_4cfef_27 : decode cJ1_indexOf_4cfef 27 = .ok (.iconst (-1), 1) := by decide +kernel
theorem dJ1_indexOf_4cfef_28 : decode cJ1_indexOf_4cfef 28 = .ok (.ireturn, 1) := by decide +kernel
theorem dJ1_indexOf_4cfef_29 : decode cJ1_indexOf_4cfef 29 = .ok (.aload_n 0, 1) := by decide +kernel
theorem dJ1_indexOf_4cfef_30 : decode cJ1_indexOf_4cfef 30 = .ok (.iload_n 1, 1) := by decide +kernel
theorem dJ1_indexOf_4cfef_31 : decode cJ1_indexOf_4cfef 31 = .ok (.iload_n 2, 1) := by decide +kernel
theorem dJ1_indexOf_4cfef_32 : decode cJ1_indexOf_4cfef 32 = .ok (.iload_n 3, 1) := by decide +kernel
theorem dJ1_indexOf_4cfef_33 : decode cJ1_indexOf_4cfef 33 = .ok (.invokestatic 95, 3) := by decide +kernel
theorem dJ1_indexOf_4cfef_36 : decode cJ1_indexOf_4cfef 36 = .ok (.ireturn, 1) := by decide +kernel
theorem dJ1_indexOfChar_4cfef_0 : decode cJ1_indexOfChar_4cfef 0 = .ok (.iload_n 1, 1) := by decide +kernel
theorem dJ1_indexOfChar_4cfef_1 : decode cJ1_indexOfChar_4cfef 1 = .ok (.i2b, 1) := by decide +kernel
theorem dJ1_indexOfChar_4cfef_2 : decode cJ1_indexOfChar_4cfef 2 = .ok (.istore 4, 2) := by decide +kernel
theorem dJ1_indexOfChar_4cfef_4 : decode cJ1_indexOfChar_4cfef 4 = .ok (.iload_n 2, 1) := by decide +kernel
theorem dJ1_indexOfChar_4cfef_5 : decode cJ1_indexOfChar_4cfef 5 = .ok (.istore 5, 2) := by decide +kernel
theorem dJ1_indexOfChar_4cfef_7 : decode cJ1_indexOfChar_4cfef 7 = .ok (.iload 5, 2) := by decide +kernel
theorem dJ1_indexOfChar_4cfef_9 : decode cJ1_indexOfChar_4cfef 9 = .ok (.iload_n 3, 1) := by decide +kernel
theorem dJ1_indexOfChar_4cfef_10 : decode cJ1_indexOfChar_4cfef 10 = .ok (.if_icmp .ge 21, 3) := by decide +kernel
theorem dJ1_indexOfChar_4cfef_13 : decode cJ1_indexOfChar_4cfef 13 = .ok (.aload_n 0, 1) := by decide +kernel
theorem dJ1_indexOfChar_4cfef_14 : decode cJ1_indexOfChar_4cfef 14 = .ok (.iload 5, 2) := by decide +kernel
theorem dJ1_indexOfChar_4cfef_16 : decode cJ1_indexOfChar_4cfef 16 = .ok (.baload, 1) := by decide +kernel
theorem dJ1_indexOfChar_4cfef_17 : decode cJ1_indexOfChar_4cfef 17 = .ok (.iload 4, 2) := by decide +kernel
theorem dJ1_indexOfChar_4cfef_19 : decode cJ1_indexOfChar_4cfef 19 = .ok (.if_icmp .ne 6, 3) := by decide +kernel
theorem dJ1_indexOfChar_4cfef_22 : decode cJ1_indexOfChar_4cfef 22 = .ok (.iload 5, 2) := by decide +kernel
theorem dJ1_indexOfChar_4cfef_24 : decode cJ1_indexOfChar_4cfef 24 = .ok (.ireturn, 1) := by decide +kernel
theorem dJ1_indexOfChar_4cfef_25 : decode cJ1_indexOfChar_4cfef 25 = .ok (.iinc 5 1, 3) := by decide +kernel
theorem dJ1_indexOfChar_4cfef_28 : decode cJ1_indexOfChar_4cfef 28 = .ok (.goto (-21), 3) := by decide +kernel
theorem dJ1_indexOfChar_4cfef_31 : decode cJ1_indexOfChar_4cfef 31 = .ok (.iconst (-1), 1) := by decide +kernel
theorem dJ1_indexOfChar_4cfef_32 : decode cJ1_indexOfChar_4cfef 32 = .ok (.ireturn, 1) := by decide +kernel
set_option maxRecDepth 20000 in
theorem ggJ2_getChar_3b067_J2_length_9d52b : GoodIn wsJ2_getChar_3b067 wsJ2_length_9d52b := goodIn_r _ [7] (by decide +kernel) (by decide +kernel)
set_option maxRecDepth 20000 in
theorem gJ2_getChar_3b067_J2_length_9d52b : GoodIn wsJ2_getChar_3b067 (va_wsS RJ2 48 yJ2_length_9d52b wsJ2_length_9d52b) := goodIn_app (goodIn_of _ (by decide +kernel)) ggJ2_getChar_3b067_J2_length_9d52b
theorem dJ2_getChar_3b067_0 : decode cJ2_getChar_3b067 0 = .ok (.getstatic 44, 3) := by decide +kernel
theorem dJ2_getChar_3b067_3 : decode cJ2_getChar_3b067 3 = .ok (.ifCond .ne 25, 3) := by decide +kernel
theorem dJ2_getChar_3b067_6 : decode cJ2_getChar_3b067 6 = .ok (.iload_n 1, 1) := by decide +kernel
theorem dJ2_getChar_3b067_7 : decode cJ2_getChar_3b067 7 = .ok (.ifCond .lt 11, 3) := by decide +kernel
theorem dJ2_getChar_3b067_10 : decode cJ2_getChar_3b067 10 = .ok (.iload_n 1, 1) := by decide +kernel
theorem dJ2_getChar_3b067_11 : decode cJ2_getChar_3b067 11 = .ok (.aload_n 0, 1) := by decide +kernel
theorem dJ2_getChar_3b067_12 : decode cJ2_getChar_3b067 12 = .ok (.invokestatic 48, 3) := by decide +kernel
theorem dJ2_getChar_3b067_15 : decode cJ2_getChar_3b067 15 = .ok (.if_icmp .lt 13, 3) := by decide +kernel
theorem dJ2_getChar_3b067_18 : decode cJ2_getChar_3b067 18 = .ok (.new 52, 3) := by decide +kernel
theorem dJ2_getChar_3b067_21 : decode cJ2_getChar_3b067 21 = .ok (.dup, 1) := by decide +kernel
theorem dJ2_getChar_3b067_22 : decode cJ2_getChar_3b067 22 = .ok (.ldc 54, 2) := by decide +kernel
theorem dJ2_getChar_3b067_24 : decode cJ2_getChar_3b067 24 = .ok (.invokespecial 56, 3) := by decide +kernel
theorem dJ2_getChar_3b067_27 : decode cJ2_getChar_3b067 27 = .ok (.athrow, 1) := by decide +kernel
theorem dJ2_getChar_3b067_28 : decode cJ2_getChar_3b067 28 = .ok (.iload_n 1, 1) := by decide +kernel
theorem dJ2_getChar_3b067_29 : decode cJ2_getChar_3b067 29 = .ok (.iconst 1, 1) := by decide +kernel
theorem dJ2_getChar_3b067_30 : decode cJ2_getChar_3b067 30 = .ok (.ishl, 1) := by decide +kernel
theorem dJ2_getChar_3b067_31 : decode cJ2_getChar_3b067 31 = .ok (.istore_n 1, 1) := by decide +kernel
theorem dJ2_getChar_3b067_32 : decode cJ2_getChar_3b067 32 = .ok (.aload_n 0, 1) := by decide +kernel
theorem dJ2_getChar_3b067_33 : decode cJ2_getChar_3b067 33 = .ok (.iload_n 1, 1) := by decide +kernel
theorem dJ2_getChar_3b067_34 : decode cJ2_getChar_3b067 34 = .ok (.iinc 1 1, 3) := by decide +kernel
theorem dJ2_getChar_3b067_37 : decode cJ2_getChar_3b067 37 = .ok (.baload, 1) := by decide +kernel
theorem dJ2_getChar_3b067_38 : decode cJ2_getChar_3b067 38 = .ok (.sipush 255, 3) := by decide +kernel
theorem dJ2_getChar_3b067_41 : decode cJ2_getChar_3b067 41 = .ok (.iand, 1) := by decide +kernel
theorem dJ2_getChar_3b067_42 : decode cJ2_getChar_3b067 42 = .ok (.getstatic 59, 3) := by decide +kernel
theorem dJ2_getChar_3b067_45 : decode cJ2_getChar_3b067 45 = .ok (.ishl, 1) := by decide +kernel
theorem dJ2_getChar_3b067_46 : decode cJ2_getChar_3b067 46 = .ok (.aload_n 0, 1) := by decide +kernel
theorem dJ2_getChar_3b067_47 : decode cJ2_getChar_3b067 47 = .ok (.iload_n 1, 1) := by decide +kernel
theorem dJ2_getChar_3b067_48 : decode cJ2_getChar_3b067 48 = .ok (.baload, 1) := by decide +kernel
theorem dJ2_getChar_3b067_49 : decode cJ2_getChar_3b067 49 = .ok (.sipush 255, 3) := by decide +kernel
theorem dJ2_getChar_3b067_52 : decode cJ2_getChar_3b067 52 = .ok (.iand, 1) := by decide +kernel
theorem dJ2_getChar_3b067_53 : decode cJ2_getChar_3b067 53 = .ok (.getstatic 63, 3) := by decide +kernel
theorem dJ2_getChar_3b067_56 : decode cJ2_getChar_3b067 56 = .ok (.ishl, 1) := by decide +kernel
theorem dJ2_getChar_3b067_57 : decode cJ2_getChar_3b067 57 = .ok (.ior, 1) := by decide +kernel
theorem dJ2_getChar_3b067_58 : decode cJ2_getChar_3b067 58 = .ok (.i2c, 1) := by decide +kernel
theorem dJ2_getChar_3b067_59 : decode cJ2_getChar_3b067 59 = .ok (.ireturn, 1) := by decide +kernel
theorem dJ2_length_9d52b_0 : decode cJ2_length_9d52b 0 = .ok (.aload_n 0, 1) := by decide +kernel
theorem dJ2_length_9d52b_1 : decode cJ2_length_9d52b 1 = .ok (.arraylength, 1) := by decide +kernel
theorem dJ2_length_9d52b_2 : decode cJ2_length_9d52b 2 = .ok (.iconst 1, 1) := by decide +kernel
theorem dJ2_length_9d52b_3 : decode cJ2_length_9d52b 3 = .ok (.ishr, 1) := by decide +kernel
theorem dJ2_length_9d52b_4 : decode cJ2_length_9d52b 4 = .ok (.ireturn, 1) := by decide +kernel
set_option maxRecDepth 20000 in
theorem ggJ2_indexOf_4cfef_J2_indexOfChar_4cfef : GoodIn wsJ2_indexOf_4cfef wsJ2_indexOfChar_4cfef := goodIn_r _ [12, 13, 14, 11, 15, 16, 17, 18, 19, 20, 21, 22, 23, 24, 25, 26, 27, 28, 29, 30, 31, 32, 33, 34, 35, 36] (by decide +kernel) (by decide +kernel)
set_option maxRecDepth 20000 in
theorem gJ2_indexOf_4cfef_J2_indexOfChar_4cfef : GoodIn wsJ2_indexOf_4cfef (va_wsS RJ2 228 yJ2_indexOfChar_4cfef wsJ2_indexOfChar_4cfef) := goodIn_app (goodIn_of _ (by decide +kernel)) ggJ2_indexOf_4cfef_J2_indexOfChar_4cfef
set_option maxRecDepth 20000 in
theorem ggJ2_indexOf_4cfef_J2_indexOfSupplementary_4cfef : GoodIn wsJ2_indexOf_4cfef wsJ2_indexOfSupplementary_4cfef := goodIn_r _ [39, 40, 41, 42, 43, 44, 45, 46, 47, 48, 49, 50, 51, 13, 14, 11, 15, 16, 17, 18, 19, 20, 21, 22, 23, 24, 25, 26, 27, 31, 32, 33, 34, 35, 36] (by decide +kernel) (by decide +kernel)
set_option maxRecDepth 20000 in
theorem gJ2_indexOf_4cfef_J2_indexOfSupplementary_4cfef : GoodIn wsJ2_indexOf_4cfef (va_wsS RJ2 232 yJ2_indexOfSupplementary_4cfef wsJ2_indexOfSupplementary_4cfef) := goodIn_app (goodIn_of _ (by decide +kernel)) ggJ2_indexOf_4cfef_J2_indexOfSupplementary_4cfef
theorem dJ2_indexOf_4cfef_0 : decode cJ2_indexOf_4cfef 0 = .ok (.iload_n 2, 1) := by decide +kernel
theorem dJ2_indexOf_4cfef_1 : decode cJ2_indexOf_4cfef 1 = .ok (.iconst 0, 1) := by decide +kernel
theorem dJ2_indexOf_4cfef_2 : decode cJ2_indexOf_4cfef 2 = .ok (.invokestatic 224, 3) := by decide +kernel
theorem dJ2_indexOf_4cfef_5 : decode cJ2_indexOf_4cfef 5 = .ok (.istore_n 2, 1) := by decide +kernel
theorem dJ2_indexOf_4cfef_6 : decode cJ2_indexOf_4cfef 6 = .ok (.iload_n 3, 1) := by decide +kernel
theorem dJ2_indexOf_4cfef_7 : decode cJ2_indexOf_4cfef 7 = .ok (.aload_n 0, 1) := by decide +kernel
theorem dJ2_indexOf_4cfef_8 : decode cJ2_indexOf_4cfef 8 = .ok (.arraylength, 1) := by decide +kernel
theorem dJ2_indexOf_4cfef_9 : decode cJ2_indexOf_4cfef 9 = .ok (.iconst 1, 1) := by decide +kernel
theorem dJ2_indexOf_4cfef_10 : decode cJ2_indexOf_4cfef 10 = .ok (.ishr, 1) := by decide +kernel
theorem dJ2_indexOf_4cfef_11 : decode cJ2_indexOf_4cfef 11 = .ok (.invokestatic 183, 3) := by decide +kernel
theorem dJ2_indexOf_4cfef_14 : decode cJ2_indexOf_4cfef 14 = .ok (.istore_n 3, 1) := by decide +kernel
theorem dJ2_indexOf_4cfef_15 : decode cJ2_indexOf_4cfef 15 = .ok (.iload_n 2, 1) := by decide +kernel
theorem dJ2_indexOf_4cfef_16 : decode cJ2_indexOf_4cfef 16 = .ok (.iload_n 3, 1) := by decide +kernel
theorem dJ2_indexOf_4cfef_17 : decode cJ2_indexOf_4cfef 17 = .ok (.if_icmp .lt 5, 3) := by decide +kernel
theorem dJ2_indexOf_4cfef_20 : decode cJ2_indexOf_4cfef 20 = .ok (.iconst (-1), 1) := by decide +kernel
theorem dJ2_indexOf_4cfef_21 : decode cJ2_indexOf_4cfef 21 = .ok (.ireturn, 1) := by decide +kernel
theorem dJ2_indexOf_4cfef_22 : decode cJ2_indexOf_4cfef 22 = .ok (.iload_n 1, 1) := by decide +kernel
theorem dJ2_indexOf_4cfef_23 : decode cJ2_indexOf_4cfef 23 = .ok (.ldc 227, 2) := by decide +kernel
theorem dJ2_indexOf_4cfef_25 : decode cJ2_indexOf_4cfef 25 = .ok (.if_icmp .ge 11, 3) := by decide +kernel
theorem dJ2_indexOf_4cfef_28 : decode cJ2_indexOf_4cfef 28 = .ok (.aload_n 0, 1) := by decide +kernel
theorem dJ2_indexOf_4cfef_29 : decode cJ2_indexOf_4cfef 29 = .ok (.iload_n 1, 1) := by decide +kernel
theorem dJ2_indexOf_4cfef_30 : decode cJ2_indexOf_4cfef 30 = .ok (.iload_n 2, 1) := by decide +kernel
theorem dJ2_indexOf_4cfef_31 : decode cJ2_indexOf_4cfef 31 = .ok (.iload_n 3, 1) := by decide +kernel
theorem dJ2_indexOf_4cfef_32 : decode cJ2_indexOf_4cfef 32 = .ok (.invokestatic 228, 3) := by decide +kernel
theorem dJ2_indexOf_4cfef_35 : decode cJ2_indexOf_4cfef 35 = .ok (.ireturn, 1) := by decide +kernel
theorem dJ2_indexOf_4cfef_36 : decode cJ2_indexOf_4cfef 36 = .ok (.aload_n 0, 1) := by decide +kernel
theorem dJ2_indexOf_4cfef_37 : decode cJ2_indexOf_4cfef 37 = .ok (.iload_n 1, 1) := by decide +kernel
theorem dJ2_indexOf_4cfef_38 : decode cJ2_indexOf_4cfef 38 = .ok (.iload_n 2, 1) := by decide +kernel
theorem dJ2_indexOf_4cfef_39 : decode cJ2_indexOf_4cfef 39 = .ok (.iload_n 3, 1) := by decide +kernel
theorem dJ2_indexOf_4cfef_40 : decode cJ2_indexOf_4cfef 40 = .ok (.invokestatic 232, 3) := by decide +kernel
theorem dJ2_indexOf_4cfef_43 : decode cJ2_indexOf_4cfef 43 = .ok (.ireturn, 1) := by decide +kernel
set_option maxRecDepth 20000 in
theorem ggJ2_indexOfChar_4cfef_J2_checkBoundsBeginEnd_d044e : GoodIn wsJ2_indexOfChar_4cfef wsJ2_checkBoundsBeginEnd_d044e := goodIn_r _ [4, 5, 6, 3, 7, 8, 9, 10, 11, 12, 13, 14, 15, 16] (by decide +kernel) (by decide +kernel)
set_option maxRecDepth 20000 in
theorem gJ2_indexOfChar_4cfef_J2_checkBoundsBeginEnd_d044e : GoodIn wsJ2_indexOfChar_4cfef (va_wsS RJ2 96 yJ2_checkBoundsBeginEnd_d044e wsJ2_checkBoundsBeginEnd_d044e) := goodIn_app (goodIn_of _ (by decide +kernel)) ggJ2_indexOfChar_4cfef_J2_checkBoundsBeginEnd_d044e
set_option maxRecDepth 20000 in
theorem ggJ2_indexOfChar_4cfef_J2_indexOfCharUnsafe_4cfef : GoodIn wsJ2_indexOfChar_4cfef wsJ2_indexOfCharUnsafe_4cfef := goodIn_r _ [19, 20, 21, 3, 22, 23, 24, 25, 5, 6, 7] (by decide +kernel) (by decide +kernel)
set_option maxRecDepth 20000 in
theorem gJ2_indexOfChar_4cfef_J2_indexOfCharUnsafe_4cfef : GoodIn wsJ2_indexOfChar_4cfef (va_wsS RJ2 244 yJ2_indexOfCharUnsafe_4cfef wsJ2_indexOfCharUnsafe_4cfef) := goodIn_app (goodIn_of _ (by decide +kernel)) ggJ2_indexOfChar_4cfef_J2_indexOfCharUnsafe_4cfef
theorem dJ2_indexOfChar_4cfef_0 : decode cJ2_indexOfChar_4cfef 0 = .ok (.iload_n 2, 1) := by decide +kernel
theorem dJ2_indexOfChar_4cfef_1 : decode cJ2_indexOfChar_4cfef 1 = .ok (.iload_n 3, 1) := by decide +kernel
theorem dJ2_indexOfChar_4cfef_2 : decode cJ2_indexOfChar_4cfef 2 = .ok (.aload_n 0, 1) := by decide +kernel
theorem dJ2_indexOfChar_4cfef_3 : decode cJ2_indexOfChar_4cfef 3 = .ok (.invokestatic 96, 3) := by decide +kernel
theorem dJ2_indexOfChar_4cfef_6 : decode cJ2_indexOfChar_4cfef 6 = .ok (.aload_n 0, 1) := by decide +kernel
theorem dJ2_indexOfChar_4cfef_7 : decode cJ2_indexOfChar_4cfef 7 = .ok (.iload_n 1, 1) := by decide +kernel
theorem dJ2_indexOfChar_4cfef_8 : decode cJ2_indexOfChar_4cfef 8 = .ok (.iload_n 2, 1) := by decide +kernel
theorem dJ2_indexOfChar_4cfef_9 : decode cJ2_indexOfChar_4cfef 9 = .ok (.iload_n 3, 1) := by decide +kernel
theorem dJ2_indexOfChar_4cfef_10 : decode cJ2_indexOfChar_4cfef 10 = .ok (.invokestatic 244, 3) := by decide +kernel
theorem dJ2_indexOfChar_4cfef_13 : decode cJ2_indexOfChar_4cfef 13 = .ok (.ireturn, 1) := by decide +kernel
set_option maxRecDepth 20000 in
theorem ggJ2_indexOfCharUnsafe_4cfef_J2_getChar_3b067 : GoodIn wsJ2_indexOfCharUnsafe_4cfef wsJ2_getChar_3b067 := goodIn_r _ [4, 5, 6, 7, 8, 9, 3, 10] (by decide +kernel) (by decide +kernel)
set_option maxRecDepth 20000 in
theorem gJ2_indexOfCharUnsafe_4cfef_J2_getChar_3b067 : GoodIn wsJ2_indexOfCharUnsafe_4cfef (va_wsS RJ2 71 yJ2_getChar_3b067 wsJ2_getChar_3b067) := goodIn_app (goodIn_of _ (by decide +kernel)) ggJ2_indexOfCharUnsafe_4cfef_J2_getChar_3b067
theorem dJ2_indexOfCharUnsafe_4cfef_0 : decode cJ2_indexOfCharUnsafe_4cfef 0 = .ok (.iload_n 2, 1) := by decide +kernel
theorem dJ2_indexOfCharUnsafe_4cfef_1 : decode cJ2_indexOfCharUnsafe_4cfef 1 = .ok (.istore 4, 2) := by decide +kernel
theorem dJ2_indexOfCharUnsafe_4cfef_3 : decode cJ2_indexOfCharUnsafe_4cfef 3 = .ok (.iload 4, 2) := by decide +kernel
theorem dJ2_indexOfCharUnsafe_4cfef_5 : decode cJ2_indexOfCharUnsafe_4cfef 5 = .ok (.iload_n 3, 1) := by decide +kernel
theorem dJ2_indexOfCharUnsafe_4cfef_6 : decode cJ2_indexOfCharUnsafe_4cfef 6 = .ok (.if_icmp .ge 22, 3) := by decide +kernel
theorem dJ2_indexOfCharUnsafe_4cfef_9 : decode cJ2_indexOfCharUnsafe_4cfef 9 = .ok (.aload_n 0, 1) := by decide +kernel
theorem dJ2_indexOfCharUnsafe_4cfef_10 : decode cJ2_indexOfCharUnsafe_4cfef 10 = .ok (.iload 4, 2) := by decide +kernel
theorem dJ2_indexOfCharUnsafe_4cfef_12 : decode cJ2_indexOfCharUnsafe_4cfef 12 = .ok (.invokestatic 71, 3) := by decide +kernel
theorem dJ2_indexOfCharUnsafe_4cfef_15 : decode cJ2_indexOfCharUnsafe_4cfef 15 = .ok (.iload_n 1, 1) := by decide +kernel
theorem dJ2_indexOfCharUnsafe_4cfef_16 : decode cJ2_indexOfCharUnsafe_4cfef 16 = .ok (.if_icmp .ne 6, 3) := by decide +kernel
theorem dJ2_indexOfCharUnsafe_4cfef_19 : decode cJ2_indexOfCharUnsafe_4cfef 19 = .ok (.iload 4, 2) := by decide +kernel
theorem dJ2_indexOfCharUnsafe_4cfef_21 : decode cJ2_indexOfCharUnsafe_4cfef 21 = .ok (.ireturn, 1) := by decide +kernel
theorem dJ2_indexOfCharUnsafe_4cfef_22 : decode cJ2_indexOfCharUnsafe_4cfef 22 = .ok (.iinc 4 1, 3) := by decide +kernel
theorem dJ2_indexOfCharUnsafe_4cfef_25 : decode cJ2_indexOfCharUnsafe_4cfef 25 = .ok (.goto (-22), 3) := by decide +kernel
theorem dJ2_indexOfCharUnsafe_4cfef_28 : decode cJ2_indexOfCharUnsafe_4cfef 28 = .ok (.iconst (-1), 1) := by decide +kernel
theorem dJ2_indexOfCharUnsafe_4cfef_29 : decode cJ2_indexOfCharUnsafe_4cfef 29 = .ok (.ireturn, 1) := by decide +kernel
set_option maxRecDepth 20000 in
theorem ggJ2_indexOfSupplementary_4cfef_J11_isValidCodePoint_9a6ad : GoodIn wsJ2_indexOfSupplementary_4cfef wsJ11_isValidCodePoint_9a6ad := goodIn_r _ [4] (by decide +kernel) (by decide +kernel)
set_option maxRecDepth 20000 in
theorem gJ2_indexOfSupplementary_4cfef_J11_isValidCodePoint_9a6ad : GoodIn wsJ2_indexOfSupplementary_4cfef (va_wsS RJ2 164 yJ11_isValidCodePoint_9a6ad wsJ11_isValidCodePoint_9a6ad) := goodIn_app (goodIn_of _ (by decide +kernel)) ggJ2_indexOfSupplementary_4cfef_J11_isValidCodePoint_9a6ad
set_option maxRecDepth 20000 in
theorem ggJ2_indexOfSupplementary_4cfef_J11_highSurrogate_5068e : GoodIn wsJ2_indexOfSupplementary_4cfef wsJ11_highSurrogate_5068e := goodIn_r _ [7, 8] (by decide +kernel) (by decide +kernel)
set_option maxRecDepth 20000 in
theorem gJ2_indexOfSupplementary_4cfef_J11_highSurrogate_5068e : GoodIn wsJ2_indexOfSupplementary_4cfef (va_wsS RJ2 157 yJ11_highSurrogate_5068e wsJ11_highSurrogate_5068e) := goodIn_app (goodIn_of _ (by decide +kernel)) ggJ2_indexOfSupplementary_4cfef_J11_highSurrogate_5068e
set_option maxRecDepth 20000 in
theorem ggJ2_indexOfSupplementary_4cfef_J11_lowSurrogate_5068e : GoodIn wsJ2_indexOfSupplementary_4cfef wsJ11_lowSurrogate_5068e := goodIn_r _ [11, 12] (by decide +kernel) (by decide +kernel)
set_option maxRecDepth 20000 in
theorem gJ2_indexOfSupplementary_4cfef_J11_lowSurrogate_5068e : GoodIn wsJ2_indexOfSupplementary_4cfef (va_wsS RJ2 161 yJ11_lowSurrogate_5068e wsJ11_lowSurrogate_5068e) := goodIn_app (goodIn_of _ (by decide +kernel)) ggJ2_indexOfSupplementary_4cfef_J11_lowSurrogate_5068e
set_option maxRecDepth 20000 in
theorem ggJ2_indexOfSupplementary_4cfef_J2_checkBoundsBeginEnd_d044e : GoodIn wsJ2_indexOfSupplementary_4cfef wsJ2_checkBoundsBeginEnd_d044e := goodIn_r _ [16, 17, 18, 15, 19, 20, 21, 22, 23, 24, 25, 26, 27, 28] (by decide +kernel) (by decide +kernel)
set_option maxRecDepth 20000 in
theorem gJ2_indexOfSupplementary_4cfef_J2_checkBoundsBeginEnd_d044e : GoodIn wsJ2_indexOfSupplementary_4cfef (va_wsS RJ2 96 yJ2_checkBoundsBeginEnd_d044e wsJ2_checkBoundsBeginEnd_d044e) := goodIn_app (goodIn_of _ (by decide +kernel)) ggJ2_indexOfSupplementary_4cfef_J2_checkBoundsBeginEnd_d044e
set_option maxRecDepth 20000 in
theorem ggJ2_indexOfSupplementary_4cfef_J2_getChar_3b067 : GoodIn wsJ2_indexOfSupplementary_4cfef wsJ2_getChar_3b067 := goodIn_r _ [31, 32, 33, 34, 17, 18, 15, 19] (by decide +kernel) (by decide +kernel)
set_option maxRecDepth 20000 in
theorem gJ2_indexOfSupplementary_4cfef_J2_getChar_3b067 : GoodIn wsJ2_indexOfSupplementary_4cfef (va_wsS RJ2 71 yJ2_getChar_3b067 wsJ2_getChar_3b067) := goodIn_app (goodIn_of _ (by decide +kernel)) ggJ2_indexOfSupplementary_4cfef_J2_getChar_3b067
theorem dJ2_indexOfSupplementary_4cfef_0 : decode cJ2_indexOfSupplementary_4cfef 0 = .ok (.iload_n 1, 1) := by decide +kernel
theorem dJ2_indexOfSupplementary_4cfef_1 : decode cJ2_indexOfSupplementary_4cfef 1 = .ok (.invokestatic 164, 3) := by decide +kernel
theorem dJ2_indexOfSupplementary_4cfef_4 : decode cJ2_indexOfSupplementary_4cfef 4 = .ok (.ifCond .eq 65, 3) := by decide +kernel
theorem dJ2_indexOfSupplementary_4cfef_7 : decode cJ2_indexOfSupplementary_4cfef 7 = .ok (.iload_n 1, 1) := by decide +kernel
theorem dJ2_indexOfSupplementary_4cfef_8 : decode cJ2_indexOfSupplementary_4cfef 8 = .ok (.invokestatic 157, 3) := by decide +kernel
theorem dJ2_indexOfSupplementary_4cfef_11 : decode cJ2_indexOfSupplementary_4cfef 11 = .ok (.istore 4, 2) := by decide +kernel
theorem dJ2_indexOfSupplementary_4cfef_13 : decode cJ2_indexOfSupplementary_4cfef 13 = .ok (.iload_n 1, 1) := by decide +kernel
theorem dJ2_indexOfSupplementary_4cfef_14 : decode cJ2_indexOfSupplementary_4cfef 14 = .ok (.invokestatic 161, 3) := by decide +kernel
theorem dJ2_indexOfSupplementary_4cfef_17 : decode cJ2_indexOfSupplementary_4cfef 17 = .ok (.istore 5, 2) := by decide +kernel
theorem dJ2_indexOfSupplementary_4cfef_19 : decode cJ2_indexOfSupplementary_4cfef 19 = .ok (.iload_n 2, 1) := by decide +kernel
theorem dJ2_indexOfSupplementary_4cfef_20 : decode cJ2_indexOfSupplementary_4cfef 20 = .ok (.iload_n 3, 1) := by decide +kernel
theorem dJ2_indexOfSupplementary_4cfef_21 : decode cJ2_indexOfSupplementary_4cfef 21 = .ok (.aload_n 0, 1) := by decide +kernel
theorem dJ2_indexOfSupplementary_4cfef_22 : decode cJ2_indexOfSupplementary_4cfef 22 = .ok (.invokestatic 96, 3) := by decide +kernel
theorem dJ2_indexOfSupplementary_4cfef_25 : decode cJ2_indexOfSupplementary_4cfef 25 = .ok (.iload_n 2, 1) := by decide +kernel
theorem dJ2_indexOfSupplementary_4cfef_26 : decode cJ2_indexOfSupplementary_4cfef 26 = .ok (.istore 6, 2) := by decide +kernel
theorem dJ2_indexOfSupplementary_4cfef_28 : decode cJ2_indexOfSupplementary_4cfef 28 = .ok (.iload 6, 2) := by decide +kernel
theorem dJ2_indexOfSupplementary_4cfef_30 : decode cJ2_indexOfSupplementary_4cfef 30 = .ok (.iload_n 3, 1) := by decide +kernel
theorem dJ2_indexOfSupplementary_4cfef_31 : decode cJ2_indexOfSupplementary_4cfef 31 = .ok (.iconst 1, 1) := by decide +kernel
theorem dJ2_indexOfSupplementary_4cfef_32 : decode cJ2_indexOfSupplementary_4cfef 32 = .ok (.isub, 1) := by decide +kernel
theorem dJ2_indexOfSupplementary_4cfef_33 : decode cJ2_indexOfSupplementary_4cfef 33 = .ok (.if_icmp .ge 36, 3) := by decide +kernel
theorem dJ2_indexOfSupplementary_4cfef_36 : decode cJ2_indexOfSupplementary_4cfef 36 = .ok (.aload_n 0, 1) := by decide +kernel
theorem dJ2_indexOfSupplementary_4cfef_37 : decode cJ2_indexOfSupplementary_4cfef 37 = .ok (.iload 6, 2) := by decide +kernel
theorem dJ2_indexOfSupplementary_4cfef_39 : decode cJ2_indexOfSupplementary_4cfef 39 = .ok (.invokestatic 71, 3) := by decide +kernel
theorem dJ2_indexOfSupplementary_4cfef_42 : decode cJ2_indexOfSupplementary_4cfef 42 = .ok (.iload 4, 2) := by decide +kernel
theorem dJ2_indexOfSupplementary_4cfef_44 : decode cJ2_indexOfSupplementary_4cfef 44 = .ok (.if_icmp .ne 19, 3) := by decide +kernel
theorem dJ2_indexOfSupplementary_4cfef_47 : decode cJ2_indexOfSupplementary_4cfef 47 = .ok (.aload_n 0, 1) := by decide +kernel
theorem dJ2_indexOfSupplementary_4cfef_48 : decode cJ2_indexOfSupplementary_4cfef 48 = .ok (.iload 6, 2) := by decide +kernel
theorem dJ2_indexOfSupplementary_4cfef_50 : decode cJ2_indexOfSupplementary_4cfef 50 = .ok (.iconst 1, 1) := by decide +kernel
theorem dJ2_indexOfSupplementary_4cfef_51 : decode cJ2_indexOfSupplementary_4cfef 51 = .ok (.iadd, 1) := by decide +kernel
theorem dJ2_indexOfSupplementary_4cfef_52 : decode cJ2_indexOfSupplementary_4cfef 52 = .ok (.invokestatic 71, 3) := by decide +kernel
theorem dJ2_indexOfSupplementary_4cfef_55 : decode cJ2_indexOfSupplementary_4cfef 55 = .ok (.iload 5, 2) := by decide +kernel
theorem dJ2_indexOfSupplementary_4cfef_57 : decode cJ2_indexOfSupplementary_4cfef 57 = .ok (.if_icmp .ne 6, 3) := by decide +kernel
theorem dJ2_indexOfSupplementary_4cfef_60 : decode cJ2_indexOfSupplementary_4cfef 60 = .ok (.iload 6, 2) := by decide +kernel
theorem dJ2_indexOfSupplementary_4cfef_62 : decode cJ2_indexOfSupplementary_4cfef 62 = .ok (.ireturn, 1) := by decide +kernel
theorem dJ2_indexOfSupplementary_4cfef_63 : decode cJ2_indexOfSupplementary_4cfef 63 = .ok (.iinc 6 1, 3) := by decide +kernel
theorem dJ2_indexOfSupplementary_4cfef_66 : decode cJ2_indexOfSupplementary_4cfef 66 = .ok (.goto (-38), 3) := by decide +kernel
theorem dJ2_indexOfSupplementary_4cfef_69 : decode cJ2_indexOfSupplementary_4cfef 69 = .ok (.iconst (-1), 1) := by decide +kernel
theorem dJ2_indexOfSupplementary_4cfef_70 : decode cJ2_indexOfSupplementary_4cfef 70 = .ok (.ireturn, 1) := by decide +kernel
set_option maxRecDepth 20000 in
theorem ggJ2_checkBoundsBeginEnd_d044e_J2_length_9d52b : GoodIn wsJ2_checkBoundsBeginEnd_d044e wsJ2_length_9d52b := goodIn_r _ [4] (by decide +kernel) (by decide +kernel)
set_option maxRecDepth 20000 in
theorem gJ2_checkBoundsBeginEnd_d044e_J2_length_9d52b : GoodIn wsJ2_checkBoundsBeginEnd_d044e (va_wsS RJ2 48 yJ2_length_9d52b wsJ2_length_9d52b) := goodIn_app (goodIn_of _ (by decide +kernel)) ggJ2_checkBoundsBeginEnd_d044e_J2_length_9d52b
set_option maxRecDepth 20000 in
theorem ggJ2_checkBoundsBeginEnd_d044e_J0_checkBoundsBeginEnd_23922 : GoodIn wsJ2_checkBoundsBeginEnd_d044e wsJ0_checkBoundsBeginEnd_23922 := goodIn_r _ [8, 9, 10, 11, 12, 13] (by decide +kernel) (by decide +kernel)
set_option maxRecDepth 20000 in
theorem gJ2_checkBoundsBeginEnd_d044e_J0_checkBoundsBeginEnd_23922 : GoodIn wsJ2_checkBoundsBeginEnd_d044e (va_wsS RJ2 241 yJ0_checkBoundsBeginEnd_23922 wsJ0_checkBoundsBeginEnd_23922) := goodIn_app (goodIn_of _ (by decide +kernel)) ggJ2_checkBoundsBeginEnd_d044e_J0_checkBoundsBeginEnd_23922
theorem dJ2_checkBoundsBeginEnd_d044e_0 : decode cJ2_checkBoundsBeginEnd_d044e 0 = .ok (.iload_n 0, 1) := by decide +kernel
theorem dJ2_checkBoundsBeginEnd_d044e_1 : decode cJ2_checkBoundsBeginEnd_d044e 1 = .ok (.iload_n 1, 1) := by decide +kernel
theorem dJ2_checkBoundsBeginEnd_d044e_2 : decode cJ2_checkBoundsBeginEnd_d044e 2 = .ok (.aload_n 2, 1) := by decide +kernel
theorem dJ2_checkBoundsBeginEnd_d044e_3 : decode cJ2_checkBoundsBeginEnd_d044e 3 = .ok (.invokestatic 48, 3) := by decide +kernel
theorem dJ2_checkBoundsBeginEnd_d044e_6 : decode cJ2_checkBoundsBeginEnd_d044e 6 = .ok (.invokestatic 241, 3) := by decide +kernel
theorem dJ2_checkBoundsBeginEnd_d044e_9 : decode cJ2_checkBoundsBeginEnd_d044e 9 = .ok (.return_, 1) := by decide +kernel
theorem dJ7_fill_53178_0 : decode cJ7_fill_53178 0 = .ok (.iconst 0, 1) := by decide +kernel
theorem dJ7_fill_53178_1 : decode cJ7_fill_53178 1 = .ok (.istore_n 2, 1) := by decide +kernel
theorem dJ7_fill_53178_2 : decode cJ7_fill_53178 2 = .ok (.aload_n 0, 1) := by decide +kernel
theorem dJ7_fill_53178_3 : decode cJ7_fill_53178 3 = .ok (.arraylength, 1) := by decide +kernel
theorem dJ7_fill_53178_4 : decode cJ7_fill_53178 4 = .ok (.istore_n 3, 1) := by decide +kernel
theorem dJ7_fill_53178_5 : decode cJ7_fill_53178 5 = .ok (.iload_n 2, 1) := by decide +kernel
theorem dJ7_fill_53178_6 : decode cJ7_fill_53178 6 = .ok (.iload_n 3, 1) := by decide +kernel
theorem dJ7_fill_53178_7 : decode cJ7_fill_53178 7 = .ok (.if_icmp .ge 13, 3) := by decide +kernel
theorem dJ7_fill_53178_10 : decode cJ7_fill_53178 10 = .ok (.aload_n 0, 1) := by decide +kernel
theorem dJ7_fill_53178_11 : decode cJ7_fill_53178 11 = .ok (.iload_n 2, 1) := by decide +kernel
theorem dJ7_fill_53178_12 : decode cJ7_fill_53178 12 = .ok (.iload_n 1, 1) := by decide +kernel
theorem dJ7_fill_53178_13 : decode cJ7_fill_53178 13 = .ok (.iastore, 1) := by decide +kernel
theorem dJ7_fill_53178_14 : decode cJ7_fill_53178 14 = .ok (.iinc 2 1, 3) := by decide +kernel
theorem dJ7_fill_53178_17 : decode cJ7_fill_53178 17 = .ok (.goto (-12), 3) := by decide +kernel
theorem dJ7_fill_53178_20 : decode cJ7_fill_53178 20 = .ok (.return_, 1) := by decide +kernel
theorem dJ3_checkFromToIndex_8c36e_0 : decode cJ3_checkFromToIndex_8c36e 0 = .ok (.iload_n 0, 1) := by decide +kernel
theorem dJ3_checkFromToIndex_8c36e_1 : decode cJ3_checkFromToIndex_8c36e 1 = .ok (.ifCond .lt 13, 3) := by decide +kernel
theorem dJ3_checkFromToIndex_8c36e_4 : decode cJ3_checkFromToIndex_8c36e 4 = .ok (.iload_n 0, 1) := by decide +kernel
theorem dJ3_checkFromToIndex_8c36e_5 : decode cJ3_checkFromToIndex_8c36e 5 = .ok (.iload_n 1, 1) := by decide +kernel
theorem dJ3_checkFromToIndex_8c36e_6 : decode cJ3_checkFromToIndex_8c36e 6 = .ok (.if_icmp .gt 8, 3) := by decide +kernel
theorem dJ3_checkFromToIndex_8c36e_9 : decode cJ3_checkFromToIndex_8c36e 9 = .ok (.iload_n 1, 1) := by decide +kernel
theorem dJ3_checkFromToIndex_8c36e_10 : decode cJ3_checkFromToIndex_8c36e 10 = .ok (.iload_n 2, 1) := by decide +kernel
theorem dJ3_checkFromToIndex_8c36e_11 : decode cJ3_checkFromToIndex_8c36e 11 = .ok (.if_icmp .le 11, 3) := by decide +kernel
theorem dJ3_checkFromToIndex_8c36e_14 : decode cJ3_checkFromToIndex_8c36e 14 = .ok (.aload_n 3, 1) := by decide +kernel
theorem dJ3_checkFromToIndex_8c36e_15 : decode cJ3_checkFromToIndex_8c36e 15 = .ok (.iload_n 0, 1) := by decide +kernel
theorem dJ3_checkFromToIndex_8c36e_16 : decode cJ3_checkFromToIndex_8c36e 16 = .ok (.iload_n 1, 1) := by decide +kernel
theorem dJ3_checkFromToIndex_8c36e_17 : decode cJ3_checkFromToIndex_8c36e 17 = .ok (.iload_n 2, 1) := by decide +kernel
theorem dJ3_checkFromToIndex_8c36e_18 : decode cJ3_checkFromToIndex_8c36e 18 = .ok (.invokestatic 99, 3) := by decide +kernel
theorem dJ3_checkFromToIndex_8c36e_21 : decode cJ3_checkFromToIndex_8c36e 21 = .ok (.athrow, 1) := by decide +kernel
theorem dJ3_checkFromToIndex_8c36e_22 : decode cJ3_checkFromToIndex_8c36e 22 = .ok (.iload_n 0, 1) := by decide +kernel
theorem dJ3_checkFromToIndex_8c36e_23 : decode cJ3_checkFromToIndex_8c36e 23 = .ok (.ireturn, 1) := by decide +kernel
abbrev vwCl : List vw_C := [(RX0, TX0, 2), (RX1, TX1, 2), (RX2, TX2, 3), (RX3, TX3, 3), (RX4, TX4, 1), (RX5, TX5, 6), (RX6, TX6, 6), (RX7, TX7, 2), (RX8, TX8, 5), (RX9, TX9, 7), (RX10, TX10, 7), (RX11, TX11, 17)]

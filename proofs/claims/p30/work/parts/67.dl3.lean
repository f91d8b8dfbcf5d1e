-- the law's instructions
set_option maxRecDepth 100000 in
theorem dL_areDoors_457 : decode cL_areDoors 457 = .ok (.invokevirtual 13, 3) := by decide +kernel
set_option maxRecDepth 100000 in
theorem dL_areDoors_460 : decode cL_areDoors 460 = .ok (.if_icmp .ne 65, 3) := by decide +kernel
set_option maxRecDepth 100000 in
theorem dL_areDoors_463 : decode cL_areDoors 463 = .ok (.iload 7, 2) := by decide +kernel
set_option maxRecDepth 100000 in
theorem dL_areDoors_465 : decode cL_areDoors 465 = .ok (.aload_n 0, 1) := by decide +kernel
set_option maxRecDepth 100000 in
theorem dL_areDoors_466 : decode cL_areDoors 466 = .ok (.iconst 5, 1) := by decide +kernel
set_option maxRecDepth 100000 in
theorem dL_areDoors_467 : decode cL_areDoors 467 = .ok (.invokevirtual 13, 3) := by decide +kernel
set_option maxRecDepth 100000 in
theorem dL_areDoors_470 : decode cL_areDoors 470 = .ok (.if_icmp .ne 55, 3) := by decide +kernel
set_option maxRecDepth 100000 in
theorem dL_areDoors_473 : decode cL_areDoors 473 = .ok (.aload_n 0, 1) := by decide +kernel
set_option maxRecDepth 100000 in
theorem dL_areDoors_474 : decode cL_areDoors 474 = .ok (.bipush 6, 2) := by decide +kernel
set_option maxRecDepth 100000 in
theorem dL_areDoors_476 : decode cL_areDoors 476 = .ok (.invokevirtual 13, 3) := by decide +kernel
set_option maxRecDepth 100000 in
theorem dL_areDoors_479 : decode cL_areDoors 479 = .ok (.aload_n 0, 1) := by decide +kernel
set_option maxRecDepth 100000 in
theorem dL_areDoors_480 : decode cL_areDoors 480 = .ok (.iconst 4, 1) := by decide +kernel
set_option maxRecDepth 100000 in
theorem dL_areDoors_481 : decode cL_areDoors 481 = .ok (.invokevirtual 13, 3) := by decide +kernel
set_option maxRecDepth 100000 in
theorem dL_areDoors_484 : decode cL_areDoors 484 = .ok (.iload_n 2, 1) := by decide +kernel
set_option maxRecDepth 100000 in
theorem dL_areDoors_485 : decode cL_areDoors 485 = .ok (.isub, 1) := by decide +kernel
set_option maxRecDepth 100000 in
theorem dL_areDoors_486 : decode cL_areDoors 486 = .ok (.iload 7, 2) := by decide +kernel
set_option maxRecDepth 100000 in
theorem dL_areDoors_488 : decode cL_areDoors 488 = .ok (.iadd, 1) := by decide +kernel
set_option maxRecDepth 100000 in
theorem dL_areDoors_489 : decode cL_areDoors 489 = .ok (.if_icmp .ne 36, 3) := by decide +kernel
set_option maxRecDepth 100000 in
theorem dL_areDoors_492 : decode cL_areDoors 492 = .ok (.aload_n 0, 1) := by decide +kernel
set_option maxRecDepth 100000 in
theorem dL_areDoors_493 : decode cL_areDoors 493 = .ok (.bipush 7, 2) := by decide +kernel
set_option maxRecDepth 100000 in
theorem dL_areDoors_495 : decode cL_areDoors 495 = .ok (.invokevirtual 13, 3) := by decide +kernel
set_option maxRecDepth 100000 in
theorem dL_areDoors_498 : decode cL_areDoors 498 = .ok (.iload 7, 2) := by decide +kernel
set_option maxRecDepth 100000 in
theorem dL_areDoors_500 : decode cL_areDoors 500 = .ok (.iconst 1, 1) := by decide +kernel
set_option maxRecDepth 100000 in
theorem dL_areDoors_501 : decode cL_areDoors 501 = .ok (.if_icmp .ne 16, 3) := by decide +kernel
set_option maxRecDepth 100000 in
theorem dL_areDoors_504 : decode cL_areDoors 504 = .ok (.aload_n 0, 1) := by decide +kernel
set_option maxRecDepth 100000 in
theorem dL_areDoors_505 : decode cL_areDoors 505 = .ok (.bipush 6, 2) := by decide +kernel
set_option maxRecDepth 100000 in
theorem dL_areDoors_507 : decode cL_areDoors 507 = .ok (.invokevirtual 13, 3) := by decide +kernel
set_option maxRecDepth 100000 in
theorem dL_areDoors_510 : decode cL_areDoors 510 = .ok (.ifCond .ne 7, 3) := by decide +kernel
set_option maxRecDepth 100000 in
theorem dL_areDoors_513 : decode cL_areDoors 513 = .ok (.iconst 1, 1) := by decide +kernel
set_option maxRecDepth 100000 in
theorem dL_areDoors_514 : decode cL_areDoors 514 = .ok (.goto 4, 3) := by decide +kernel
set_option maxRecDepth 100000 in
theorem dL_areDoors_517 : decode cL_areDoors 517 = .ok (.iconst 0, 1) := by decide +kernel
set_option maxRecDepth 100000 in
theorem dL_areDoors_518 : decode cL_areDoors 518 = .ok (.if_icmp .ne 7, 3) := by decide +kernel
set_option maxRecDepth 100000 in
theorem dL_areDoors_521 : decode cL_areDoors 521 = .ok (.iconst 1, 1) := by decide +kernel
set_option maxRecDepth 100000 in
theorem dL_areDoors_522 : decode cL_areDoors 522 = .ok (.goto 4, 3) := by decide +kernel
set_option maxRecDepth 100000 in
theorem dL_areDoors_525 : decode cL_areDoors 525 = .ok (.iconst 0, 1) := by decide +kernel
set_option maxRecDepth 100000 in
theorem dL_areDoors_526 : decode cL_areDoors 526 = .ok (.ireturn, 1) := by decide +kernel
set_option maxRecDepth 100000 in
theorem dL_anyRoom_0 : decode cL_anyRoom 0 = .ok (.bipush 6, 2) := by decide +kernel
set_option maxRecDepth 100000 in
theorem dL_anyRoom_2 : decode cL_anyRoom 2 = .ok (.aload_n 0, 1) := by decide +kernel
set_option maxRecDepth 100000 in
theorem dL_anyRoom_3 : decode cL_anyRoom 3 = .ok (.iconst 1, 1) := by decide +kernel
set_option maxRecDepth 100000 in
theorem dL_anyRoom_4 : decode cL_anyRoom 4 = .ok (.invokevirtual 13, 3) := by decide +kernel
set_option maxRecDepth 100000 in
theorem dL_anyRoom_7 : decode cL_anyRoom 7 = .ok (.imul, 1) := by decide +kernel
set_option maxRecDepth 100000 in
theorem dL_anyRoom_8 : decode cL_anyRoom 8 = .ok (.istore_n 2, 1) := by decide +kernel
set_option maxRecDepth 100000 in
theorem dL_anyRoom_9 : decode cL_anyRoom 9 = .ok (.iload_n 1, 1) := by decide +kernel
set_option maxRecDepth 100000 in
theorem dL_anyRoom_10 : decode cL_anyRoom 10 = .ok (.iload_n 2, 1) := by decide +kernel
set_option maxRecDepth 100000 in
theorem dL_anyRoom_11 : decode cL_anyRoom 11 = .ok (.irem, 1) := by decide +kernel
set_option maxRecDepth 100000 in
theorem dL_anyRoom_12 : decode cL_anyRoom 12 = .ok (.istore_n 3, 1) := by decide +kernel
set_option maxRecDepth 100000 in
theorem dL_anyRoom_13 : decode cL_anyRoom 13 = .ok (.aload_n 0, 1) := by decide +kernel
set_option maxRecDepth 100000 in
theorem dL_anyRoom_14 : decode cL_anyRoom 14 = .ok (.iload_n 3, 1) := by decide +kernel
set_option maxRecDepth 100000 in
theorem dL_anyRoom_15 : decode cL_anyRoom 15 = .ok (.invokevirtual 41, 3) := by decide +kernel
set_option maxRecDepth 100000 in
theorem dL_anyRoom_18 : decode cL_anyRoom 18 = .ok (.ifCond .ne 12, 3) := by decide +kernel
set_option maxRecDepth 100000 in
theorem dL_anyRoom_21 : decode cL_anyRoom 21 = .ok (.iload_n 3, 1) := by decide +kernel
set_option maxRecDepth 100000 in
theorem dL_anyRoom_22 : decode cL_anyRoom 22 = .ok (.iconst 1, 1) := by decide +kernel
set_option maxRecDepth 100000 in
theorem dL_anyRoom_23 : decode cL_anyRoom 23 = .ok (.iadd, 1) := by decide +kernel
set_option maxRecDepth 100000 in
theorem dL_anyRoom_24 : decode cL_anyRoom 24 = .ok (.iload_n 2, 1) := by decide +kernel
set_option maxRecDepth 100000 in
theorem dL_anyRoom_25 : decode cL_anyRoom 25 = .ok (.irem, 1) := by decide +kernel
set_option maxRecDepth 100000 in
theorem dL_anyRoom_26 : decode cL_anyRoom 26 = .ok (.istore_n 3, 1) := by decide +kernel
set_option maxRecDepth 100000 in
theorem dL_anyRoom_27 : decode cL_anyRoom 27 = .ok (.goto (-14), 3) := by decide +kernel
set_option maxRecDepth 100000 in
theorem dL_anyRoom_30 : decode cL_anyRoom 30 = .ok (.iload_n 3, 1) := by decide +kernel
set_option maxRecDepth 100000 in
theorem dL_anyRoom_31 : decode cL_anyRoom 31 = .ok (.ireturn, 1) := by decide +kernel
set_option maxRecDepth 100000 in
theorem dL_areWays_0 : decode cL_areWays 0 = .ok (.aload_n 0, 1) := by decide +kernel
set_option maxRecDepth 100000 in
theorem dL_areWays_1 : decode cL_areWays 1 = .ok (.iconst 1, 1) := by decide +kernel
set_option maxRecDepth 100000 in
theorem dL_areWays_2 : decode cL_areWays 2 = .ok (.invokevirtual 13, 3) := by decide +kernel
set_option maxRecDepth 100000 in
theorem dL_areWays_5 : decode cL_areWays 5 = .ok (.istore_n 3, 1) := by decide +kernel
set_option maxRecDepth 100000 in
theorem dL_areWays_6 : decode cL_areWays 6 = .ok (.aload_n 0, 1) := by decide +kernel
set_option maxRecDepth 100000 in
theorem dL_areWays_7 : decode cL_areWays 7 = .ok (.iload_n 1, 1) := by decide +kernel
set_option maxRecDepth 100000 in
theorem dL_areWays_8 : decode cL_areWays 8 = .ok (.iload_n 2, 1) := by decide +kernel
set_option maxRecDepth 100000 in
theorem dL_areWays_9 : decode cL_areWays 9 = .ok (.invokevirtual 60, 3) := by decide +kernel
set_option maxRecDepth 100000 in
theorem dL_areWays_12 : decode cL_areWays 12 = .ok (.istore 4, 2) := by decide +kernel
set_option maxRecDepth 100000 in
theorem dL_areWays_14 : decode cL_areWays 14 = .ok (.aload_n 0, 1) := by decide +kernel
set_option maxRecDepth 100000 in
theorem dL_areWays_15 : decode cL_areWays 15 = .ok (.iload_n 2, 1) := by decide +kernel
set_option maxRecDepth 100000 in
theorem dL_areWays_16 : decode cL_areWays 16 = .ok (.iload_n 1, 1) := by decide +kernel
set_option maxRecDepth 100000 in
theorem dL_areWays_17 : decode cL_areWays 17 = .ok (.invokevirtual 60, 3) := by decide +kernel
set_option maxRecDepth 100000 in
theorem dL_areWays_20 : decode cL_areWays 20 = .ok (.iload 4, 2) := by decide +kernel
set_option maxRecDepth 100000 in
theorem dL_areWays_22 : decode cL_areWays 22 = .ok (.if_icmp .ne 113, 3) := by decide +kernel
set_option maxRecDepth 100000 in
theorem dL_areWays_25 : decode cL_areWays 25 = .ok (.iload 4, 2) := by decide +kernel
set_option maxRecDepth 100000 in
theorem dL_areWays_27 : decode cL_areWays 27 = .ok (.bipush (-4), 2) := by decide +kernel
set_option maxRecDepth 100000 in
theorem dL_areWays_29 : decode cL_areWays 29 = .ok (.if_icmp .ne 7, 3) := by decide +kernel
set_option maxRecDepth 100000 in
theorem dL_areWays_32 : decode cL_areWays 32 = .ok (.iconst 1, 1) := by decide +kernel
set_option maxRecDepth 100000 in
theorem dL_areWays_33 : decode cL_areWays 33 = .ok (.goto 4, 3) := by decide +kernel
set_option maxRecDepth 100000 in
theorem dL_areWays_36 : decode cL_areWays 36 = .ok (.iconst 0, 1) := by decide +kernel
set_option maxRecDepth 100000 in
theorem dL_areWays_37 : decode cL_areWays 37 = .ok (.aload_n 0, 1) := by decide +kernel
set_option maxRecDepth 100000 in
theorem dL_areWays_38 : decode cL_areWays 38 = .ok (.iload_n 1, 1) := by decide +kernel
set_option maxRecDepth 100000 in
theorem dL_areWays_39 : decode cL_areWays 39 = .ok (.invokevirtual 51, 3) := by decide +kernel
set_option maxRecDepth 100000 in
theorem dL_areWays_42 : decode cL_areWays 42 = .ok (.aload_n 0, 1) := by decide +kernel
set_option maxRecDepth 100000 in
theorem dL_areWays_43 : decode cL_areWays 43 = .ok (.iload_n 2, 1) := by decide +kernel
set_option maxRecDepth 100000 in
theorem dL_areWays_44 : decode cL_areWays 44 = .ok (.invokevirtual 51, 3) := by decide +kernel
set_option maxRecDepth 100000 in
theorem dL_areWays_47 : decode cL_areWays 47 = .ok (.if_icmp .eq 7, 3) := by decide +kernel
set_option maxRecDepth 100000 in
theorem dL_areWays_50 : decode cL_areWays 50 = .ok (.iconst 1, 1) := by decide +kernel
set_option maxRecDepth 100000 in
theorem dL_areWays_51 : decode cL_areWays 51 = .ok (.goto 4, 3) := by decide +kernel
set_option maxRecDepth 100000 in
theorem dL_areWays_54 : decode cL_areWays 54 = .ok (.iconst 0, 1) := by decide +kernel
set_option maxRecDepth 100000 in
theorem dL_areWays_55 : decode cL_areWays 55 = .ok (.if_icmp .ne 80, 3) := by decide +kernel
set_option maxRecDepth 100000 in
theorem dL_areWays_58 : decode cL_areWays 58 = .ok (.iload 4, 2) := by decide +kernel
set_option maxRecDepth 100000 in
theorem dL_areWays_60 : decode cL_areWays 60 = .ok (.ifCond .ne 7, 3) := by decide +kernel
set_option maxRecDepth 100000 in
theorem dL_areWays_63 : decode cL_areWays 63 = .ok (.iconst 1, 1) := by decide +kernel
set_option maxRecDepth 100000 in
theorem dL_areWays_64 : decode cL_areWays 64 = .ok (.goto 4, 3) := by decide +kernel
set_option maxRecDepth 100000 in
theorem dL_areWays_67 : decode cL_areWays 67 = .ok (.iconst 0, 1) := by decide +kernel
set_option maxRecDepth 100000 in
theorem dL_areWays_68 : decode cL_areWays 68 = .ok (.iload_n 1, 1) := by decide +kernel
set_option maxRecDepth 100000 in
theorem dL_areWays_69 : decode cL_areWays 69 = .ok (.iload_n 2, 1) := by decide +kernel
set_option maxRecDepth 100000 in
theorem dL_areWays_70 : decode cL_areWays 70 = .ok (.if_icmp .ne 7, 3) := by decide +kernel
set_option maxRecDepth 100000 in
theorem dL_areWays_73 : decode cL_areWays 73 = .ok (.iconst 1, 1) := by decide +kernel
set_option maxRecDepth 100000 in
theorem dL_areWays_74 : decode cL_areWays 74 = .ok (.goto 4, 3) := by decide +kernel
set_option maxRecDepth 100000 in
theorem dL_areWays_77 : decode cL_areWays 77 = .ok (.iconst 0, 1) := by decide +kernel
set_option maxRecDepth 100000 in
theorem dL_areWays_78 : decode cL_areWays 78 = .ok (.if_icmp .ne 57, 3) := by decide +kernel
set_option maxRecDepth 100000 in
theorem dL_areWays_81 : decode cL_areWays 81 = .ok (.aload_n 0, 1) := by decide +kernel
set_option maxRecDepth 100000 in
theorem dL_areWays_82 : decode cL_areWays 82 = .ok (.iload_n 1, 1) := by decide +kernel
set_option maxRecDepth 100000 in
theorem dL_areWays_83 : decode cL_areWays 83 = .ok (.iload_n 2, 1) := by decide +kernel
set_option maxRecDepth 100000 in
theorem dL_areWays_84 : decode cL_areWays 84 = .ok (.iload 4, 2) := by decide +kernel
set_option maxRecDepth 100000 in
theorem dL_areWays_86 : decode cL_areWays 86 = .ok (.ifCond .ge 7, 3) := by decide +kernel
set_option maxRecDepth 100000 in
theorem dL_areWays_89 : decode cL_areWays 89 = .ok (.iconst 0, 1) := by decide +kernel
set_option maxRecDepth 100000 in
theorem dL_areWays_90 : decode cL_areWays 90 = .ok (.goto 7, 3) := by decide +kernel
set_option maxRecDepth 100000 in
theorem dL_areWays_93 : decode cL_areWays 93 = .ok (.iload 4, 2) := by decide +kernel
set_option maxRecDepth 100000 in
theorem dL_areWays_95 : decode cL_areWays 95 = .ok (.iconst 1, 1) := by decide +kernel
set_option maxRecDepth 100000 in
theorem dL_areWays_96 : decode cL_areWays 96 = .ok (.iadd, 1) := by decide +kernel
set_option maxRecDepth 100000 in
theorem dL_areWays_97 : decode cL_areWays 97 = .ok (.invokevirtual 66, 3) := by decide +kernel
set_option maxRecDepth 100000 in
theorem dL_areWays_100 : decode cL_areWays 100 = .ok (.bipush (-4), 2) := by decide +kernel
set_option maxRecDepth 100000 in
theorem dL_areWays_102 : decode cL_areWays 102 = .ok (.if_icmp .ne 33, 3) := by decide +kernel
set_option maxRecDepth 100000 in
theorem dL_areWays_105 : decode cL_areWays 105 = .ok (.aload_n 0, 1) := by decide +kernel
set_option maxRecDepth 100000 in
theorem dL_areWays_106 : decode cL_areWays 106 = .ok (.iload_n 1, 1) := by decide +kernel
set_option maxRecDepth 100000 in
theorem dL_areWays_107 : decode cL_areWays 107 = .ok (.iload_n 2, 1) := by decide +kernel
set_option maxRecDepth 100000 in
theorem dL_areWays_108 : decode cL_areWays 108 = .ok (.invokevirtual 63, 3) := by decide +kernel
set_option maxRecDepth 100000 in
theorem dL_areWays_111 : decode cL_areWays 111 = .ok (.aload_n 0, 1) := by decide +kernel
set_option maxRecDepth 100000 in
theorem dL_areWays_112 : decode cL_areWays 112 = .ok (.bipush 7, 2) := by decide +kernel
set_option maxRecDepth 100000 in
theorem dL_areWays_114 : decode cL_areWays 114 = .ok (.invokevirtual 13, 3) := by decide +kernel
set_option maxRecDepth 100000 in
theorem dL_areWays_117 : decode cL_areWays 117 = .ok (.iconst 1, 1) := by decide +kernel
set_option maxRecDepth 100000 in
theorem dL_areWays_118 : decode cL_areWays 118 = .ok (.if_icmp .ne 8, 3) := by decide +kernel
set_option maxRecDepth 100000 in
theorem dL_areWays_121 : decode cL_areWays 121 = .ok (.iload 4, 2) := by decide +kernel
set_option maxRecDepth 100000 in
theorem dL_areWays_123 : decode cL_areWays 123 = .ok (.goto 5, 3) := by decide +kernel
set_option maxRecDepth 100000 in
theorem dL_areWays_126 : decode cL_areWays 126 = .ok (.bipush (-2), 2) := by decide +kernel
set_option maxRecDepth 100000 in
theorem dL_areWays_128 : decode cL_areWays 128 = .ok (.if_icmp .ne 7, 3) := by decide +kernel
set_option maxRecDepth 100000 in
theorem dL_areWays_131 : decode cL_areWays 131 = .ok (.iconst 1, 1) := by decide +kernel
set_option maxRecDepth 100000 in
theorem dL_areWays_132 : decode cL_areWays 132 = .ok (.goto 4, 3) := by decide +kernel
set_option maxRecDepth 100000 in
theorem dL_areWays_135 : decode cL_areWays 135 = .ok (.iconst 0, 1) := by decide +kernel
set_option maxRecDepth 100000 in
theorem dL_areWays_136 : decode cL_areWays 136 = .ok (.istore 5, 2) := by decide +kernel
set_option maxRecDepth 100000 in
theorem dL_areWays_138 : decode cL_areWays 138 = .ok (.iconst 0, 1) := by decide +kernel
set_option maxRecDepth 100000 in
theorem dL_areWays_139 : decode cL_areWays 139 = .ok (.istore 6, 2) := by decide +kernel
set_option maxRecDepth 100000 in
theorem dL_areWays_141 : decode cL_areWays 141 = .ok (.iload 6, 2) := by decide +kernel
set_option maxRecDepth 100000 in
theorem dL_areWays_143 : decode cL_areWays 143 = .ok (.iload 4, 2) := by decide +kernel
set_option maxRecDepth 100000 in
theorem dL_areWays_145 : decode cL_areWays 145 = .ok (.if_icmp .ge 191, 3) := by decide +kernel
set_option maxRecDepth 100000 in
theorem dL_areWays_148 : decode cL_areWays 148 = .ok (.iload 5, 2) := by decide +kernel
set_option maxRecDepth 100000 in
theorem dL_areWays_150 : decode cL_areWays 150 = .ok (.ifCond .eq 186, 3) := by decide +kernel
set_option maxRecDepth 100000 in
theorem dL_areWays_153 : decode cL_areWays 153 = .ok (.aload_n 0, 1) := by decide +kernel
set_option maxRecDepth 100000 in
theorem dL_areWays_154 : decode cL_areWays 154 = .ok (.iload_n 1, 1) := by decide +kernel
set_option maxRecDepth 100000 in
theorem dL_areWays_155 : decode cL_areWays 155 = .ok (.iload_n 2, 1) := by decide +kernel
set_option maxRecDepth 100000 in
theorem dL_areWays_156 : decode cL_areWays 156 = .ok (.iload 6, 2) := by decide +kernel
set_option maxRecDepth 100000 in
theorem dL_areWays_158 : decode cL_areWays 158 = .ok (.invokevirtual 66, 3) := by decide +kernel
set_option maxRecDepth 100000 in
theorem dL_areWays_161 : decode cL_areWays 161 = .ok (.istore 7, 2) := by decide +kernel
set_option maxRecDepth 100000 in
theorem dL_areWays_163 : decode cL_areWays 163 = .ok (.aload_n 0, 1) := by decide +kernel
set_option maxRecDepth 100000 in
theorem dL_areWays_164 : decode cL_areWays 164 = .ok (.iload_n 1, 1) := by decide +kernel
set_option maxRecDepth 100000 in
theorem dL_areWays_165 : decode cL_areWays 165 = .ok (.iload_n 2, 1) := by decide +kernel
set_option maxRecDepth 100000 in
theorem dL_areWays_166 : decode cL_areWays 166 = .ok (.iload 6, 2) := by decide +kernel
set_option maxRecDepth 100000 in
theorem dL_areWays_168 : decode cL_areWays 168 = .ok (.iconst 1, 1) := by decide +kernel
set_option maxRecDepth 100000 in
theorem dL_areWays_169 : decode cL_areWays 169 = .ok (.iadd, 1) := by decide +kernel
set_option maxRecDepth 100000 in
theorem dL_areWays_170 : decode cL_areWays 170 = .ok (.invokevirtual 66, 3) := by decide +kernel
set_option maxRecDepth 100000 in
theorem dL_areWays_173 : decode cL_areWays 173 = .ok (.istore 8, 2) := by decide +kernel
set_option maxRecDepth 100000 in
theorem dL_areWays_175 : decode cL_areWays 175 = .ok (.iload 8, 2) := by decide +kernel
set_option maxRecDepth 100000 in
theorem dL_areWays_177 : decode cL_areWays 177 = .ok (.iload 7, 2) := by decide +kernel
set_option maxRecDepth 100000 in
theorem dL_areWays_179 : decode cL_areWays 179 = .ok (.iload_n 3, 1) := by decide +kernel
set_option maxRecDepth 100000 in
theorem dL_areWays_180 : decode cL_areWays 180 = .ok (.isub, 1) := by decide +kernel
set_option maxRecDepth 100000 in
theorem dL_areWays_181 : decode cL_areWays 181 = .ok (.if_icmp .ne 7, 3) := by decide +kernel
set_option maxRecDepth 100000 in
theorem dL_areWays_184 : decode cL_areWays 184 = .ok (.iconst 0, 1) := by decide +kernel
set_option maxRecDepth 100000 in
theorem dL_areWays_185 : decode cL_areWays 185 = .ok (.goto 30, 3) := by decide +kernel
set_option maxRecDepth 100000 in
theorem dL_areWays_188 : decode cL_areWays 188 = .ok (.iload 8, 2) := by decide +kernel
set_option maxRecDepth 100000 in
theorem dL_areWays_190 : decode cL_areWays 190 = .ok (.iload 7, 2) := by decide +kernel
set_option maxRecDepth 100000 in
theorem dL_areWays_192 : decode cL_areWays 192 = .ok (.iconst 1, 1) := by decide +kernel
set_option maxRecDepth 100000 in
theorem dL_areWays_193 : decode cL_areWays 193 = .ok (.iadd, 1) := by decide +kernel
set_option maxRecDepth 100000 in
theorem dL_areWays_194 : decode cL_areWays 194 = .ok (.if_icmp .ne 7, 3) := by decide +kernel
set_option maxRecDepth 100000 in
theorem dL_areWays_197 : decode cL_areWays 197 = .ok (.iconst 1, 1) := by decide +kernel
set_option maxRecDepth 100000 in
theorem dL_areWays_198 : decode cL_areWays 198 = .ok (.goto 17, 3) := by decide +kernel
set_option maxRecDepth 100000 in
theorem dL_areWays_201 : decode cL_areWays 201 = .ok (.iload 8, 2) := by decide +kernel
set_option maxRecDepth 100000 in
theorem dL_areWays_203 : decode cL_areWays 203 = .ok (.iload 7, 2) := by decide +kernel
set_option maxRecDepth 100000 in
theorem dL_areWays_205 : decode cL_areWays 205 = .ok (.iload_n 3, 1) := by decide +kernel
set_option maxRecDepth 100000 in
theorem dL_areWays_206 : decode cL_areWays 206 = .ok (.iadd, 1) := by decide +kernel
set_option maxRecDepth 100000 in
theorem dL_areWays_207 : decode cL_areWays 207 = .ok (.if_icmp .ne 7, 3) := by decide +kernel
set_option maxRecDepth 100000 in
theorem dL_areWays_210 : decode cL_areWays 210 = .ok (.iconst 2, 1) := by decide +kernel
set_option maxRecDepth 100000 in
theorem dL_areWays_211 : decode cL_areWays 211 = .ok (.goto 4, 3) := by decide +kernel
set_option maxRecDepth 100000 in
theorem dL_areWays_214 : decode cL_areWays 214 = .ok (.iconst 3, 1) := by decide +kernel
set_option maxRecDepth 100000 in
theorem dL_areWays_215 : decode cL_areWays 215 = .ok (.istore 9, 2) := by decide +kernel
set_option maxRecDepth 100000 in
theorem dL_areWays_217 : decode cL_areWays 217 = .ok (.aload_n 0, 1) := by decide +kernel
set_option maxRecDepth 100000 in
theorem dL_areWays_218 : decode cL_areWays 218 = .ok (.iload 7, 2) := by decide +kernel
set_option maxRecDepth 100000 in
theorem dL_areWays_220 : decode cL_areWays 220 = .ok (.iload_n 2, 1) := by decide +kernel
set_option maxRecDepth 100000 in
theorem dL_areWays_221 : decode cL_areWays 221 = .ok (.invokevirtual 60, 3) := by decide +kernel
set_option maxRecDepth 100000 in
theorem dL_areWays_224 : decode cL_areWays 224 = .ok (.iload 4, 2) := by decide +kernel
set_option maxRecDepth 100000 in
theorem dL_areWays_226 : decode cL_areWays 226 = .ok (.iload 6, 2) := by decide +kernel
set_option maxRecDepth 100000 in
theorem dL_areWays_228 : decode cL_areWays 228 = .ok (.isub, 1) := by decide +kernel
set_option maxRecDepth 100000 in
theorem dL_areWays_229 : decode cL_areWays 229 = .ok (.if_icmp .ne 35, 3) := by decide +kernel
set_option maxRecDepth 100000 in
theorem dL_areWays_232 : decode cL_areWays 232 = .ok (.iload_n 3, 1) := by decide +kernel
set_option maxRecDepth 100000 in
theorem dL_areWays_233 : decode cL_areWays 233 = .ok (.iload 7, 2) := by decide +kernel
set_option maxRecDepth 100000 in
theorem dL_areWays_235 : decode cL_areWays 235 = .ok (.iload 9, 2) := by decide +kernel
set_option maxRecDepth 100000 in
theorem dL_areWays_237 : decode cL_areWays 237 = .ok (.invokestatic 90, 3) := by decide +kernel
set_option maxRecDepth 100000 in
theorem dL_areWays_240 : decode cL_areWays 240 = .ok (.iload 8, 2) := by decide +kernel
set_option maxRecDepth 100000 in
theorem dL_areWays_242 : decode cL_areWays 242 = .ok (.if_icmp .ne 22, 3) := by decide +kernel
set_option maxRecDepth 100000 in
theorem dL_areWays_245 : decode cL_areWays 245 = .ok (.aload_n 0, 1) := by decide +kernel
set_option maxRecDepth 100000 in
theorem dL_areWays_246 : decode cL_areWays 246 = .ok (.iload 7, 2) := by decide +kernel
set_option maxRecDepth 100000 in
theorem dL_areWays_248 : decode cL_areWays 248 = .ok (.invokevirtual 19, 3) := by decide +kernel
set_option maxRecDepth 100000 in
theorem dL_areWays_251 : decode cL_areWays 251 = .ok (.iload 9, 2) := by decide +kernel
set_option maxRecDepth 100000 in
theorem dL_areWays_253 : decode cL_areWays 253 = .ok (.ishr, 1) := by decide +kernel
set_option maxRecDepth 100000 in
theorem dL_areWays_254 : decode cL_areWays 254 = .ok (.iconst 1, 1) := by decide +kernel
set_option maxRecDepth 100000 in
theorem dL_areWays_255 : decode cL_areWays 255 = .ok (.iand, 1) := by decide +kernel
set_option maxRecDepth 100000 in
theorem dL_areWays_256 : decode cL_areWays 256 = .ok (.iconst 1, 1) := by decide +kernel
set_option maxRecDepth 100000 in
theorem dL_areWays_257 : decode cL_areWays 257 = .ok (.if_icmp .ne 7, 3) := by decide +kernel

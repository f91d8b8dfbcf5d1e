-- the law's instructions
set_option maxRecDepth 100000 in
theorem dL_areSigns_101 : decode cL_areSigns 101 = .ok (.invokevirtual 19, 3) := by decide +kernel
set_option maxRecDepth 100000 in
theorem dL_areSigns_104 : decode cL_areSigns 104 = .ok (.iload 6, 2) := by decide +kernel
set_option maxRecDepth 100000 in
theorem dL_areSigns_106 : decode cL_areSigns 106 = .ok (.ishr, 1) := by decide +kernel
set_option maxRecDepth 100000 in
theorem dL_areSigns_107 : decode cL_areSigns 107 = .ok (.iconst 1, 1) := by decide +kernel
set_option maxRecDepth 100000 in
theorem dL_areSigns_108 : decode cL_areSigns 108 = .ok (.iand, 1) := by decide +kernel
set_option maxRecDepth 100000 in
theorem dL_areSigns_109 : decode cL_areSigns 109 = .ok (.iconst 1, 1) := by decide +kernel
set_option maxRecDepth 100000 in
theorem dL_areSigns_110 : decode cL_areSigns 110 = .ok (.if_icmp .ne 20, 3) := by decide +kernel
set_option maxRecDepth 100000 in
theorem dL_areSigns_113 : decode cL_areSigns 113 = .ok (.aload_n 0, 1) := by decide +kernel
set_option maxRecDepth 100000 in
theorem dL_areSigns_114 : decode cL_areSigns 114 = .ok (.iload 5, 2) := by decide +kernel
set_option maxRecDepth 100000 in
theorem dL_areSigns_116 : decode cL_areSigns 116 = .ok (.invokevirtual 19, 3) := by decide +kernel
set_option maxRecDepth 100000 in
theorem dL_areSigns_119 : decode cL_areSigns 119 = .ok (.invokestatic 87, 3) := by decide +kernel
set_option maxRecDepth 100000 in
theorem dL_areSigns_122 : decode cL_areSigns 122 = .ok (.iconst 2, 1) := by decide +kernel
set_option maxRecDepth 100000 in
theorem dL_areSigns_123 : decode cL_areSigns 123 = .ok (.if_icmp .le 7, 3) := by decide +kernel
set_option maxRecDepth 100000 in
theorem dL_areSigns_126 : decode cL_areSigns 126 = .ok (.iconst 1, 1) := by decide +kernel
set_option maxRecDepth 100000 in
theorem dL_areSigns_127 : decode cL_areSigns 127 = .ok (.goto 4, 3) := by decide +kernel
set_option maxRecDepth 100000 in
theorem dL_areSigns_130 : decode cL_areSigns 130 = .ok (.iconst 0, 1) := by decide +kernel
set_option maxRecDepth 100000 in
theorem dL_areSigns_131 : decode cL_areSigns 131 = .ok (.istore 4, 2) := by decide +kernel
set_option maxRecDepth 100000 in
theorem dL_areSigns_133 : decode cL_areSigns 133 = .ok (.iinc 5 1, 3) := by decide +kernel
set_option maxRecDepth 100000 in
theorem dL_areSigns_136 : decode cL_areSigns 136 = .ok (.goto (-85), 3) := by decide +kernel
set_option maxRecDepth 100000 in
theorem dL_areSigns_139 : decode cL_areSigns 139 = .ok (.iload 4, 2) := by decide +kernel
set_option maxRecDepth 100000 in
theorem dL_areSigns_141 : decode cL_areSigns 141 = .ok (.ifCond .eq 30, 3) := by decide +kernel
set_option maxRecDepth 100000 in
theorem dL_areSigns_144 : decode cL_areSigns 144 = .ok (.iload_n 3, 1) := by decide +kernel
set_option maxRecDepth 100000 in
theorem dL_areSigns_145 : decode cL_areSigns 145 = .ok (.aload_n 0, 1) := by decide +kernel
set_option maxRecDepth 100000 in
theorem dL_areSigns_146 : decode cL_areSigns 146 = .ok (.bipush 13, 2) := by decide +kernel
set_option maxRecDepth 100000 in
theorem dL_areSigns_148 : decode cL_areSigns 148 = .ok (.invokevirtual 13, 3) := by decide +kernel
set_option maxRecDepth 100000 in
theorem dL_areSigns_151 : decode cL_areSigns 151 = .ok (.if_icmp .ne 20, 3) := by decide +kernel
set_option maxRecDepth 100000 in
theorem dL_areSigns_154 : decode cL_areSigns 154 = .ok (.aload_n 0, 1) := by decide +kernel
set_option maxRecDepth 100000 in
theorem dL_areSigns_155 : decode cL_areSigns 155 = .ok (.bipush 12, 2) := by decide +kernel
set_option maxRecDepth 100000 in
theorem dL_areSigns_157 : decode cL_areSigns 157 = .ok (.invokevirtual 13, 3) := by decide +kernel
set_option maxRecDepth 100000 in
theorem dL_areSigns_160 : decode cL_areSigns 160 = .ok (.ifCond .eq 7, 3) := by decide +kernel
set_option maxRecDepth 100000 in
theorem dL_areSigns_163 : decode cL_areSigns 163 = .ok (.iload_n 2, 1) := by decide +kernel
set_option maxRecDepth 100000 in
theorem dL_areSigns_164 : decode cL_areSigns 164 = .ok (.ifCond .lt 7, 3) := by decide +kernel
set_option maxRecDepth 100000 in
theorem dL_areSigns_167 : decode cL_areSigns 167 = .ok (.iconst 1, 1) := by decide +kernel
set_option maxRecDepth 100000 in
theorem dL_areSigns_168 : decode cL_areSigns 168 = .ok (.goto 4, 3) := by decide +kernel
set_option maxRecDepth 100000 in
theorem dL_areSigns_171 : decode cL_areSigns 171 = .ok (.iconst 0, 1) := by decide +kernel
set_option maxRecDepth 100000 in
theorem dL_areSigns_172 : decode cL_areSigns 172 = .ok (.ireturn, 1) := by decide +kernel
set_option maxRecDepth 100000 in
theorem dL_isWalk_0 : decode cL_isWalk 0 = .ok (.aload_n 0, 1) := by decide +kernel
set_option maxRecDepth 100000 in
theorem dL_isWalk_1 : decode cL_isWalk 1 = .ok (.iconst 1, 1) := by decide +kernel
set_option maxRecDepth 100000 in
theorem dL_isWalk_2 : decode cL_isWalk 2 = .ok (.invokevirtual 13, 3) := by decide +kernel
set_option maxRecDepth 100000 in
theorem dL_isWalk_5 : decode cL_isWalk 5 = .ok (.istore_n 2, 1) := by decide +kernel
set_option maxRecDepth 100000 in
theorem dL_isWalk_6 : decode cL_isWalk 6 = .ok (.aload_n 0, 1) := by decide +kernel
set_option maxRecDepth 100000 in
theorem dL_isWalk_7 : decode cL_isWalk 7 = .ok (.iload_n 1, 1) := by decide +kernel
set_option maxRecDepth 100000 in
theorem dL_isWalk_8 : decode cL_isWalk 8 = .ok (.iconst 1, 1) := by decide +kernel
set_option maxRecDepth 100000 in
theorem dL_isWalk_9 : decode cL_isWalk 9 = .ok (.invokevirtual 25, 3) := by decide +kernel
set_option maxRecDepth 100000 in
theorem dL_isWalk_12 : decode cL_isWalk 12 = .ok (.istore_n 3, 1) := by decide +kernel
set_option maxRecDepth 100000 in
theorem dL_isWalk_13 : decode cL_isWalk 13 = .ok (.aload_n 0, 1) := by decide +kernel
set_option maxRecDepth 100000 in
theorem dL_isWalk_14 : decode cL_isWalk 14 = .ok (.bipush 10, 2) := by decide +kernel
set_option maxRecDepth 100000 in
theorem dL_isWalk_16 : decode cL_isWalk 16 = .ok (.invokevirtual 13, 3) := by decide +kernel
set_option maxRecDepth 100000 in
theorem dL_isWalk_19 : decode cL_isWalk 19 = .ok (.istore 4, 2) := by decide +kernel
set_option maxRecDepth 100000 in
theorem dL_isWalk_21 : decode cL_isWalk 21 = .ok (.iload_n 3, 1) := by decide +kernel
set_option maxRecDepth 100000 in
theorem dL_isWalk_22 : decode cL_isWalk 22 = .ok (.iload_n 1, 1) := by decide +kernel
set_option maxRecDepth 100000 in
theorem dL_isWalk_23 : decode cL_isWalk 23 = .ok (.if_icmp .gt 39, 3) := by decide +kernel
set_option maxRecDepth 100000 in
theorem dL_isWalk_26 : decode cL_isWalk 26 = .ok (.aload_n 0, 1) := by decide +kernel
set_option maxRecDepth 100000 in
theorem dL_isWalk_27 : decode cL_isWalk 27 = .ok (.iload_n 1, 1) := by decide +kernel
set_option maxRecDepth 100000 in
theorem dL_isWalk_28 : decode cL_isWalk 28 = .ok (.iconst 2, 1) := by decide +kernel
set_option maxRecDepth 100000 in
theorem dL_isWalk_29 : decode cL_isWalk 29 = .ok (.invokevirtual 25, 3) := by decide +kernel
set_option maxRecDepth 100000 in
theorem dL_isWalk_32 : decode cL_isWalk 32 = .ok (.iload_n 3, 1) := by decide +kernel
set_option maxRecDepth 100000 in
theorem dL_isWalk_33 : decode cL_isWalk 33 = .ok (.iconst 1, 1) := by decide +kernel
set_option maxRecDepth 100000 in
theorem dL_isWalk_34 : decode cL_isWalk 34 = .ok (.iadd, 1) := by decide +kernel
set_option maxRecDepth 100000 in
theorem dL_isWalk_35 : decode cL_isWalk 35 = .ok (.if_icmp .gt 27, 3) := by decide +kernel
set_option maxRecDepth 100000 in
theorem dL_isWalk_38 : decode cL_isWalk 38 = .ok (.aload_n 0, 1) := by decide +kernel
set_option maxRecDepth 100000 in
theorem dL_isWalk_39 : decode cL_isWalk 39 = .ok (.iconst 0, 1) := by decide +kernel
set_option maxRecDepth 100000 in
theorem dL_isWalk_40 : decode cL_isWalk 40 = .ok (.iconst 0, 1) := by decide +kernel
set_option maxRecDepth 100000 in
theorem dL_isWalk_41 : decode cL_isWalk 41 = .ok (.invokevirtual 25, 3) := by decide +kernel
set_option maxRecDepth 100000 in
theorem dL_isWalk_44 : decode cL_isWalk 44 = .ok (.iload 4, 2) := by decide +kernel
set_option maxRecDepth 100000 in
theorem dL_isWalk_46 : decode cL_isWalk 46 = .ok (.if_icmp .ne 16, 3) := by decide +kernel
set_option maxRecDepth 100000 in
theorem dL_isWalk_49 : decode cL_isWalk 49 = .ok (.aload_n 0, 1) := by decide +kernel
set_option maxRecDepth 100000 in
theorem dL_isWalk_50 : decode cL_isWalk 50 = .ok (.iconst 0, 1) := by decide +kernel
set_option maxRecDepth 100000 in
theorem dL_isWalk_51 : decode cL_isWalk 51 = .ok (.iconst 1, 1) := by decide +kernel
set_option maxRecDepth 100000 in
theorem dL_isWalk_52 : decode cL_isWalk 52 = .ok (.invokevirtual 25, 3) := by decide +kernel
set_option maxRecDepth 100000 in
theorem dL_isWalk_55 : decode cL_isWalk 55 = .ok (.ifCond .ne 7, 3) := by decide +kernel
set_option maxRecDepth 100000 in
theorem dL_isWalk_58 : decode cL_isWalk 58 = .ok (.iconst 1, 1) := by decide +kernel
set_option maxRecDepth 100000 in
theorem dL_isWalk_59 : decode cL_isWalk 59 = .ok (.goto 4, 3) := by decide +kernel
set_option maxRecDepth 100000 in
theorem dL_isWalk_62 : decode cL_isWalk 62 = .ok (.iconst 0, 1) := by decide +kernel
set_option maxRecDepth 100000 in
theorem dL_isWalk_63 : decode cL_isWalk 63 = .ok (.istore 5, 2) := by decide +kernel
set_option maxRecDepth 100000 in
theorem dL_isWalk_65 : decode cL_isWalk 65 = .ok (.iconst 1, 1) := by decide +kernel
set_option maxRecDepth 100000 in
theorem dL_isWalk_66 : decode cL_isWalk 66 = .ok (.istore 6, 2) := by decide +kernel
set_option maxRecDepth 100000 in
theorem dL_isWalk_68 : decode cL_isWalk 68 = .ok (.iload 6, 2) := by decide +kernel
set_option maxRecDepth 100000 in
theorem dL_isWalk_70 : decode cL_isWalk 70 = .ok (.iload_n 3, 1) := by decide +kernel
set_option maxRecDepth 100000 in
theorem dL_isWalk_71 : decode cL_isWalk 71 = .ok (.if_icmp .gt 147, 3) := by decide +kernel
set_option maxRecDepth 100000 in
theorem dL_isWalk_74 : decode cL_isWalk 74 = .ok (.iload 5, 2) := by decide +kernel
set_option maxRecDepth 100000 in
theorem dL_isWalk_76 : decode cL_isWalk 76 = .ok (.ifCond .eq 142, 3) := by decide +kernel
set_option maxRecDepth 100000 in
theorem dL_isWalk_79 : decode cL_isWalk 79 = .ok (.aload_n 0, 1) := by decide +kernel
set_option maxRecDepth 100000 in
theorem dL_isWalk_80 : decode cL_isWalk 80 = .ok (.iload 6, 2) := by decide +kernel
set_option maxRecDepth 100000 in
theorem dL_isWalk_82 : decode cL_isWalk 82 = .ok (.iconst 0, 1) := by decide +kernel
set_option maxRecDepth 100000 in
theorem dL_isWalk_83 : decode cL_isWalk 83 = .ok (.invokevirtual 25, 3) := by decide +kernel
set_option maxRecDepth 100000 in
theorem dL_isWalk_86 : decode cL_isWalk 86 = .ok (.istore 7, 2) := by decide +kernel
set_option maxRecDepth 100000 in
theorem dL_isWalk_88 : decode cL_isWalk 88 = .ok (.iload 7, 2) := by decide +kernel
set_option maxRecDepth 100000 in
theorem dL_isWalk_90 : decode cL_isWalk 90 = .ok (.iload 4, 2) := by decide +kernel
set_option maxRecDepth 100000 in
theorem dL_isWalk_92 : decode cL_isWalk 92 = .ok (.iload_n 2, 1) := by decide +kernel
set_option maxRecDepth 100000 in
theorem dL_isWalk_93 : decode cL_isWalk 93 = .ok (.isub, 1) := by decide +kernel
set_option maxRecDepth 100000 in
theorem dL_isWalk_94 : decode cL_isWalk 94 = .ok (.if_icmp .ne 7, 3) := by decide +kernel
set_option maxRecDepth 100000 in
theorem dL_isWalk_97 : decode cL_isWalk 97 = .ok (.iconst 0, 1) := by decide +kernel
set_option maxRecDepth 100000 in
theorem dL_isWalk_98 : decode cL_isWalk 98 = .ok (.goto 30, 3) := by decide +kernel
set_option maxRecDepth 100000 in
theorem dL_isWalk_101 : decode cL_isWalk 101 = .ok (.iload 7, 2) := by decide +kernel
set_option maxRecDepth 100000 in
theorem dL_isWalk_103 : decode cL_isWalk 103 = .ok (.iload 4, 2) := by decide +kernel
set_option maxRecDepth 100000 in
theorem dL_isWalk_105 : decode cL_isWalk 105 = .ok (.iconst 1, 1) := by decide +kernel
set_option maxRecDepth 100000 in
theorem dL_isWalk_106 : decode cL_isWalk 106 = .ok (.iadd, 1) := by decide +kernel
set_option maxRecDepth 100000 in
theorem dL_isWalk_107 : decode cL_isWalk 107 = .ok (.if_icmp .ne 7, 3) := by decide +kernel
set_option maxRecDepth 100000 in
theorem dL_isWalk_110 : decode cL_isWalk 110 = .ok (.iconst 1, 1) := by decide +kernel
set_option maxRecDepth 100000 in
theorem dL_isWalk_111 : decode cL_isWalk 111 = .ok (.goto 17, 3) := by decide +kernel
set_option maxRecDepth 100000 in
theorem dL_isWalk_114 : decode cL_isWalk 114 = .ok (.iload 7, 2) := by decide +kernel
set_option maxRecDepth 100000 in
theorem dL_isWalk_116 : decode cL_isWalk 116 = .ok (.iload 4, 2) := by decide +kernel
set_option maxRecDepth 100000 in
theorem dL_isWalk_118 : decode cL_isWalk 118 = .ok (.iload_n 2, 1) := by decide +kernel
set_option maxRecDepth 100000 in
theorem dL_isWalk_119 : decode cL_isWalk 119 = .ok (.iadd, 1) := by decide +kernel
set_option maxRecDepth 100000 in
theorem dL_isWalk_120 : decode cL_isWalk 120 = .ok (.if_icmp .ne 7, 3) := by decide +kernel
set_option maxRecDepth 100000 in
theorem dL_isWalk_123 : decode cL_isWalk 123 = .ok (.iconst 2, 1) := by decide +kernel
set_option maxRecDepth 100000 in
theorem dL_isWalk_124 : decode cL_isWalk 124 = .ok (.goto 4, 3) := by decide +kernel
set_option maxRecDepth 100000 in
theorem dL_isWalk_127 : decode cL_isWalk 127 = .ok (.iconst 3, 1) := by decide +kernel
set_option maxRecDepth 100000 in
theorem dL_isWalk_128 : decode cL_isWalk 128 = .ok (.istore 8, 2) := by decide +kernel
set_option maxRecDepth 100000 in
theorem dL_isWalk_130 : decode cL_isWalk 130 = .ok (.iload_n 2, 1) := by decide +kernel
set_option maxRecDepth 100000 in
theorem dL_isWalk_131 : decode cL_isWalk 131 = .ok (.iload 4, 2) := by decide +kernel
set_option maxRecDepth 100000 in
theorem dL_isWalk_133 : decode cL_isWalk 133 = .ok (.iload 8, 2) := by decide +kernel
set_option maxRecDepth 100000 in
theorem dL_isWalk_135 : decode cL_isWalk 135 = .ok (.invokestatic 90, 3) := by decide +kernel
set_option maxRecDepth 100000 in
theorem dL_isWalk_138 : decode cL_isWalk 138 = .ok (.iload 7, 2) := by decide +kernel
set_option maxRecDepth 100000 in
theorem dL_isWalk_140 : decode cL_isWalk 140 = .ok (.if_icmp .ne 65, 3) := by decide +kernel
set_option maxRecDepth 100000 in
theorem dL_isWalk_143 : decode cL_isWalk 143 = .ok (.aload_n 0, 1) := by decide +kernel
set_option maxRecDepth 100000 in
theorem dL_isWalk_144 : decode cL_isWalk 144 = .ok (.iload 4, 2) := by decide +kernel
set_option maxRecDepth 100000 in
theorem dL_isWalk_146 : decode cL_isWalk 146 = .ok (.invokevirtual 19, 3) := by decide +kernel
set_option maxRecDepth 100000 in
theorem dL_isWalk_149 : decode cL_isWalk 149 = .ok (.iload 8, 2) := by decide +kernel
set_option maxRecDepth 100000 in
theorem dL_isWalk_151 : decode cL_isWalk 151 = .ok (.ishr, 1) := by decide +kernel
set_option maxRecDepth 100000 in
theorem dL_isWalk_152 : decode cL_isWalk 152 = .ok (.iconst 1, 1) := by decide +kernel
set_option maxRecDepth 100000 in
theorem dL_isWalk_153 : decode cL_isWalk 153 = .ok (.iand, 1) := by decide +kernel
set_option maxRecDepth 100000 in
theorem dL_isWalk_154 : decode cL_isWalk 154 = .ok (.iconst 1, 1) := by decide +kernel
set_option maxRecDepth 100000 in
theorem dL_isWalk_155 : decode cL_isWalk 155 = .ok (.if_icmp .ne 50, 3) := by decide +kernel
set_option maxRecDepth 100000 in
theorem dL_isWalk_158 : decode cL_isWalk 158 = .ok (.aload_n 0, 1) := by decide +kernel
set_option maxRecDepth 100000 in
theorem dL_isWalk_159 : decode cL_isWalk 159 = .ok (.iload 6, 2) := by decide +kernel
set_option maxRecDepth 100000 in
theorem dL_isWalk_161 : decode cL_isWalk 161 = .ok (.iconst 1, 1) := by decide +kernel
set_option maxRecDepth 100000 in
theorem dL_isWalk_162 : decode cL_isWalk 162 = .ok (.invokevirtual 25, 3) := by decide +kernel
set_option maxRecDepth 100000 in
theorem dL_isWalk_165 : decode cL_isWalk 165 = .ok (.iload 6, 2) := by decide +kernel
set_option maxRecDepth 100000 in
theorem dL_isWalk_167 : decode cL_isWalk 167 = .ok (.if_icmp .ne 38, 3) := by decide +kernel
set_option maxRecDepth 100000 in
theorem dL_isWalk_170 : decode cL_isWalk 170 = .ok (.iload 4, 2) := by decide +kernel
set_option maxRecDepth 100000 in
theorem dL_isWalk_172 : decode cL_isWalk 172 = .ok (.aload_n 0, 1) := by decide +kernel
set_option maxRecDepth 100000 in
theorem dL_isWalk_173 : decode cL_isWalk 173 = .ok (.bipush 11, 2) := by decide +kernel
set_option maxRecDepth 100000 in
theorem dL_isWalk_175 : decode cL_isWalk 175 = .ok (.invokevirtual 13, 3) := by decide +kernel
set_option maxRecDepth 100000 in
theorem dL_isWalk_178 : decode cL_isWalk 178 = .ok (.if_icmp .eq 27, 3) := by decide +kernel
set_option maxRecDepth 100000 in
theorem dL_isWalk_181 : decode cL_isWalk 181 = .ok (.aload_n 0, 1) := by decide +kernel
set_option maxRecDepth 100000 in
theorem dL_isWalk_182 : decode cL_isWalk 182 = .ok (.iload 4, 2) := by decide +kernel
set_option maxRecDepth 100000 in
theorem dL_isWalk_184 : decode cL_isWalk 184 = .ok (.invokevirtual 22, 3) := by decide +kernel
set_option maxRecDepth 100000 in
theorem dL_isWalk_187 : decode cL_isWalk 187 = .ok (.ifCond .lt 14, 3) := by decide +kernel
set_option maxRecDepth 100000 in
theorem dL_isWalk_190 : decode cL_isWalk 190 = .ok (.aload_n 0, 1) := by decide +kernel
set_option maxRecDepth 100000 in
theorem dL_isWalk_191 : decode cL_isWalk 191 = .ok (.iload 4, 2) := by decide +kernel
set_option maxRecDepth 100000 in
theorem dL_isWalk_193 : decode cL_isWalk 193 = .ok (.invokevirtual 22, 3) := by decide +kernel
set_option maxRecDepth 100000 in
theorem dL_isWalk_196 : decode cL_isWalk 196 = .ok (.iload 8, 2) := by decide +kernel
set_option maxRecDepth 100000 in
theorem dL_isWalk_198 : decode cL_isWalk 198 = .ok (.if_icmp .ne 7, 3) := by decide +kernel
set_option maxRecDepth 100000 in
theorem dL_isWalk_201 : decode cL_isWalk 201 = .ok (.iconst 1, 1) := by decide +kernel
set_option maxRecDepth 100000 in
theorem dL_isWalk_202 : decode cL_isWalk 202 = .ok (.goto 4, 3) := by decide +kernel
set_option maxRecDepth 100000 in
theorem dL_isWalk_205 : decode cL_isWalk 205 = .ok (.iconst 0, 1) := by decide +kernel
set_option maxRecDepth 100000 in
theorem dL_isWalk_206 : decode cL_isWalk 206 = .ok (.istore 5, 2) := by decide +kernel
set_option maxRecDepth 100000 in
theorem dL_isWalk_208 : decode cL_isWalk 208 = .ok (.iload 7, 2) := by decide +kernel
set_option maxRecDepth 100000 in
theorem dL_isWalk_210 : decode cL_isWalk 210 = .ok (.istore 4, 2) := by decide +kernel
set_option maxRecDepth 100000 in
theorem dL_isWalk_212 : decode cL_isWalk 212 = .ok (.iinc 6 1, 3) := by decide +kernel
set_option maxRecDepth 100000 in
theorem dL_isWalk_215 : decode cL_isWalk 215 = .ok (.goto (-147), 3) := by decide +kernel
set_option maxRecDepth 100000 in
theorem dL_isWalk_218 : decode cL_isWalk 218 = .ok (.aload_n 0, 1) := by decide +kernel
set_option maxRecDepth 100000 in
theorem dL_isWalk_219 : decode cL_isWalk 219 = .ok (.invokevirtual 97, 3) := by decide +kernel
set_option maxRecDepth 100000 in
theorem dL_isWalk_222 : decode cL_isWalk 222 = .ok (.istore 6, 2) := by decide +kernel
set_option maxRecDepth 100000 in
theorem dL_isWalk_224 : decode cL_isWalk 224 = .ok (.iload 5, 2) := by decide +kernel
set_option maxRecDepth 100000 in
theorem dL_isWalk_226 : decode cL_isWalk 226 = .ok (.ifCond .eq 110, 3) := by decide +kernel
set_option maxRecDepth 100000 in
theorem dL_isWalk_229 : decode cL_isWalk 229 = .ok (.aload_n 0, 1) := by decide +kernel
set_option maxRecDepth 100000 in
theorem dL_isWalk_230 : decode cL_isWalk 230 = .ok (.iload_n 1, 1) := by decide +kernel
set_option maxRecDepth 100000 in
theorem dL_isWalk_231 : decode cL_isWalk 231 = .ok (.iconst 0, 1) := by decide +kernel
set_option maxRecDepth 100000 in
theorem dL_isWalk_232 : decode cL_isWalk 232 = .ok (.invokevirtual 25, 3) := by decide +kernel
set_option maxRecDepth 100000 in
theorem dL_isWalk_235 : decode cL_isWalk 235 = .ok (.iload 4, 2) := by decide +kernel
set_option maxRecDepth 100000 in
theorem dL_isWalk_237 : decode cL_isWalk 237 = .ok (.if_icmp .ne 99, 3) := by decide +kernel
set_option maxRecDepth 100000 in
theorem dL_isWalk_240 : decode cL_isWalk 240 = .ok (.iload_n 3, 1) := by decide +kernel
set_option maxRecDepth 100000 in
theorem dL_isWalk_241 : decode cL_isWalk 241 = .ok (.iload_n 1, 1) := by decide +kernel
set_option maxRecDepth 100000 in
theorem dL_isWalk_242 : decode cL_isWalk 242 = .ok (.if_icmp .eq 23, 3) := by decide +kernel
set_option maxRecDepth 100000 in
theorem dL_isWalk_245 : decode cL_isWalk 245 = .ok (.iload 4, 2) := by decide +kernel
set_option maxRecDepth 100000 in
theorem dL_isWalk_247 : decode cL_isWalk 247 = .ok (.aload_n 0, 1) := by decide +kernel
set_option maxRecDepth 100000 in
theorem dL_isWalk_248 : decode cL_isWalk 248 = .ok (.bipush 11, 2) := by decide +kernel
set_option maxRecDepth 100000 in
theorem dL_isWalk_250 : decode cL_isWalk 250 = .ok (.invokevirtual 13, 3) := by decide +kernel
set_option maxRecDepth 100000 in
theorem dL_isWalk_253 : decode cL_isWalk 253 = .ok (.if_icmp .eq 12, 3) := by decide +kernel
set_option maxRecDepth 100000 in
theorem dL_isWalk_256 : decode cL_isWalk 256 = .ok (.aload_n 0, 1) := by decide +kernel
set_option maxRecDepth 100000 in
theorem dL_isWalk_257 : decode cL_isWalk 257 = .ok (.iload 4, 2) := by decide +kernel
set_option maxRecDepth 100000 in
theorem dL_isWalk_259 : decode cL_isWalk 259 = .ok (.invokevirtual 19, 3) := by decide +kernel
set_option maxRecDepth 100000 in
theorem dL_isWalk_262 : decode cL_isWalk 262 = .ok (.ifCond .ne 74, 3) := by decide +kernel
set_option maxRecDepth 100000 in
theorem dL_isWalk_265 : decode cL_isWalk 265 = .ok (.iload 6, 2) := by decide +kernel
set_option maxRecDepth 100000 in
theorem dL_isWalk_267 : decode cL_isWalk 267 = .ok (.bipush (-4), 2) := by decide +kernel
set_option maxRecDepth 100000 in
theorem dL_isWalk_269 : decode cL_isWalk 269 = .ok (.if_icmp .eq 46, 3) := by decide +kernel
set_option maxRecDepth 100000 in
theorem dL_isWalk_272 : decode cL_isWalk 272 = .ok (.iload 6, 2) := by decide +kernel
set_option maxRecDepth 100000 in
theorem dL_isWalk_274 : decode cL_isWalk 274 = .ok (.iload_n 3, 1) := by decide +kernel
set_option maxRecDepth 100000 in
theorem dL_isWalk_275 : decode cL_isWalk 275 = .ok (.if_icmp .lt 61, 3) := by decide +kernel
set_option maxRecDepth 100000 in
theorem dL_isWalk_278 : decode cL_isWalk 278 = .ok (.aload_n 0, 1) := by decide +kernel
set_option maxRecDepth 100000 in
theorem dL_isWalk_279 : decode cL_isWalk 279 = .ok (.iload 6, 2) := by decide +kernel
set_option maxRecDepth 100000 in
theorem dL_isWalk_281 : decode cL_isWalk 281 = .ok (.iconst 0, 1) := by decide +kernel
set_option maxRecDepth 100000 in
theorem dL_isWalk_282 : decode cL_isWalk 282 = .ok (.invokevirtual 25, 3) := by decide +kernel
set_option maxRecDepth 100000 in
theorem dL_isWalk_285 : decode cL_isWalk 285 = .ok (.aload_n 0, 1) := by decide +kernel
set_option maxRecDepth 100000 in
theorem dL_isWalk_286 : decode cL_isWalk 286 = .ok (.bipush 11, 2) := by decide +kernel
set_option maxRecDepth 100000 in
theorem dL_isWalk_288 : decode cL_isWalk 288 = .ok (.invokevirtual 13, 3) := by decide +kernel
set_option maxRecDepth 100000 in
theorem dL_isWalk_291 : decode cL_isWalk 291 = .ok (.if_icmp .ne 45, 3) := by decide +kernel
set_option maxRecDepth 100000 in
theorem dL_isWalk_294 : decode cL_isWalk 294 = .ok (.iload 6, 2) := by decide +kernel
set_option maxRecDepth 100000 in
theorem dL_isWalk_296 : decode cL_isWalk 296 = .ok (.aload_n 0, 1) := by decide +kernel
set_option maxRecDepth 100000 in
theorem dL_isWalk_297 : decode cL_isWalk 297 = .ok (.aload_n 0, 1) := by decide +kernel
set_option maxRecDepth 100000 in
theorem dL_isWalk_298 : decode cL_isWalk 298 = .ok (.bipush 10, 2) := by decide +kernel
set_option maxRecDepth 100000 in
theorem dL_isWalk_300 : decode cL_isWalk 300 = .ok (.invokevirtual 13, 3) := by decide +kernel
set_option maxRecDepth 100000 in
theorem dL_isWalk_303 : decode cL_isWalk 303 = .ok (.aload_n 0, 1) := by decide +kernel
set_option maxRecDepth 100000 in
theorem dL_isWalk_304 : decode cL_isWalk 304 = .ok (.bipush 11, 2) := by decide +kernel
set_option maxRecDepth 100000 in
theorem dL_isWalk_306 : decode cL_isWalk 306 = .ok (.invokevirtual 13, 3) := by decide +kernel
set_option maxRecDepth 100000 in
theorem dL_isWalk_309 : decode cL_isWalk 309 = .ok (.invokevirtual 60, 3) := by decide +kernel
set_option maxRecDepth 100000 in
theorem dL_isWalk_312 : decode cL_isWalk 312 = .ok (.if_icmp .lt 24, 3) := by decide +kernel

-- the law's instructions
set_option maxRecDepth 100000 in
theorem dL_areDoors_75 : decode cL_areDoors 75 = .ok (.istore 10, 2) := by decide +kernel
set_option maxRecDepth 100000 in
theorem dL_areDoors_77 : decode cL_areDoors 77 = .ok (.iload 10, 2) := by decide +kernel
set_option maxRecDepth 100000 in
theorem dL_areDoors_79 : decode cL_areDoors 79 = .ok (.ifCond .eq 12, 3) := by decide +kernel
set_option maxRecDepth 100000 in
theorem dL_areDoors_82 : decode cL_areDoors 82 = .ok (.aload_n 0, 1) := by decide +kernel
set_option maxRecDepth 100000 in
theorem dL_areDoors_83 : decode cL_areDoors 83 = .ok (.iload 9, 2) := by decide +kernel
set_option maxRecDepth 100000 in
theorem dL_areDoors_85 : decode cL_areDoors 85 = .ok (.invokevirtual 19, 3) := by decide +kernel
set_option maxRecDepth 100000 in
theorem dL_areDoors_88 : decode cL_areDoors 88 = .ok (.goto 4, 3) := by decide +kernel
set_option maxRecDepth 100000 in
theorem dL_areDoors_91 : decode cL_areDoors 91 = .ok (.iconst 0, 1) := by decide +kernel
set_option maxRecDepth 100000 in
theorem dL_areDoors_92 : decode cL_areDoors 92 = .ok (.istore 11, 2) := by decide +kernel
set_option maxRecDepth 100000 in
theorem dL_areDoors_94 : decode cL_areDoors 94 = .ok (.iload_n 2, 1) := by decide +kernel
set_option maxRecDepth 100000 in
theorem dL_areDoors_95 : decode cL_areDoors 95 = .ok (.iload 10, 2) := by decide +kernel
set_option maxRecDepth 100000 in
theorem dL_areDoors_97 : decode cL_areDoors 97 = .ok (.ifCond .eq 7, 3) := by decide +kernel
set_option maxRecDepth 100000 in
theorem dL_areDoors_100 : decode cL_areDoors 100 = .ok (.iconst 1, 1) := by decide +kernel
set_option maxRecDepth 100000 in
theorem dL_areDoors_101 : decode cL_areDoors 101 = .ok (.goto 4, 3) := by decide +kernel
set_option maxRecDepth 100000 in
theorem dL_areDoors_104 : decode cL_areDoors 104 = .ok (.iconst 0, 1) := by decide +kernel
set_option maxRecDepth 100000 in
theorem dL_areDoors_105 : decode cL_areDoors 105 = .ok (.iadd, 1) := by decide +kernel
set_option maxRecDepth 100000 in
theorem dL_areDoors_106 : decode cL_areDoors 106 = .ok (.istore_n 2, 1) := by decide +kernel
set_option maxRecDepth 100000 in
theorem dL_areDoors_107 : decode cL_areDoors 107 = .ok (.iload_n 3, 1) := by decide +kernel
set_option maxRecDepth 100000 in
theorem dL_areDoors_108 : decode cL_areDoors 108 = .ok (.iload 11, 2) := by decide +kernel
set_option maxRecDepth 100000 in
theorem dL_areDoors_110 : decode cL_areDoors 110 = .ok (.invokestatic 87, 3) := by decide +kernel
set_option maxRecDepth 100000 in
theorem dL_areDoors_113 : decode cL_areDoors 113 = .ok (.iadd, 1) := by decide +kernel
set_option maxRecDepth 100000 in
theorem dL_areDoors_114 : decode cL_areDoors 114 = .ok (.istore_n 3, 1) := by decide +kernel
set_option maxRecDepth 100000 in
theorem dL_areDoors_115 : decode cL_areDoors 115 = .ok (.iload 4, 2) := by decide +kernel
set_option maxRecDepth 100000 in
theorem dL_areDoors_117 : decode cL_areDoors 117 = .ok (.iload 11, 2) := by decide +kernel
set_option maxRecDepth 100000 in
theorem dL_areDoors_119 : decode cL_areDoors 119 = .ok (.invokestatic 87, 3) := by decide +kernel
set_option maxRecDepth 100000 in
theorem dL_areDoors_122 : decode cL_areDoors 122 = .ok (.iconst 1, 1) := by decide +kernel
set_option maxRecDepth 100000 in
theorem dL_areDoors_123 : decode cL_areDoors 123 = .ok (.if_icmp .ne 7, 3) := by decide +kernel
set_option maxRecDepth 100000 in
theorem dL_areDoors_126 : decode cL_areDoors 126 = .ok (.iconst 1, 1) := by decide +kernel
set_option maxRecDepth 100000 in
theorem dL_areDoors_127 : decode cL_areDoors 127 = .ok (.goto 4, 3) := by decide +kernel
set_option maxRecDepth 100000 in
theorem dL_areDoors_130 : decode cL_areDoors 130 = .ok (.iconst 0, 1) := by decide +kernel
set_option maxRecDepth 100000 in
theorem dL_areDoors_131 : decode cL_areDoors 131 = .ok (.iadd, 1) := by decide +kernel
set_option maxRecDepth 100000 in
theorem dL_areDoors_132 : decode cL_areDoors 132 = .ok (.istore 4, 2) := by decide +kernel
set_option maxRecDepth 100000 in
theorem dL_areDoors_134 : decode cL_areDoors 134 = .ok (.iload 5, 2) := by decide +kernel
set_option maxRecDepth 100000 in
theorem dL_areDoors_136 : decode cL_areDoors 136 = .ok (.iload 11, 2) := by decide +kernel
set_option maxRecDepth 100000 in
theorem dL_areDoors_138 : decode cL_areDoors 138 = .ok (.invokestatic 87, 3) := by decide +kernel
set_option maxRecDepth 100000 in
theorem dL_areDoors_141 : decode cL_areDoors 141 = .ok (.iconst 2, 1) := by decide +kernel
set_option maxRecDepth 100000 in
theorem dL_areDoors_142 : decode cL_areDoors 142 = .ok (.if_icmp .le 7, 3) := by decide +kernel
set_option maxRecDepth 100000 in
theorem dL_areDoors_145 : decode cL_areDoors 145 = .ok (.iconst 1, 1) := by decide +kernel
set_option maxRecDepth 100000 in
theorem dL_areDoors_146 : decode cL_areDoors 146 = .ok (.goto 4, 3) := by decide +kernel
set_option maxRecDepth 100000 in
theorem dL_areDoors_149 : decode cL_areDoors 149 = .ok (.iconst 0, 1) := by decide +kernel
set_option maxRecDepth 100000 in
theorem dL_areDoors_150 : decode cL_areDoors 150 = .ok (.iadd, 1) := by decide +kernel
set_option maxRecDepth 100000 in
theorem dL_areDoors_151 : decode cL_areDoors 151 = .ok (.istore 5, 2) := by decide +kernel
set_option maxRecDepth 100000 in
theorem dL_areDoors_153 : decode cL_areDoors 153 = .ok (.iload 10, 2) := by decide +kernel
set_option maxRecDepth 100000 in
theorem dL_areDoors_155 : decode cL_areDoors 155 = .ok (.ifCond .eq 21, 3) := by decide +kernel
set_option maxRecDepth 100000 in
theorem dL_areDoors_158 : decode cL_areDoors 158 = .ok (.aload_n 0, 1) := by decide +kernel
set_option maxRecDepth 100000 in
theorem dL_areDoors_159 : decode cL_areDoors 159 = .ok (.iload 9, 2) := by decide +kernel
set_option maxRecDepth 100000 in
theorem dL_areDoors_161 : decode cL_areDoors 161 = .ok (.invokevirtual 51, 3) := by decide +kernel
set_option maxRecDepth 100000 in
theorem dL_areDoors_164 : decode cL_areDoors 164 = .ok (.iload 7, 2) := by decide +kernel
set_option maxRecDepth 100000 in
theorem dL_areDoors_166 : decode cL_areDoors 166 = .ok (.if_icmp .ne 10, 3) := by decide +kernel
set_option maxRecDepth 100000 in
theorem dL_areDoors_169 : decode cL_areDoors 169 = .ok (.iload 7, 2) := by decide +kernel
set_option maxRecDepth 100000 in
theorem dL_areDoors_171 : decode cL_areDoors 171 = .ok (.iconst 1, 1) := by decide +kernel
set_option maxRecDepth 100000 in
theorem dL_areDoors_172 : decode cL_areDoors 172 = .ok (.iadd, 1) := by decide +kernel
set_option maxRecDepth 100000 in
theorem dL_areDoors_173 : decode cL_areDoors 173 = .ok (.goto 5, 3) := by decide +kernel
set_option maxRecDepth 100000 in
theorem dL_areDoors_176 : decode cL_areDoors 176 = .ok (.iload 7, 2) := by decide +kernel
set_option maxRecDepth 100000 in
theorem dL_areDoors_178 : decode cL_areDoors 178 = .ok (.istore 7, 2) := by decide +kernel
set_option maxRecDepth 100000 in
theorem dL_areDoors_180 : decode cL_areDoors 180 = .ok (.iload 10, 2) := by decide +kernel
set_option maxRecDepth 100000 in
theorem dL_areDoors_182 : decode cL_areDoors 182 = .ok (.ifCond .ne 23, 3) := by decide +kernel
set_option maxRecDepth 100000 in
theorem dL_areDoors_185 : decode cL_areDoors 185 = .ok (.aload_n 0, 1) := by decide +kernel
set_option maxRecDepth 100000 in
theorem dL_areDoors_186 : decode cL_areDoors 186 = .ok (.iload 9, 2) := by decide +kernel
set_option maxRecDepth 100000 in
theorem dL_areDoors_188 : decode cL_areDoors 188 = .ok (.invokevirtual 19, 3) := by decide +kernel
set_option maxRecDepth 100000 in
theorem dL_areDoors_191 : decode cL_areDoors 191 = .ok (.iconst (-1), 1) := by decide +kernel
set_option maxRecDepth 100000 in
theorem dL_areDoors_192 : decode cL_areDoors 192 = .ok (.if_icmp .ne 17, 3) := by decide +kernel
set_option maxRecDepth 100000 in
theorem dL_areDoors_195 : decode cL_areDoors 195 = .ok (.aload_n 0, 1) := by decide +kernel
set_option maxRecDepth 100000 in
theorem dL_areDoors_196 : decode cL_areDoors 196 = .ok (.iload 9, 2) := by decide +kernel
set_option maxRecDepth 100000 in
theorem dL_areDoors_198 : decode cL_areDoors 198 = .ok (.invokevirtual 51, 3) := by decide +kernel
set_option maxRecDepth 100000 in
theorem dL_areDoors_201 : decode cL_areDoors 201 = .ok (.iconst (-1), 1) := by decide +kernel
set_option maxRecDepth 100000 in
theorem dL_areDoors_202 : decode cL_areDoors 202 = .ok (.if_icmp .ne 7, 3) := by decide +kernel
set_option maxRecDepth 100000 in
theorem dL_areDoors_205 : decode cL_areDoors 205 = .ok (.iconst 1, 1) := by decide +kernel
set_option maxRecDepth 100000 in
theorem dL_areDoors_206 : decode cL_areDoors 206 = .ok (.goto 4, 3) := by decide +kernel
set_option maxRecDepth 100000 in
theorem dL_areDoors_209 : decode cL_areDoors 209 = .ok (.iconst 0, 1) := by decide +kernel
set_option maxRecDepth 100000 in
theorem dL_areDoors_210 : decode cL_areDoors 210 = .ok (.istore 8, 2) := by decide +kernel
set_option maxRecDepth 100000 in
theorem dL_areDoors_212 : decode cL_areDoors 212 = .ok (.iconst 0, 1) := by decide +kernel
set_option maxRecDepth 100000 in
theorem dL_areDoors_213 : decode cL_areDoors 213 = .ok (.istore 12, 2) := by decide +kernel
set_option maxRecDepth 100000 in
theorem dL_areDoors_215 : decode cL_areDoors 215 = .ok (.iload 12, 2) := by decide +kernel
set_option maxRecDepth 100000 in
theorem dL_areDoors_217 : decode cL_areDoors 217 = .ok (.iconst 4, 1) := by decide +kernel
set_option maxRecDepth 100000 in
theorem dL_areDoors_218 : decode cL_areDoors 218 = .ok (.if_icmp .ge 90, 3) := by decide +kernel
set_option maxRecDepth 100000 in
theorem dL_areDoors_221 : decode cL_areDoors 221 = .ok (.iload 8, 2) := by decide +kernel
set_option maxRecDepth 100000 in
theorem dL_areDoors_223 : decode cL_areDoors 223 = .ok (.ifCond .eq 85, 3) := by decide +kernel
set_option maxRecDepth 100000 in
theorem dL_areDoors_226 : decode cL_areDoors 226 = .ok (.iload 10, 2) := by decide +kernel
set_option maxRecDepth 100000 in
theorem dL_areDoors_228 : decode cL_areDoors 228 = .ok (.ifCond .eq 80, 3) := by decide +kernel
set_option maxRecDepth 100000 in
theorem dL_areDoors_231 : decode cL_areDoors 231 = .ok (.iload_n 1, 1) := by decide +kernel
set_option maxRecDepth 100000 in
theorem dL_areDoors_232 : decode cL_areDoors 232 = .ok (.iload 9, 2) := by decide +kernel
set_option maxRecDepth 100000 in
theorem dL_areDoors_234 : decode cL_areDoors 234 = .ok (.iload 12, 2) := by decide +kernel
set_option maxRecDepth 100000 in
theorem dL_areDoors_236 : decode cL_areDoors 236 = .ok (.invokestatic 90, 3) := by decide +kernel
set_option maxRecDepth 100000 in
theorem dL_areDoors_239 : decode cL_areDoors 239 = .ok (.istore 13, 2) := by decide +kernel
set_option maxRecDepth 100000 in
theorem dL_areDoors_241 : decode cL_areDoors 241 = .ok (.iload 11, 2) := by decide +kernel
set_option maxRecDepth 100000 in
theorem dL_areDoors_243 : decode cL_areDoors 243 = .ok (.iload 12, 2) := by decide +kernel
set_option maxRecDepth 100000 in
theorem dL_areDoors_245 : decode cL_areDoors 245 = .ok (.ishr, 1) := by decide +kernel
set_option maxRecDepth 100000 in
theorem dL_areDoors_246 : decode cL_areDoors 246 = .ok (.iconst 1, 1) := by decide +kernel
set_option maxRecDepth 100000 in
theorem dL_areDoors_247 : decode cL_areDoors 247 = .ok (.iand, 1) := by decide +kernel
set_option maxRecDepth 100000 in
theorem dL_areDoors_248 : decode cL_areDoors 248 = .ok (.ifCond .eq 47, 3) := by decide +kernel
set_option maxRecDepth 100000 in
theorem dL_areDoors_251 : decode cL_areDoors 251 = .ok (.aload_n 0, 1) := by decide +kernel
set_option maxRecDepth 100000 in
theorem dL_areDoors_252 : decode cL_areDoors 252 = .ok (.iload 13, 2) := by decide +kernel
set_option maxRecDepth 100000 in
theorem dL_areDoors_254 : decode cL_areDoors 254 = .ok (.invokevirtual 41, 3) := by decide +kernel
set_option maxRecDepth 100000 in
theorem dL_areDoors_257 : decode cL_areDoors 257 = .ok (.iconst 1, 1) := by decide +kernel
set_option maxRecDepth 100000 in
theorem dL_areDoors_258 : decode cL_areDoors 258 = .ok (.if_icmp .ne 41, 3) := by decide +kernel
set_option maxRecDepth 100000 in
theorem dL_areDoors_261 : decode cL_areDoors 261 = .ok (.aload_n 0, 1) := by decide +kernel
set_option maxRecDepth 100000 in
theorem dL_areDoors_262 : decode cL_areDoors 262 = .ok (.iload 13, 2) := by decide +kernel
set_option maxRecDepth 100000 in
theorem dL_areDoors_264 : decode cL_areDoors 264 = .ok (.invokevirtual 19, 3) := by decide +kernel
set_option maxRecDepth 100000 in
theorem dL_areDoors_267 : decode cL_areDoors 267 = .ok (.iload 12, 2) := by decide +kernel
set_option maxRecDepth 100000 in
theorem dL_areDoors_269 : decode cL_areDoors 269 = .ok (.iconst 2, 1) := by decide +kernel
set_option maxRecDepth 100000 in
theorem dL_areDoors_270 : decode cL_areDoors 270 = .ok (.iadd, 1) := by decide +kernel
set_option maxRecDepth 100000 in
theorem dL_areDoors_271 : decode cL_areDoors 271 = .ok (.iconst 4, 1) := by decide +kernel
set_option maxRecDepth 100000 in
theorem dL_areDoors_272 : decode cL_areDoors 272 = .ok (.irem, 1) := by decide +kernel
set_option maxRecDepth 100000 in
theorem dL_areDoors_273 : decode cL_areDoors 273 = .ok (.ishr, 1) := by decide +kernel
set_option maxRecDepth 100000 in
theorem dL_areDoors_274 : decode cL_areDoors 274 = .ok (.iconst 1, 1) := by decide +kernel
set_option maxRecDepth 100000 in
theorem dL_areDoors_275 : decode cL_areDoors 275 = .ok (.iand, 1) := by decide +kernel
set_option maxRecDepth 100000 in
theorem dL_areDoors_276 : decode cL_areDoors 276 = .ok (.iconst 1, 1) := by decide +kernel
set_option maxRecDepth 100000 in
theorem dL_areDoors_277 : decode cL_areDoors 277 = .ok (.if_icmp .ne 22, 3) := by decide +kernel
set_option maxRecDepth 100000 in
theorem dL_areDoors_280 : decode cL_areDoors 280 = .ok (.aload_n 0, 1) := by decide +kernel
set_option maxRecDepth 100000 in
theorem dL_areDoors_281 : decode cL_areDoors 281 = .ok (.iload 13, 2) := by decide +kernel
set_option maxRecDepth 100000 in
theorem dL_areDoors_283 : decode cL_areDoors 283 = .ok (.invokevirtual 51, 3) := by decide +kernel
set_option maxRecDepth 100000 in
theorem dL_areDoors_286 : decode cL_areDoors 286 = .ok (.aload_n 0, 1) := by decide +kernel
set_option maxRecDepth 100000 in
theorem dL_areDoors_287 : decode cL_areDoors 287 = .ok (.iload 9, 2) := by decide +kernel
set_option maxRecDepth 100000 in
theorem dL_areDoors_289 : decode cL_areDoors 289 = .ok (.invokevirtual 51, 3) := by decide +kernel
set_option maxRecDepth 100000 in
theorem dL_areDoors_292 : decode cL_areDoors 292 = .ok (.if_icmp .ne 7, 3) := by decide +kernel
set_option maxRecDepth 100000 in
theorem dL_areDoors_295 : decode cL_areDoors 295 = .ok (.iconst 1, 1) := by decide +kernel
set_option maxRecDepth 100000 in
theorem dL_areDoors_296 : decode cL_areDoors 296 = .ok (.goto 4, 3) := by decide +kernel
set_option maxRecDepth 100000 in
theorem dL_areDoors_299 : decode cL_areDoors 299 = .ok (.iconst 0, 1) := by decide +kernel
set_option maxRecDepth 100000 in
theorem dL_areDoors_300 : decode cL_areDoors 300 = .ok (.istore 8, 2) := by decide +kernel
set_option maxRecDepth 100000 in
theorem dL_areDoors_302 : decode cL_areDoors 302 = .ok (.iinc 12 1, 3) := by decide +kernel
set_option maxRecDepth 100000 in
theorem dL_areDoors_305 : decode cL_areDoors 305 = .ok (.goto (-90), 3) := by decide +kernel
set_option maxRecDepth 100000 in
theorem dL_areDoors_308 : decode cL_areDoors 308 = .ok (.iinc 9 1, 3) := by decide +kernel
set_option maxRecDepth 100000 in
theorem dL_areDoors_311 : decode cL_areDoors 311 = .ok (.goto (-265), 3) := by decide +kernel
set_option maxRecDepth 100000 in
theorem dL_areDoors_314 : decode cL_areDoors 314 = .ok (.iconst 0, 1) := by decide +kernel
set_option maxRecDepth 100000 in
theorem dL_areDoors_315 : decode cL_areDoors 315 = .ok (.istore 9, 2) := by decide +kernel
set_option maxRecDepth 100000 in
theorem dL_areDoors_317 : decode cL_areDoors 317 = .ok (.iload 9, 2) := by decide +kernel
set_option maxRecDepth 100000 in
theorem dL_areDoors_319 : decode cL_areDoors 319 = .ok (.aload_n 0, 1) := by decide +kernel
set_option maxRecDepth 100000 in
theorem dL_areDoors_320 : decode cL_areDoors 320 = .ok (.iconst 0, 1) := by decide +kernel
set_option maxRecDepth 100000 in
theorem dL_areDoors_321 : decode cL_areDoors 321 = .ok (.invokevirtual 13, 3) := by decide +kernel
set_option maxRecDepth 100000 in
theorem dL_areDoors_324 : decode cL_areDoors 324 = .ok (.if_icmp .ge 71, 3) := by decide +kernel
set_option maxRecDepth 100000 in
theorem dL_areDoors_327 : decode cL_areDoors 327 = .ok (.iload 6, 2) := by decide +kernel
set_option maxRecDepth 100000 in
theorem dL_areDoors_329 : decode cL_areDoors 329 = .ok (.aload_n 0, 1) := by decide +kernel
set_option maxRecDepth 100000 in
theorem dL_areDoors_330 : decode cL_areDoors 330 = .ok (.iload 9, 2) := by decide +kernel
set_option maxRecDepth 100000 in
theorem dL_areDoors_332 : decode cL_areDoors 332 = .ok (.iconst 1, 1) := by decide +kernel
set_option maxRecDepth 100000 in
theorem dL_areDoors_333 : decode cL_areDoors 333 = .ok (.invokevirtual 38, 3) := by decide +kernel
set_option maxRecDepth 100000 in
theorem dL_areDoors_336 : decode cL_areDoors 336 = .ok (.iadd, 1) := by decide +kernel
set_option maxRecDepth 100000 in
theorem dL_areDoors_337 : decode cL_areDoors 337 = .ok (.istore 6, 2) := by decide +kernel
set_option maxRecDepth 100000 in
theorem dL_areDoors_339 : decode cL_areDoors 339 = .ok (.iload 8, 2) := by decide +kernel
set_option maxRecDepth 100000 in
theorem dL_areDoors_341 : decode cL_areDoors 341 = .ok (.ifCond .eq 45, 3) := by decide +kernel
set_option maxRecDepth 100000 in
theorem dL_areDoors_344 : decode cL_areDoors 344 = .ok (.aload_n 0, 1) := by decide +kernel
set_option maxRecDepth 100000 in
theorem dL_areDoors_345 : decode cL_areDoors 345 = .ok (.iload 9, 2) := by decide +kernel
set_option maxRecDepth 100000 in
theorem dL_areDoors_347 : decode cL_areDoors 347 = .ok (.iconst 3, 1) := by decide +kernel
set_option maxRecDepth 100000 in
theorem dL_areDoors_348 : decode cL_areDoors 348 = .ok (.invokevirtual 38, 3) := by decide +kernel
set_option maxRecDepth 100000 in
theorem dL_areDoors_351 : decode cL_areDoors 351 = .ok (.aload_n 0, 1) := by decide +kernel
set_option maxRecDepth 100000 in
theorem dL_areDoors_352 : decode cL_areDoors 352 = .ok (.iload 9, 2) := by decide +kernel
set_option maxRecDepth 100000 in
theorem dL_areDoors_354 : decode cL_areDoors 354 = .ok (.iconst 2, 1) := by decide +kernel
set_option maxRecDepth 100000 in
theorem dL_areDoors_355 : decode cL_areDoors 355 = .ok (.invokevirtual 38, 3) := by decide +kernel
set_option maxRecDepth 100000 in
theorem dL_areDoors_358 : decode cL_areDoors 358 = .ok (.if_icmp .gt 28, 3) := by decide +kernel
set_option maxRecDepth 100000 in
theorem dL_areDoors_361 : decode cL_areDoors 361 = .ok (.aload_n 0, 1) := by decide +kernel
set_option maxRecDepth 100000 in
theorem dL_areDoors_362 : decode cL_areDoors 362 = .ok (.iload 9, 2) := by decide +kernel
set_option maxRecDepth 100000 in
theorem dL_areDoors_364 : decode cL_areDoors 364 = .ok (.iconst 4, 1) := by decide +kernel
set_option maxRecDepth 100000 in
theorem dL_areDoors_365 : decode cL_areDoors 365 = .ok (.invokevirtual 38, 3) := by decide +kernel
set_option maxRecDepth 100000 in
theorem dL_areDoors_368 : decode cL_areDoors 368 = .ok (.ifCond .lt 18, 3) := by decide +kernel
set_option maxRecDepth 100000 in
theorem dL_areDoors_371 : decode cL_areDoors 371 = .ok (.aload_n 0, 1) := by decide +kernel
set_option maxRecDepth 100000 in
theorem dL_areDoors_372 : decode cL_areDoors 372 = .ok (.iload 9, 2) := by decide +kernel
set_option maxRecDepth 100000 in
theorem dL_areDoors_374 : decode cL_areDoors 374 = .ok (.iconst 4, 1) := by decide +kernel
set_option maxRecDepth 100000 in
theorem dL_areDoors_375 : decode cL_areDoors 375 = .ok (.invokevirtual 38, 3) := by decide +kernel
set_option maxRecDepth 100000 in
theorem dL_areDoors_378 : decode cL_areDoors 378 = .ok (.iconst 5, 1) := by decide +kernel
set_option maxRecDepth 100000 in
theorem dL_areDoors_379 : decode cL_areDoors 379 = .ok (.if_icmp .gt 7, 3) := by decide +kernel
set_option maxRecDepth 100000 in
theorem dL_areDoors_382 : decode cL_areDoors 382 = .ok (.iconst 1, 1) := by decide +kernel
set_option maxRecDepth 100000 in
theorem dL_areDoors_383 : decode cL_areDoors 383 = .ok (.goto 4, 3) := by decide +kernel
set_option maxRecDepth 100000 in
theorem dL_areDoors_386 : decode cL_areDoors 386 = .ok (.iconst 0, 1) := by decide +kernel
set_option maxRecDepth 100000 in
theorem dL_areDoors_387 : decode cL_areDoors 387 = .ok (.istore 8, 2) := by decide +kernel
set_option maxRecDepth 100000 in
theorem dL_areDoors_389 : decode cL_areDoors 389 = .ok (.iinc 9 1, 3) := by decide +kernel
set_option maxRecDepth 100000 in
theorem dL_areDoors_392 : decode cL_areDoors 392 = .ok (.goto (-75), 3) := by decide +kernel
set_option maxRecDepth 100000 in
theorem dL_areDoors_395 : decode cL_areDoors 395 = .ok (.iload 8, 2) := by decide +kernel
set_option maxRecDepth 100000 in
theorem dL_areDoors_397 : decode cL_areDoors 397 = .ok (.ifCond .eq 128, 3) := by decide +kernel
set_option maxRecDepth 100000 in
theorem dL_areDoors_400 : decode cL_areDoors 400 = .ok (.iload_n 2, 1) := by decide +kernel
set_option maxRecDepth 100000 in
theorem dL_areDoors_401 : decode cL_areDoors 401 = .ok (.aload_n 0, 1) := by decide +kernel
set_option maxRecDepth 100000 in
theorem dL_areDoors_402 : decode cL_areDoors 402 = .ok (.iconst 2, 1) := by decide +kernel
set_option maxRecDepth 100000 in
theorem dL_areDoors_403 : decode cL_areDoors 403 = .ok (.invokevirtual 13, 3) := by decide +kernel
set_option maxRecDepth 100000 in
theorem dL_areDoors_406 : decode cL_areDoors 406 = .ok (.if_icmp .ne 119, 3) := by decide +kernel
set_option maxRecDepth 100000 in
theorem dL_areDoors_409 : decode cL_areDoors 409 = .ok (.iload 6, 2) := by decide +kernel
set_option maxRecDepth 100000 in
theorem dL_areDoors_411 : decode cL_areDoors 411 = .ok (.iload_n 1, 1) := by decide +kernel
set_option maxRecDepth 100000 in
theorem dL_areDoors_412 : decode cL_areDoors 412 = .ok (.iadd, 1) := by decide +kernel
set_option maxRecDepth 100000 in
theorem dL_areDoors_413 : decode cL_areDoors 413 = .ok (.iload_n 2, 1) := by decide +kernel
set_option maxRecDepth 100000 in
theorem dL_areDoors_414 : decode cL_areDoors 414 = .ok (.if_icmp .ne 111, 3) := by decide +kernel
set_option maxRecDepth 100000 in
theorem dL_areDoors_417 : decode cL_areDoors 417 = .ok (.iload_n 3, 1) := by decide +kernel
set_option maxRecDepth 100000 in
theorem dL_areDoors_418 : decode cL_areDoors 418 = .ok (.iconst 2, 1) := by decide +kernel
set_option maxRecDepth 100000 in
theorem dL_areDoors_419 : decode cL_areDoors 419 = .ok (.aload_n 0, 1) := by decide +kernel
set_option maxRecDepth 100000 in
theorem dL_areDoors_420 : decode cL_areDoors 420 = .ok (.iconst 4, 1) := by decide +kernel
set_option maxRecDepth 100000 in
theorem dL_areDoors_421 : decode cL_areDoors 421 = .ok (.invokevirtual 13, 3) := by decide +kernel
set_option maxRecDepth 100000 in
theorem dL_areDoors_424 : decode cL_areDoors 424 = .ok (.imul, 1) := by decide +kernel
set_option maxRecDepth 100000 in
theorem dL_areDoors_425 : decode cL_areDoors 425 = .ok (.if_icmp .ne 100, 3) := by decide +kernel
set_option maxRecDepth 100000 in
theorem dL_areDoors_428 : decode cL_areDoors 428 = .ok (.aload_n 0, 1) := by decide +kernel
set_option maxRecDepth 100000 in
theorem dL_areDoors_429 : decode cL_areDoors 429 = .ok (.iconst 4, 1) := by decide +kernel
set_option maxRecDepth 100000 in
theorem dL_areDoors_430 : decode cL_areDoors 430 = .ok (.invokevirtual 13, 3) := by decide +kernel
set_option maxRecDepth 100000 in
theorem dL_areDoors_433 : decode cL_areDoors 433 = .ok (.aload_n 0, 1) := by decide +kernel
set_option maxRecDepth 100000 in
theorem dL_areDoors_434 : decode cL_areDoors 434 = .ok (.iconst 3, 1) := by decide +kernel
set_option maxRecDepth 100000 in
theorem dL_areDoors_435 : decode cL_areDoors 435 = .ok (.invokevirtual 13, 3) := by decide +kernel
set_option maxRecDepth 100000 in
theorem dL_areDoors_438 : decode cL_areDoors 438 = .ok (.if_icmp .gt 87, 3) := by decide +kernel
set_option maxRecDepth 100000 in
theorem dL_areDoors_441 : decode cL_areDoors 441 = .ok (.iload 4, 2) := by decide +kernel
set_option maxRecDepth 100000 in
theorem dL_areDoors_443 : decode cL_areDoors 443 = .ok (.aload_n 0, 1) := by decide +kernel
set_option maxRecDepth 100000 in
theorem dL_areDoors_444 : decode cL_areDoors 444 = .ok (.bipush 8, 2) := by decide +kernel
set_option maxRecDepth 100000 in
theorem dL_areDoors_446 : decode cL_areDoors 446 = .ok (.invokevirtual 13, 3) := by decide +kernel
set_option maxRecDepth 100000 in
theorem dL_areDoors_449 : decode cL_areDoors 449 = .ok (.if_icmp .ne 76, 3) := by decide +kernel
set_option maxRecDepth 100000 in
theorem dL_areDoors_452 : decode cL_areDoors 452 = .ok (.iload 5, 2) := by decide +kernel
set_option maxRecDepth 100000 in
theorem dL_areDoors_454 : decode cL_areDoors 454 = .ok (.aload_n 0, 1) := by decide +kernel
set_option maxRecDepth 100000 in
theorem dL_areDoors_455 : decode cL_areDoors 455 = .ok (.bipush 9, 2) := by decide +kernel

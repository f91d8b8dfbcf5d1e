-- the law's instructions
set_option maxRecDepth 100000 in
theorem dL_law_152 : decode cL_law 152 = .ok (.aload_n 1, 1) := by decide +kernel
set_option maxRecDepth 100000 in
theorem dL_law_153 : decode cL_law 153 = .ok (.bipush 12, 2) := by decide +kernel
set_option maxRecDepth 100000 in
theorem dL_law_155 : decode cL_law 155 = .ok (.iload 4, 2) := by decide +kernel
set_option maxRecDepth 100000 in
theorem dL_law_157 : decode cL_law 157 = .ok (.iconst 4, 1) := by decide +kernel
set_option maxRecDepth 100000 in
theorem dL_law_158 : decode cL_law 158 = .ok (.ishr, 1) := by decide +kernel
set_option maxRecDepth 100000 in
theorem dL_law_159 : decode cL_law 159 = .ok (.ldc 138, 2) := by decide +kernel
set_option maxRecDepth 100000 in
theorem dL_law_161 : decode cL_law 161 = .ok (.invokestatic 104, 3) := by decide +kernel
set_option maxRecDepth 100000 in
theorem dL_law_164 : decode cL_law 164 = .ok (.imul, 1) := by decide +kernel
set_option maxRecDepth 100000 in
theorem dL_law_165 : decode cL_law 165 = .ok (.iload 10, 2) := by decide +kernel
set_option maxRecDepth 100000 in
theorem dL_law_167 : decode cL_law 167 = .ok (.iadd, 1) := by decide +kernel
set_option maxRecDepth 100000 in
theorem dL_law_168 : decode cL_law 168 = .ok (.iload 5, 2) := by decide +kernel
set_option maxRecDepth 100000 in
theorem dL_law_170 : decode cL_law 170 = .ok (.invokestatic 139, 3) := by decide +kernel
set_option maxRecDepth 100000 in
theorem dL_law_173 : decode cL_law 173 = .ok (.istore 11, 2) := by decide +kernel
set_option maxRecDepth 100000 in
theorem dL_law_175 : decode cL_law 175 = .ok (.iload 11, 2) := by decide +kernel
set_option maxRecDepth 100000 in
theorem dL_law_177 : decode cL_law 177 = .ok (.bipush (-4), 2) := by decide +kernel
set_option maxRecDepth 100000 in
theorem dL_law_179 : decode cL_law 179 = .ok (.if_icmp .lt 104, 3) := by decide +kernel
set_option maxRecDepth 100000 in
theorem dL_law_182 : decode cL_law 182 = .ok (.iload 11, 2) := by decide +kernel
set_option maxRecDepth 100000 in
theorem dL_law_184 : decode cL_law 184 = .ok (.ifCond .lt 29, 3) := by decide +kernel
set_option maxRecDepth 100000 in
theorem dL_law_187 : decode cL_law 187 = .ok (.aload_n 1, 1) := by decide +kernel
set_option maxRecDepth 100000 in
theorem dL_law_188 : decode cL_law 188 = .ok (.bipush 14, 2) := by decide +kernel
set_option maxRecDepth 100000 in
theorem dL_law_190 : decode cL_law 190 = .ok (.invokevirtual 13, 3) := by decide +kernel
set_option maxRecDepth 100000 in
theorem dL_law_193 : decode cL_law 193 = .ok (.iload 8, 2) := by decide +kernel
set_option maxRecDepth 100000 in
theorem dL_law_195 : decode cL_law 195 = .ok (.iconst 5, 1) := by decide +kernel
set_option maxRecDepth 100000 in
theorem dL_law_196 : decode cL_law 196 = .ok (.if_icmp .ne 7, 3) := by decide +kernel
set_option maxRecDepth 100000 in
theorem dL_law_199 : decode cL_law 199 = .ok (.iconst 5, 1) := by decide +kernel
set_option maxRecDepth 100000 in
theorem dL_law_200 : decode cL_law 200 = .ok (.goto 7, 3) := by decide +kernel
set_option maxRecDepth 100000 in
theorem dL_law_203 : decode cL_law 203 = .ok (.iload 8, 2) := by decide +kernel
set_option maxRecDepth 100000 in
theorem dL_law_205 : decode cL_law 205 = .ok (.iconst 1, 1) := by decide +kernel
set_option maxRecDepth 100000 in
theorem dL_law_206 : decode cL_law 206 = .ok (.iadd, 1) := by decide +kernel
set_option maxRecDepth 100000 in
theorem dL_law_207 : decode cL_law 207 = .ok (.if_icmp .ne 76, 3) := by decide +kernel
set_option maxRecDepth 100000 in
theorem dL_law_210 : decode cL_law 210 = .ok (.goto 24, 3) := by decide +kernel
set_option maxRecDepth 100000 in
theorem dL_law_213 : decode cL_law 213 = .ok (.aload_n 1, 1) := by decide +kernel
set_option maxRecDepth 100000 in
theorem dL_law_214 : decode cL_law 214 = .ok (.bipush 14, 2) := by decide +kernel
set_option maxRecDepth 100000 in
theorem dL_law_216 : decode cL_law 216 = .ok (.invokevirtual 13, 3) := by decide +kernel
set_option maxRecDepth 100000 in
theorem dL_law_219 : decode cL_law 219 = .ok (.iload 8, 2) := by decide +kernel
set_option maxRecDepth 100000 in
theorem dL_law_221 : decode cL_law 221 = .ok (.if_icmp .ne 62, 3) := by decide +kernel
set_option maxRecDepth 100000 in
theorem dL_law_224 : decode cL_law 224 = .ok (.aload_n 1, 1) := by decide +kernel
set_option maxRecDepth 100000 in
theorem dL_law_225 : decode cL_law 225 = .ok (.invokestatic 29, 3) := by decide +kernel
set_option maxRecDepth 100000 in
theorem dL_law_228 : decode cL_law 228 = .ok (.lload 6, 2) := by decide +kernel
set_option maxRecDepth 100000 in
theorem dL_law_230 : decode cL_law 230 = .ok (.lcmp, 1) := by decide +kernel
set_option maxRecDepth 100000 in
theorem dL_law_231 : decode cL_law 231 = .ok (.ifCond .ne 52, 3) := by decide +kernel
set_option maxRecDepth 100000 in
theorem dL_law_234 : decode cL_law 234 = .ok (.iload 10, 2) := by decide +kernel
set_option maxRecDepth 100000 in
theorem dL_law_236 : decode cL_law 236 = .ok (.iconst 1, 1) := by decide +kernel
set_option maxRecDepth 100000 in
theorem dL_law_237 : decode cL_law 237 = .ok (.if_icmp .eq 9, 3) := by decide +kernel
set_option maxRecDepth 100000 in
theorem dL_law_240 : decode cL_law 240 = .ok (.iload 10, 2) := by decide +kernel
set_option maxRecDepth 100000 in
theorem dL_law_242 : decode cL_law 242 = .ok (.iconst 2, 1) := by decide +kernel
set_option maxRecDepth 100000 in
theorem dL_law_243 : decode cL_law 243 = .ok (.if_icmp .ne 36, 3) := by decide +kernel
set_option maxRecDepth 100000 in
theorem dL_law_246 : decode cL_law 246 = .ok (.iload 11, 2) := by decide +kernel
set_option maxRecDepth 100000 in
theorem dL_law_248 : decode cL_law 248 = .ok (.aload_n 1, 1) := by decide +kernel
set_option maxRecDepth 100000 in
theorem dL_law_249 : decode cL_law 249 = .ok (.iconst 2, 1) := by decide +kernel
set_option maxRecDepth 100000 in
theorem dL_law_250 : decode cL_law 250 = .ok (.invokevirtual 13, 3) := by decide +kernel
set_option maxRecDepth 100000 in
theorem dL_law_253 : decode cL_law 253 = .ok (.iconst 1, 1) := by decide +kernel
set_option maxRecDepth 100000 in
theorem dL_law_254 : decode cL_law 254 = .ok (.isub, 1) := by decide +kernel
set_option maxRecDepth 100000 in
theorem dL_law_255 : decode cL_law 255 = .ok (.if_icmp .ne 28, 3) := by decide +kernel
set_option maxRecDepth 100000 in
theorem dL_law_258 : decode cL_law 258 = .ok (.aload_n 1, 1) := by decide +kernel
set_option maxRecDepth 100000 in
theorem dL_law_259 : decode cL_law 259 = .ok (.bipush 7, 2) := by decide +kernel
set_option maxRecDepth 100000 in
theorem dL_law_261 : decode cL_law 261 = .ok (.invokevirtual 13, 3) := by decide +kernel
set_option maxRecDepth 100000 in
theorem dL_law_264 : decode cL_law 264 = .ok (.iconst 1, 1) := by decide +kernel
set_option maxRecDepth 100000 in
theorem dL_law_265 : decode cL_law 265 = .ok (.if_icmp .ne 18, 3) := by decide +kernel
set_option maxRecDepth 100000 in
theorem dL_law_268 : decode cL_law 268 = .ok (.aload_n 1, 1) := by decide +kernel
set_option maxRecDepth 100000 in
theorem dL_law_269 : decode cL_law 269 = .ok (.bipush 12, 2) := by decide +kernel
set_option maxRecDepth 100000 in
theorem dL_law_271 : decode cL_law 271 = .ok (.invokevirtual 13, 3) := by decide +kernel
set_option maxRecDepth 100000 in
theorem dL_law_274 : decode cL_law 274 = .ok (.iload 9, 2) := by decide +kernel
set_option maxRecDepth 100000 in
theorem dL_law_276 : decode cL_law 276 = .ok (.if_icmp .ne 7, 3) := by decide +kernel
set_option maxRecDepth 100000 in
theorem dL_law_279 : decode cL_law 279 = .ok (.iconst 1, 1) := by decide +kernel
set_option maxRecDepth 100000 in
theorem dL_law_280 : decode cL_law 280 = .ok (.goto 4, 3) := by decide +kernel
set_option maxRecDepth 100000 in
theorem dL_law_283 : decode cL_law 283 = .ok (.iconst 0, 1) := by decide +kernel
set_option maxRecDepth 100000 in
theorem dL_law_284 : decode cL_law 284 = .ok (.istore_n 2, 1) := by decide +kernel
set_option maxRecDepth 100000 in
theorem dL_law_285 : decode cL_law 285 = .ok (.iload_n 2, 1) := by decide +kernel
set_option maxRecDepth 100000 in
theorem dL_law_286 : decode cL_law 286 = .ok (.ifCond .eq 53, 3) := by decide +kernel
set_option maxRecDepth 100000 in
theorem dL_law_289 : decode cL_law 289 = .ok (.iload 11, 2) := by decide +kernel
set_option maxRecDepth 100000 in
theorem dL_law_291 : decode cL_law 291 = .ok (.ifCond .lt 48, 3) := by decide +kernel
set_option maxRecDepth 100000 in
theorem dL_law_294 : decode cL_law 294 = .ok (.iload 4, 2) := by decide +kernel
set_option maxRecDepth 100000 in
theorem dL_law_296 : decode cL_law 296 = .ok (.bipush 25, 2) := by decide +kernel
set_option maxRecDepth 100000 in
theorem dL_law_298 : decode cL_law 298 = .ok (.ishr, 1) := by decide +kernel
set_option maxRecDepth 100000 in
theorem dL_law_299 : decode cL_law 299 = .ok (.iconst 3, 1) := by decide +kernel
set_option maxRecDepth 100000 in
theorem dL_law_300 : decode cL_law 300 = .ok (.iand, 1) := by decide +kernel
set_option maxRecDepth 100000 in
theorem dL_law_301 : decode cL_law 301 = .ok (.ifCond .ne 38, 3) := by decide +kernel
set_option maxRecDepth 100000 in
theorem dL_law_304 : decode cL_law 304 = .ok (.aload_n 1, 1) := by decide +kernel
set_option maxRecDepth 100000 in
theorem dL_law_305 : decode cL_law 305 = .ok (.invokevirtual 119, 3) := by decide +kernel
set_option maxRecDepth 100000 in
theorem dL_law_308 : decode cL_law 308 = .ok (.iload 8, 2) := by decide +kernel
set_option maxRecDepth 100000 in
theorem dL_law_310 : decode cL_law 310 = .ok (.iconst 5, 1) := by decide +kernel
set_option maxRecDepth 100000 in
theorem dL_law_311 : decode cL_law 311 = .ok (.if_icmp .ne 7, 3) := by decide +kernel
set_option maxRecDepth 100000 in
theorem dL_law_314 : decode cL_law 314 = .ok (.iconst 4, 1) := by decide +kernel
set_option maxRecDepth 100000 in
theorem dL_law_315 : decode cL_law 315 = .ok (.goto 5, 3) := by decide +kernel
set_option maxRecDepth 100000 in
theorem dL_law_318 : decode cL_law 318 = .ok (.iload 8, 2) := by decide +kernel
set_option maxRecDepth 100000 in
theorem dL_law_320 : decode cL_law 320 = .ok (.if_icmp .ne 17, 3) := by decide +kernel
set_option maxRecDepth 100000 in
theorem dL_law_323 : decode cL_law 323 = .ok (.aload_n 1, 1) := by decide +kernel
set_option maxRecDepth 100000 in
theorem dL_law_324 : decode cL_law 324 = .ok (.invokestatic 29, 3) := by decide +kernel
set_option maxRecDepth 100000 in
theorem dL_law_327 : decode cL_law 327 = .ok (.lload 6, 2) := by decide +kernel
set_option maxRecDepth 100000 in
theorem dL_law_329 : decode cL_law 329 = .ok (.lcmp, 1) := by decide +kernel
set_option maxRecDepth 100000 in
theorem dL_law_330 : decode cL_law 330 = .ok (.ifCond .ne 7, 3) := by decide +kernel
set_option maxRecDepth 100000 in
theorem dL_law_333 : decode cL_law 333 = .ok (.iconst 1, 1) := by decide +kernel
set_option maxRecDepth 100000 in
theorem dL_law_334 : decode cL_law 334 = .ok (.goto 4, 3) := by decide +kernel
set_option maxRecDepth 100000 in
theorem dL_law_337 : decode cL_law 337 = .ok (.iconst 0, 1) := by decide +kernel
set_option maxRecDepth 100000 in
theorem dL_law_338 : decode cL_law 338 = .ok (.istore_n 2, 1) := by decide +kernel
set_option maxRecDepth 100000 in
theorem dL_law_339 : decode cL_law 339 = .ok (.iload_n 2, 1) := by decide +kernel
set_option maxRecDepth 100000 in
theorem dL_law_340 : decode cL_law 340 = .ok (.ifCond .eq 96, 3) := by decide +kernel
set_option maxRecDepth 100000 in
theorem dL_law_343 : decode cL_law 343 = .ok (.iload_n 3, 1) := by decide +kernel
set_option maxRecDepth 100000 in
theorem dL_law_344 : decode cL_law 344 = .ok (.iconst 2, 1) := by decide +kernel
set_option maxRecDepth 100000 in
theorem dL_law_345 : decode cL_law 345 = .ok (.irem, 1) := by decide +kernel
set_option maxRecDepth 100000 in
theorem dL_law_346 : decode cL_law 346 = .ok (.iconst 1, 1) := by decide +kernel
set_option maxRecDepth 100000 in
theorem dL_law_347 : decode cL_law 347 = .ok (.if_icmp .eq 10, 3) := by decide +kernel
set_option maxRecDepth 100000 in
theorem dL_law_350 : decode cL_law 350 = .ok (.aload_n 1, 1) := by decide +kernel
set_option maxRecDepth 100000 in
theorem dL_law_351 : decode cL_law 351 = .ok (.invokestatic 126, 3) := by decide +kernel
set_option maxRecDepth 100000 in
theorem dL_law_354 : decode cL_law 354 = .ok (.ifCond .eq 82, 3) := by decide +kernel
set_option maxRecDepth 100000 in
theorem dL_law_357 : decode cL_law 357 = .ok (.iload_n 3, 1) := by decide +kernel
set_option maxRecDepth 100000 in
theorem dL_law_358 : decode cL_law 358 = .ok (.iconst 3, 1) := by decide +kernel
set_option maxRecDepth 100000 in
theorem dL_law_359 : decode cL_law 359 = .ok (.irem, 1) := by decide +kernel
set_option maxRecDepth 100000 in
theorem dL_law_360 : decode cL_law 360 = .ok (.iconst 2, 1) := by decide +kernel
set_option maxRecDepth 100000 in
theorem dL_law_361 : decode cL_law 361 = .ok (.if_icmp .ne 27, 3) := by decide +kernel
set_option maxRecDepth 100000 in
theorem dL_law_364 : decode cL_law 364 = .ok (.aload_n 1, 1) := by decide +kernel
set_option maxRecDepth 100000 in
theorem dL_law_365 : decode cL_law 365 = .ok (.aload_n 1, 1) := by decide +kernel
set_option maxRecDepth 100000 in
theorem dL_law_366 : decode cL_law 366 = .ok (.iload 5, 2) := by decide +kernel
set_option maxRecDepth 100000 in
theorem dL_law_368 : decode cL_law 368 = .ok (.iconst 3, 1) := by decide +kernel
set_option maxRecDepth 100000 in
theorem dL_law_369 : decode cL_law 369 = .ok (.idiv, 1) := by decide +kernel
set_option maxRecDepth 100000 in
theorem dL_law_370 : decode cL_law 370 = .ok (.invokestatic 100, 3) := by decide +kernel
set_option maxRecDepth 100000 in
theorem dL_law_373 : decode cL_law 373 = .ok (.aload_n 1, 1) := by decide +kernel
set_option maxRecDepth 100000 in
theorem dL_law_374 : decode cL_law 374 = .ok (.iload 5, 2) := by decide +kernel
set_option maxRecDepth 100000 in
theorem dL_law_376 : decode cL_law 376 = .ok (.bipush 11, 2) := by decide +kernel
set_option maxRecDepth 100000 in
theorem dL_law_378 : decode cL_law 378 = .ok (.idiv, 1) := by decide +kernel
set_option maxRecDepth 100000 in
theorem dL_law_379 : decode cL_law 379 = .ok (.invokestatic 100, 3) := by decide +kernel
set_option maxRecDepth 100000 in
theorem dL_law_382 : decode cL_law 382 = .ok (.invokestatic 129, 3) := by decide +kernel
set_option maxRecDepth 100000 in
theorem dL_law_385 : decode cL_law 385 = .ok (.ifCond .eq 51, 3) := by decide +kernel
set_option maxRecDepth 100000 in
theorem dL_law_388 : decode cL_law 388 = .ok (.aload_n 1, 1) := by decide +kernel
set_option maxRecDepth 100000 in
theorem dL_law_389 : decode cL_law 389 = .ok (.invokestatic 143, 3) := by decide +kernel
set_option maxRecDepth 100000 in
theorem dL_law_392 : decode cL_law 392 = .ok (.ifCond .eq 44, 3) := by decide +kernel
set_option maxRecDepth 100000 in
theorem dL_law_395 : decode cL_law 395 = .ok (.iload_n 3, 1) := by decide +kernel
set_option maxRecDepth 100000 in
theorem dL_law_396 : decode cL_law 396 = .ok (.iconst 4, 1) := by decide +kernel
set_option maxRecDepth 100000 in
theorem dL_law_397 : decode cL_law 397 = .ok (.irem, 1) := by decide +kernel
set_option maxRecDepth 100000 in
theorem dL_law_398 : decode cL_law 398 = .ok (.iconst 1, 1) := by decide +kernel
set_option maxRecDepth 100000 in
theorem dL_law_399 : decode cL_law 399 = .ok (.if_icmp .ne 17, 3) := by decide +kernel
set_option maxRecDepth 100000 in
theorem dL_law_402 : decode cL_law 402 = .ok (.aload_n 1, 1) := by decide +kernel
set_option maxRecDepth 100000 in
theorem dL_law_403 : decode cL_law 403 = .ok (.iconst 1, 1) := by decide +kernel
set_option maxRecDepth 100000 in
theorem dL_law_404 : decode cL_law 404 = .ok (.iload 5, 2) := by decide +kernel
set_option maxRecDepth 100000 in
theorem dL_law_406 : decode cL_law 406 = .ok (.bipush 40, 2) := by decide +kernel
set_option maxRecDepth 100000 in
theorem dL_law_408 : decode cL_law 408 = .ok (.irem, 1) := by decide +kernel
set_option maxRecDepth 100000 in
theorem dL_law_409 : decode cL_law 409 = .ok (.iadd, 1) := by decide +kernel
set_option maxRecDepth 100000 in
theorem dL_law_410 : decode cL_law 410 = .ok (.invokestatic 146, 3) := by decide +kernel
set_option maxRecDepth 100000 in
theorem dL_law_413 : decode cL_law 413 = .ok (.ifCond .eq 23, 3) := by decide +kernel
set_option maxRecDepth 100000 in
theorem dL_law_416 : decode cL_law 416 = .ok (.iload_n 3, 1) := by decide +kernel
set_option maxRecDepth 100000 in
theorem dL_law_417 : decode cL_law 417 = .ok (.bipush 10, 2) := by decide +kernel
set_option maxRecDepth 100000 in
theorem dL_law_419 : decode cL_law 419 = .ok (.irem, 1) := by decide +kernel
set_option maxRecDepth 100000 in
theorem dL_law_420 : decode cL_law 420 = .ok (.bipush 6, 2) := by decide +kernel
set_option maxRecDepth 100000 in
theorem dL_law_422 : decode cL_law 422 = .ok (.if_icmp .ne 10, 3) := by decide +kernel
set_option maxRecDepth 100000 in
theorem dL_law_425 : decode cL_law 425 = .ok (.aload_n 1, 1) := by decide +kernel
set_option maxRecDepth 100000 in
theorem dL_law_426 : decode cL_law 426 = .ok (.invokestatic 122, 3) := by decide +kernel
set_option maxRecDepth 100000 in
theorem dL_law_429 : decode cL_law 429 = .ok (.ifCond .eq 7, 3) := by decide +kernel
set_option maxRecDepth 100000 in
theorem dL_law_432 : decode cL_law 432 = .ok (.iconst 1, 1) := by decide +kernel
set_option maxRecDepth 100000 in
theorem dL_law_433 : decode cL_law 433 = .ok (.goto 4, 3) := by decide +kernel
set_option maxRecDepth 100000 in
theorem dL_law_436 : decode cL_law 436 = .ok (.iconst 0, 1) := by decide +kernel
set_option maxRecDepth 100000 in
theorem dL_law_437 : decode cL_law 437 = .ok (.istore_n 2, 1) := by decide +kernel
set_option maxRecDepth 100000 in
theorem dL_law_438 : decode cL_law 438 = .ok (.iinc 3 1, 3) := by decide +kernel
set_option maxRecDepth 100000 in
theorem dL_law_441 : decode cL_law 441 = .ok (.goto (-392), 3) := by decide +kernel
set_option maxRecDepth 100000 in
theorem dL_law_444 : decode cL_law 444 = .ok (.iload_n 2, 1) := by decide +kernel
set_option maxRecDepth 100000 in
theorem dL_law_445 : decode cL_law 445 = .ok (.ifCond .eq 21, 3) := by decide +kernel
set_option maxRecDepth 100000 in
theorem dL_law_448 : decode cL_law 448 = .ok (.aload_n 1, 1) := by decide +kernel
set_option maxRecDepth 100000 in
theorem dL_law_449 : decode cL_law 449 = .ok (.invokestatic 122, 3) := by decide +kernel
set_option maxRecDepth 100000 in
theorem dL_law_452 : decode cL_law 452 = .ok (.ifCond .eq 14, 3) := by decide +kernel
set_option maxRecDepth 100000 in
theorem dL_law_455 : decode cL_law 455 = .ok (.aload_n 1, 1) := by decide +kernel
set_option maxRecDepth 100000 in
theorem dL_law_456 : decode cL_law 456 = .ok (.invokestatic 126, 3) := by decide +kernel
set_option maxRecDepth 100000 in
theorem dL_law_459 : decode cL_law 459 = .ok (.ifCond .eq 7, 3) := by decide +kernel
set_option maxRecDepth 100000 in
theorem dL_law_462 : decode cL_law 462 = .ok (.iconst 1, 1) := by decide +kernel
set_option maxRecDepth 100000 in
theorem dL_law_463 : decode cL_law 463 = .ok (.goto 4, 3) := by decide +kernel
set_option maxRecDepth 100000 in
theorem dL_law_466 : decode cL_law 466 = .ok (.iconst 0, 1) := by decide +kernel
set_option maxRecDepth 100000 in
theorem dL_law_467 : decode cL_law 467 = .ok (.ireturn, 1) := by decide +kernel

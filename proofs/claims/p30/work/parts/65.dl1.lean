-- the law's instructions
set_option maxRecDepth 100000 in
theorem dL_refused_216 : decode cL_refused 216 = .ok (.iload 5, 2) := by decide +kernel
set_option maxRecDepth 100000 in
theorem dL_refused_218 : decode cL_refused 218 = .ok (.invokevirtual 63, 3) := by decide +kernel
set_option maxRecDepth 100000 in
theorem dL_refused_221 : decode cL_refused 221 = .ok (.iconst (-1), 1) := by decide +kernel
set_option maxRecDepth 100000 in
theorem dL_refused_222 : decode cL_refused 222 = .ok (.if_icmp .ne 159, 3) := by decide +kernel
set_option maxRecDepth 100000 in
theorem dL_refused_225 : decode cL_refused 225 = .ok (.aload_n 0, 1) := by decide +kernel
set_option maxRecDepth 100000 in
theorem dL_refused_226 : decode cL_refused 226 = .ok (.iload 5, 2) := by decide +kernel
set_option maxRecDepth 100000 in
theorem dL_refused_228 : decode cL_refused 228 = .ok (.iload 5, 2) := by decide +kernel
set_option maxRecDepth 100000 in
theorem dL_refused_230 : decode cL_refused 230 = .ok (.iconst (-1), 1) := by decide +kernel
set_option maxRecDepth 100000 in
theorem dL_refused_231 : decode cL_refused 231 = .ok (.invokevirtual 66, 3) := by decide +kernel
set_option maxRecDepth 100000 in
theorem dL_refused_234 : decode cL_refused 234 = .ok (.iconst (-1), 1) := by decide +kernel
set_option maxRecDepth 100000 in
theorem dL_refused_235 : decode cL_refused 235 = .ok (.if_icmp .ne 146, 3) := by decide +kernel
set_option maxRecDepth 100000 in
theorem dL_refused_238 : decode cL_refused 238 = .ok (.aload_n 0, 1) := by decide +kernel
set_option maxRecDepth 100000 in
theorem dL_refused_239 : decode cL_refused 239 = .ok (.iload 5, 2) := by decide +kernel
set_option maxRecDepth 100000 in
theorem dL_refused_241 : decode cL_refused 241 = .ok (.iload 5, 2) := by decide +kernel
set_option maxRecDepth 100000 in
theorem dL_refused_243 : decode cL_refused 243 = .ok (.iconst 1, 1) := by decide +kernel
set_option maxRecDepth 100000 in
theorem dL_refused_244 : decode cL_refused 244 = .ok (.invokevirtual 66, 3) := by decide +kernel
set_option maxRecDepth 100000 in
theorem dL_refused_247 : decode cL_refused 247 = .ok (.bipush (-4), 2) := by decide +kernel
set_option maxRecDepth 100000 in
theorem dL_refused_249 : decode cL_refused 249 = .ok (.if_icmp .ne 132, 3) := by decide +kernel
set_option maxRecDepth 100000 in
theorem dL_refused_252 : decode cL_refused 252 = .ok (.aload_n 0, 1) := by decide +kernel
set_option maxRecDepth 100000 in
theorem dL_refused_253 : decode cL_refused 253 = .ok (.iload 5, 2) := by decide +kernel
set_option maxRecDepth 100000 in
theorem dL_refused_255 : decode cL_refused 255 = .ok (.iconst 2, 1) := by decide +kernel
set_option maxRecDepth 100000 in
theorem dL_refused_256 : decode cL_refused 256 = .ok (.invokevirtual 69, 3) := by decide +kernel
set_option maxRecDepth 100000 in
theorem dL_refused_259 : decode cL_refused 259 = .ok (.iconst (-1), 1) := by decide +kernel
set_option maxRecDepth 100000 in
theorem dL_refused_260 : decode cL_refused 260 = .ok (.if_icmp .ne 121, 3) := by decide +kernel
set_option maxRecDepth 100000 in
theorem dL_refused_263 : decode cL_refused 263 = .ok (.aload_n 0, 1) := by decide +kernel
set_option maxRecDepth 100000 in
theorem dL_refused_264 : decode cL_refused 264 = .ok (.iconst (-1), 1) := by decide +kernel
set_option maxRecDepth 100000 in
theorem dL_refused_265 : decode cL_refused 265 = .ok (.invokevirtual 72, 3) := by decide +kernel
set_option maxRecDepth 100000 in
theorem dL_refused_268 : decode cL_refused 268 = .ok (.iconst (-1), 1) := by decide +kernel
set_option maxRecDepth 100000 in
theorem dL_refused_269 : decode cL_refused 269 = .ok (.if_icmp .ne 112, 3) := by decide +kernel
set_option maxRecDepth 100000 in
theorem dL_refused_272 : decode cL_refused 272 = .ok (.aload_n 0, 1) := by decide +kernel
set_option maxRecDepth 100000 in
theorem dL_refused_273 : decode cL_refused 273 = .ok (.iload 5, 2) := by decide +kernel
set_option maxRecDepth 100000 in
theorem dL_refused_275 : decode cL_refused 275 = .ok (.iconst 3, 1) := by decide +kernel
set_option maxRecDepth 100000 in
theorem dL_refused_276 : decode cL_refused 276 = .ok (.iconst 0, 1) := by decide +kernel
set_option maxRecDepth 100000 in
theorem dL_refused_277 : decode cL_refused 277 = .ok (.invokevirtual 75, 3) := by decide +kernel
set_option maxRecDepth 100000 in
theorem dL_refused_280 : decode cL_refused 280 = .ok (.iconst (-1), 1) := by decide +kernel
set_option maxRecDepth 100000 in
theorem dL_refused_281 : decode cL_refused 281 = .ok (.if_icmp .ne 100, 3) := by decide +kernel
set_option maxRecDepth 100000 in
theorem dL_refused_284 : decode cL_refused 284 = .ok (.aload_n 0, 1) := by decide +kernel
set_option maxRecDepth 100000 in
theorem dL_refused_285 : decode cL_refused 285 = .ok (.iload 5, 2) := by decide +kernel
set_option maxRecDepth 100000 in
theorem dL_refused_287 : decode cL_refused 287 = .ok (.iconst 0, 1) := by decide +kernel
set_option maxRecDepth 100000 in
theorem dL_refused_288 : decode cL_refused 288 = .ok (.iconst 1, 1) := by decide +kernel
set_option maxRecDepth 100000 in
theorem dL_refused_289 : decode cL_refused 289 = .ok (.invokevirtual 75, 3) := by decide +kernel
set_option maxRecDepth 100000 in
theorem dL_refused_292 : decode cL_refused 292 = .ok (.iconst (-1), 1) := by decide +kernel
set_option maxRecDepth 100000 in
theorem dL_refused_293 : decode cL_refused 293 = .ok (.if_icmp .ne 88, 3) := by decide +kernel
set_option maxRecDepth 100000 in
theorem dL_refused_296 : decode cL_refused 296 = .ok (.aload_n 0, 1) := by decide +kernel
set_option maxRecDepth 100000 in
theorem dL_refused_297 : decode cL_refused 297 = .ok (.iconst (-1), 1) := by decide +kernel
set_option maxRecDepth 100000 in
theorem dL_refused_298 : decode cL_refused 298 = .ok (.iconst 0, 1) := by decide +kernel
set_option maxRecDepth 100000 in
theorem dL_refused_299 : decode cL_refused 299 = .ok (.iconst 0, 1) := by decide +kernel
set_option maxRecDepth 100000 in
theorem dL_refused_300 : decode cL_refused 300 = .ok (.invokevirtual 75, 3) := by decide +kernel
set_option maxRecDepth 100000 in
theorem dL_refused_303 : decode cL_refused 303 = .ok (.iconst (-1), 1) := by decide +kernel
set_option maxRecDepth 100000 in
theorem dL_refused_304 : decode cL_refused 304 = .ok (.if_icmp .ne 77, 3) := by decide +kernel
set_option maxRecDepth 100000 in
theorem dL_refused_307 : decode cL_refused 307 = .ok (.aload_n 0, 1) := by decide +kernel
set_option maxRecDepth 100000 in
theorem dL_refused_308 : decode cL_refused 308 = .ok (.iconst (-1), 1) := by decide +kernel
set_option maxRecDepth 100000 in
theorem dL_refused_309 : decode cL_refused 309 = .ok (.invokevirtual 78, 3) := by decide +kernel
set_option maxRecDepth 100000 in
theorem dL_refused_312 : decode cL_refused 312 = .ok (.iconst (-1), 1) := by decide +kernel
set_option maxRecDepth 100000 in
theorem dL_refused_313 : decode cL_refused 313 = .ok (.if_icmp .ne 68, 3) := by decide +kernel
set_option maxRecDepth 100000 in
theorem dL_refused_316 : decode cL_refused 316 = .ok (.aload_n 0, 1) := by decide +kernel
set_option maxRecDepth 100000 in
theorem dL_refused_317 : decode cL_refused 317 = .ok (.iload 4, 2) := by decide +kernel
set_option maxRecDepth 100000 in
theorem dL_refused_319 : decode cL_refused 319 = .ok (.invokevirtual 22, 3) := by decide +kernel
set_option maxRecDepth 100000 in
theorem dL_refused_322 : decode cL_refused 322 = .ok (.iconst (-1), 1) := by decide +kernel
set_option maxRecDepth 100000 in
theorem dL_refused_323 : decode cL_refused 323 = .ok (.if_icmp .ne 58, 3) := by decide +kernel
set_option maxRecDepth 100000 in
theorem dL_refused_326 : decode cL_refused 326 = .ok (.aload_n 0, 1) := by decide +kernel
set_option maxRecDepth 100000 in
theorem dL_refused_327 : decode cL_refused 327 = .ok (.iconst (-1), 1) := by decide +kernel
set_option maxRecDepth 100000 in
theorem dL_refused_328 : decode cL_refused 328 = .ok (.iconst 0, 1) := by decide +kernel
set_option maxRecDepth 100000 in
theorem dL_refused_329 : decode cL_refused 329 = .ok (.invokevirtual 25, 3) := by decide +kernel
set_option maxRecDepth 100000 in
theorem dL_refused_332 : decode cL_refused 332 = .ok (.iconst (-1), 1) := by decide +kernel
set_option maxRecDepth 100000 in
theorem dL_refused_333 : decode cL_refused 333 = .ok (.if_icmp .ne 48, 3) := by decide +kernel
set_option maxRecDepth 100000 in
theorem dL_refused_336 : decode cL_refused 336 = .ok (.aload_n 0, 1) := by decide +kernel
set_option maxRecDepth 100000 in
theorem dL_refused_337 : decode cL_refused 337 = .ok (.sipush 2001, 3) := by decide +kernel
set_option maxRecDepth 100000 in
theorem dL_refused_340 : decode cL_refused 340 = .ok (.iconst 1, 1) := by decide +kernel
set_option maxRecDepth 100000 in
theorem dL_refused_341 : decode cL_refused 341 = .ok (.invokevirtual 25, 3) := by decide +kernel
set_option maxRecDepth 100000 in
theorem dL_refused_344 : decode cL_refused 344 = .ok (.iconst (-1), 1) := by decide +kernel
set_option maxRecDepth 100000 in
theorem dL_refused_345 : decode cL_refused 345 = .ok (.if_icmp .ne 36, 3) := by decide +kernel
set_option maxRecDepth 100000 in
theorem dL_refused_348 : decode cL_refused 348 = .ok (.aload_n 0, 1) := by decide +kernel
set_option maxRecDepth 100000 in
theorem dL_refused_349 : decode cL_refused 349 = .ok (.iconst 5, 1) := by decide +kernel
set_option maxRecDepth 100000 in
theorem dL_refused_350 : decode cL_refused 350 = .ok (.iconst (-1), 1) := by decide +kernel
set_option maxRecDepth 100000 in
theorem dL_refused_351 : decode cL_refused 351 = .ok (.invokevirtual 25, 3) := by decide +kernel
set_option maxRecDepth 100000 in
theorem dL_refused_354 : decode cL_refused 354 = .ok (.iconst (-1), 1) := by decide +kernel
set_option maxRecDepth 100000 in
theorem dL_refused_355 : decode cL_refused 355 = .ok (.if_icmp .ne 26, 3) := by decide +kernel
set_option maxRecDepth 100000 in
theorem dL_refused_358 : decode cL_refused 358 = .ok (.aload_n 0, 1) := by decide +kernel
set_option maxRecDepth 100000 in
theorem dL_refused_359 : decode cL_refused 359 = .ok (.bipush 31, 2) := by decide +kernel
set_option maxRecDepth 100000 in
theorem dL_refused_361 : decode cL_refused 361 = .ok (.invokevirtual 81, 3) := by decide +kernel
set_option maxRecDepth 100000 in
theorem dL_refused_364 : decode cL_refused 364 = .ok (.iconst (-1), 1) := by decide +kernel
set_option maxRecDepth 100000 in
theorem dL_refused_365 : decode cL_refused 365 = .ok (.if_icmp .ne 16, 3) := by decide +kernel
set_option maxRecDepth 100000 in
theorem dL_refused_368 : decode cL_refused 368 = .ok (.aload_n 0, 1) := by decide +kernel
set_option maxRecDepth 100000 in
theorem dL_refused_369 : decode cL_refused 369 = .ok (.iconst (-1), 1) := by decide +kernel
set_option maxRecDepth 100000 in
theorem dL_refused_370 : decode cL_refused 370 = .ok (.invokevirtual 84, 3) := by decide +kernel
set_option maxRecDepth 100000 in
theorem dL_refused_373 : decode cL_refused 373 = .ok (.iconst (-1), 1) := by decide +kernel
set_option maxRecDepth 100000 in
theorem dL_refused_374 : decode cL_refused 374 = .ok (.if_icmp .ne 7, 3) := by decide +kernel
set_option maxRecDepth 100000 in
theorem dL_refused_377 : decode cL_refused 377 = .ok (.iconst 1, 1) := by decide +kernel
set_option maxRecDepth 100000 in
theorem dL_refused_378 : decode cL_refused 378 = .ok (.goto 4, 3) := by decide +kernel
set_option maxRecDepth 100000 in
theorem dL_refused_381 : decode cL_refused 381 = .ok (.iconst 0, 1) := by decide +kernel
set_option maxRecDepth 100000 in
theorem dL_refused_382 : decode cL_refused 382 = .ok (.istore 6, 2) := by decide +kernel
set_option maxRecDepth 100000 in
theorem dL_refused_384 : decode cL_refused 384 = .ok (.iload 6, 2) := by decide +kernel
set_option maxRecDepth 100000 in
theorem dL_refused_386 : decode cL_refused 386 = .ok (.ifCond .eq 26, 3) := by decide +kernel
set_option maxRecDepth 100000 in
theorem dL_refused_389 : decode cL_refused 389 = .ok (.aload_n 0, 1) := by decide +kernel
set_option maxRecDepth 100000 in
theorem dL_refused_390 : decode cL_refused 390 = .ok (.invokestatic 29, 3) := by decide +kernel
set_option maxRecDepth 100000 in
theorem dL_refused_393 : decode cL_refused 393 = .ok (.lload_n 1, 1) := by decide +kernel
set_option maxRecDepth 100000 in
theorem dL_refused_394 : decode cL_refused 394 = .ok (.lcmp, 1) := by decide +kernel
set_option maxRecDepth 100000 in
theorem dL_refused_395 : decode cL_refused 395 = .ok (.ifCond .ne 17, 3) := by decide +kernel
set_option maxRecDepth 100000 in
theorem dL_refused_398 : decode cL_refused 398 = .ok (.aload_n 0, 1) := by decide +kernel
set_option maxRecDepth 100000 in
theorem dL_refused_399 : decode cL_refused 399 = .ok (.bipush 14, 2) := by decide +kernel
set_option maxRecDepth 100000 in
theorem dL_refused_401 : decode cL_refused 401 = .ok (.invokevirtual 13, 3) := by decide +kernel
set_option maxRecDepth 100000 in
theorem dL_refused_404 : decode cL_refused 404 = .ok (.iload_n 3, 1) := by decide +kernel
set_option maxRecDepth 100000 in
theorem dL_refused_405 : decode cL_refused 405 = .ok (.if_icmp .ne 7, 3) := by decide +kernel
set_option maxRecDepth 100000 in
theorem dL_refused_408 : decode cL_refused 408 = .ok (.iconst 1, 1) := by decide +kernel
set_option maxRecDepth 100000 in
theorem dL_refused_409 : decode cL_refused 409 = .ok (.goto 4, 3) := by decide +kernel
set_option maxRecDepth 100000 in
theorem dL_refused_412 : decode cL_refused 412 = .ok (.iconst 0, 1) := by decide +kernel
set_option maxRecDepth 100000 in
theorem dL_refused_413 : decode cL_refused 413 = .ok (.ireturn, 1) := by decide +kernel
set_option maxRecDepth 100000 in
theorem dL_ones_0 : decode cL_ones 0 = .ok (.iload_n 0, 1) := by decide +kernel
set_option maxRecDepth 100000 in
theorem dL_ones_1 : decode cL_ones 1 = .ok (.iconst 1, 1) := by decide +kernel
set_option maxRecDepth 100000 in
theorem dL_ones_2 : decode cL_ones 2 = .ok (.iand, 1) := by decide +kernel
set_option maxRecDepth 100000 in
theorem dL_ones_3 : decode cL_ones 3 = .ok (.iload_n 0, 1) := by decide +kernel
set_option maxRecDepth 100000 in
theorem dL_ones_4 : decode cL_ones 4 = .ok (.iconst 1, 1) := by decide +kernel
set_option maxRecDepth 100000 in
theorem dL_ones_5 : decode cL_ones 5 = .ok (.ishr, 1) := by decide +kernel
set_option maxRecDepth 100000 in
theorem dL_ones_6 : decode cL_ones 6 = .ok (.iconst 1, 1) := by decide +kernel
set_option maxRecDepth 100000 in
theorem dL_ones_7 : decode cL_ones 7 = .ok (.iand, 1) := by decide +kernel
set_option maxRecDepth 100000 in
theorem dL_ones_8 : decode cL_ones 8 = .ok (.iadd, 1) := by decide +kernel
set_option maxRecDepth 100000 in
theorem dL_ones_9 : decode cL_ones 9 = .ok (.iload_n 0, 1) := by decide +kernel
set_option maxRecDepth 100000 in
theorem dL_ones_10 : decode cL_ones 10 = .ok (.iconst 2, 1) := by decide +kernel
set_option maxRecDepth 100000 in
theorem dL_ones_11 : decode cL_ones 11 = .ok (.ishr, 1) := by decide +kernel
set_option maxRecDepth 100000 in
theorem dL_ones_12 : decode cL_ones 12 = .ok (.iconst 1, 1) := by decide +kernel
set_option maxRecDepth 100000 in
theorem dL_ones_13 : decode cL_ones 13 = .ok (.iand, 1) := by decide +kernel
set_option maxRecDepth 100000 in
theorem dL_ones_14 : decode cL_ones 14 = .ok (.iadd, 1) := by decide +kernel
set_option maxRecDepth 100000 in
theorem dL_ones_15 : decode cL_ones 15 = .ok (.iload_n 0, 1) := by decide +kernel
set_option maxRecDepth 100000 in
theorem dL_ones_16 : decode cL_ones 16 = .ok (.iconst 3, 1) := by decide +kernel
set_option maxRecDepth 100000 in
theorem dL_ones_17 : decode cL_ones 17 = .ok (.ishr, 1) := by decide +kernel
set_option maxRecDepth 100000 in
theorem dL_ones_18 : decode cL_ones 18 = .ok (.iconst 1, 1) := by decide +kernel
set_option maxRecDepth 100000 in
theorem dL_ones_19 : decode cL_ones 19 = .ok (.iand, 1) := by decide +kernel
set_option maxRecDepth 100000 in
theorem dL_ones_20 : decode cL_ones 20 = .ok (.iadd, 1) := by decide +kernel
set_option maxRecDepth 100000 in
theorem dL_ones_21 : decode cL_ones 21 = .ok (.ireturn, 1) := by decide +kernel
set_option maxRecDepth 100000 in
theorem dL_beside_0 : decode cL_beside 0 = .ok (.iload_n 2, 1) := by decide +kernel
set_option maxRecDepth 100000 in
theorem dL_beside_1 : decode cL_beside 1 = .ok (.ifCond .ne 9, 3) := by decide +kernel
set_option maxRecDepth 100000 in
theorem dL_beside_4 : decode cL_beside 4 = .ok (.iload_n 1, 1) := by decide +kernel
set_option maxRecDepth 100000 in
theorem dL_beside_5 : decode cL_beside 5 = .ok (.iload_n 0, 1) := by decide +kernel
set_option maxRecDepth 100000 in
theorem dL_beside_6 : decode cL_beside 6 = .ok (.isub, 1) := by decide +kernel
set_option maxRecDepth 100000 in
theorem dL_beside_7 : decode cL_beside 7 = .ok (.goto 28, 3) := by decide +kernel
set_option maxRecDepth 100000 in
theorem dL_beside_10 : decode cL_beside 10 = .ok (.iload_n 2, 1) := by decide +kernel
set_option maxRecDepth 100000 in
theorem dL_beside_11 : decode cL_beside 11 = .ok (.iconst 1, 1) := by decide +kernel
set_option maxRecDepth 100000 in
theorem dL_beside_12 : decode cL_beside 12 = .ok (.if_icmp .ne 9, 3) := by decide +kernel
set_option maxRecDepth 100000 in
theorem dL_beside_15 : decode cL_beside 15 = .ok (.iload_n 1, 1) := by decide +kernel
set_option maxRecDepth 100000 in
theorem dL_beside_16 : decode cL_beside 16 = .ok (.iconst 1, 1) := by decide +kernel
set_option maxRecDepth 100000 in
theorem dL_beside_17 : decode cL_beside 17 = .ok (.iadd, 1) := by decide +kernel
set_option maxRecDepth 100000 in
theorem dL_beside_18 : decode cL_beside 18 = .ok (.goto 17, 3) := by decide +kernel
set_option maxRecDepth 100000 in
theorem dL_beside_21 : decode cL_beside 21 = .ok (.iload_n 2, 1) := by decide +kernel
set_option maxRecDepth 100000 in
theorem dL_beside_22 : decode cL_beside 22 = .ok (.iconst 2, 1) := by decide +kernel
set_option maxRecDepth 100000 in
theorem dL_beside_23 : decode cL_beside 23 = .ok (.if_icmp .ne 9, 3) := by decide +kernel
set_option maxRecDepth 100000 in
theorem dL_beside_26 : decode cL_beside 26 = .ok (.iload_n 1, 1) := by decide +kernel
set_option maxRecDepth 100000 in
theorem dL_beside_27 : decode cL_beside 27 = .ok (.iload_n 0, 1) := by decide +kernel
set_option maxRecDepth 100000 in
theorem dL_beside_28 : decode cL_beside 28 = .ok (.iadd, 1) := by decide +kernel
set_option maxRecDepth 100000 in
theorem dL_beside_29 : decode cL_beside 29 = .ok (.goto 6, 3) := by decide +kernel
set_option maxRecDepth 100000 in
theorem dL_beside_32 : decode cL_beside 32 = .ok (.iload_n 1, 1) := by decide +kernel
set_option maxRecDepth 100000 in
theorem dL_beside_33 : decode cL_beside 33 = .ok (.iconst 1, 1) := by decide +kernel
set_option maxRecDepth 100000 in
theorem dL_beside_34 : decode cL_beside 34 = .ok (.isub, 1) := by decide +kernel
set_option maxRecDepth 100000 in
theorem dL_beside_35 : decode cL_beside 35 = .ok (.ireturn, 1) := by decide +kernel
set_option maxRecDepth 100000 in
theorem dL_areDoors_0 : decode cL_areDoors 0 = .ok (.aload_n 0, 1) := by decide +kernel
set_option maxRecDepth 100000 in
theorem dL_areDoors_1 : decode cL_areDoors 1 = .ok (.iconst 1, 1) := by decide +kernel
set_option maxRecDepth 100000 in
theorem dL_areDoors_2 : decode cL_areDoors 2 = .ok (.invokevirtual 13, 3) := by decide +kernel
set_option maxRecDepth 100000 in
theorem dL_areDoors_5 : decode cL_areDoors 5 = .ok (.istore_n 1, 1) := by decide +kernel
set_option maxRecDepth 100000 in
theorem dL_areDoors_6 : decode cL_areDoors 6 = .ok (.iconst 0, 1) := by decide +kernel
set_option maxRecDepth 100000 in
theorem dL_areDoors_7 : decode cL_areDoors 7 = .ok (.istore_n 2, 1) := by decide +kernel
set_option maxRecDepth 100000 in
theorem dL_areDoors_8 : decode cL_areDoors 8 = .ok (.iconst 0, 1) := by decide +kernel
set_option maxRecDepth 100000 in
theorem dL_areDoors_9 : decode cL_areDoors 9 = .ok (.istore_n 3, 1) := by decide +kernel
set_option maxRecDepth 100000 in
theorem dL_areDoors_10 : decode cL_areDoors 10 = .ok (.iconst 0, 1) := by decide +kernel
set_option maxRecDepth 100000 in
theorem dL_areDoors_11 : decode cL_areDoors 11 = .ok (.istore 4, 2) := by decide +kernel
set_option maxRecDepth 100000 in
theorem dL_areDoors_13 : decode cL_areDoors 13 = .ok (.iconst 0, 1) := by decide +kernel
set_option maxRecDepth 100000 in
theorem dL_areDoors_14 : decode cL_areDoors 14 = .ok (.istore 5, 2) := by decide +kernel
set_option maxRecDepth 100000 in
theorem dL_areDoors_16 : decode cL_areDoors 16 = .ok (.iconst 0, 1) := by decide +kernel
set_option maxRecDepth 100000 in
theorem dL_areDoors_17 : decode cL_areDoors 17 = .ok (.istore 6, 2) := by decide +kernel
set_option maxRecDepth 100000 in
theorem dL_areDoors_19 : decode cL_areDoors 19 = .ok (.iconst 0, 1) := by decide +kernel
set_option maxRecDepth 100000 in
theorem dL_areDoors_20 : decode cL_areDoors 20 = .ok (.istore 7, 2) := by decide +kernel
set_option maxRecDepth 100000 in
theorem dL_areDoors_22 : decode cL_areDoors 22 = .ok (.iload_n 1, 1) := by decide +kernel
set_option maxRecDepth 100000 in
theorem dL_areDoors_23 : decode cL_areDoors 23 = .ok (.bipush 6, 2) := by decide +kernel
set_option maxRecDepth 100000 in
theorem dL_areDoors_25 : decode cL_areDoors 25 = .ok (.aload_n 0, 1) := by decide +kernel
set_option maxRecDepth 100000 in
theorem dL_areDoors_26 : decode cL_areDoors 26 = .ok (.iconst 0, 1) := by decide +kernel
set_option maxRecDepth 100000 in
theorem dL_areDoors_27 : decode cL_areDoors 27 = .ok (.invokevirtual 13, 3) := by decide +kernel
set_option maxRecDepth 100000 in
theorem dL_areDoors_30 : decode cL_areDoors 30 = .ok (.imul, 1) := by decide +kernel
set_option maxRecDepth 100000 in
theorem dL_areDoors_31 : decode cL_areDoors 31 = .ok (.iconst 1, 1) := by decide +kernel
set_option maxRecDepth 100000 in
theorem dL_areDoors_32 : decode cL_areDoors 32 = .ok (.isub, 1) := by decide +kernel
set_option maxRecDepth 100000 in
theorem dL_areDoors_33 : decode cL_areDoors 33 = .ok (.if_icmp .ne 7, 3) := by decide +kernel
set_option maxRecDepth 100000 in
theorem dL_areDoors_36 : decode cL_areDoors 36 = .ok (.iconst 1, 1) := by decide +kernel
set_option maxRecDepth 100000 in
theorem dL_areDoors_37 : decode cL_areDoors 37 = .ok (.goto 4, 3) := by decide +kernel
set_option maxRecDepth 100000 in
theorem dL_areDoors_40 : decode cL_areDoors 40 = .ok (.iconst 0, 1) := by decide +kernel
set_option maxRecDepth 100000 in
theorem dL_areDoors_41 : decode cL_areDoors 41 = .ok (.istore 8, 2) := by decide +kernel
set_option maxRecDepth 100000 in
theorem dL_areDoors_43 : decode cL_areDoors 43 = .ok (.iconst 0, 1) := by decide +kernel
set_option maxRecDepth 100000 in
theorem dL_areDoors_44 : decode cL_areDoors 44 = .ok (.istore 9, 2) := by decide +kernel
set_option maxRecDepth 100000 in
theorem dL_areDoors_46 : decode cL_areDoors 46 = .ok (.iload 9, 2) := by decide +kernel
set_option maxRecDepth 100000 in
theorem dL_areDoors_48 : decode cL_areDoors 48 = .ok (.bipush 6, 2) := by decide +kernel
set_option maxRecDepth 100000 in
theorem dL_areDoors_50 : decode cL_areDoors 50 = .ok (.iload_n 1, 1) := by decide +kernel
set_option maxRecDepth 100000 in
theorem dL_areDoors_51 : decode cL_areDoors 51 = .ok (.imul, 1) := by decide +kernel
set_option maxRecDepth 100000 in
theorem dL_areDoors_52 : decode cL_areDoors 52 = .ok (.if_icmp .ge 262, 3) := by decide +kernel
set_option maxRecDepth 100000 in
theorem dL_areDoors_55 : decode cL_areDoors 55 = .ok (.iload 8, 2) := by decide +kernel
set_option maxRecDepth 100000 in
theorem dL_areDoors_57 : decode cL_areDoors 57 = .ok (.ifCond .eq 257, 3) := by decide +kernel
set_option maxRecDepth 100000 in
theorem dL_areDoors_60 : decode cL_areDoors 60 = .ok (.aload_n 0, 1) := by decide +kernel
set_option maxRecDepth 100000 in
theorem dL_areDoors_61 : decode cL_areDoors 61 = .ok (.iload 9, 2) := by decide +kernel
set_option maxRecDepth 100000 in
theorem dL_areDoors_63 : decode cL_areDoors 63 = .ok (.invokevirtual 41, 3) := by decide +kernel
set_option maxRecDepth 100000 in
theorem dL_areDoors_66 : decode cL_areDoors 66 = .ok (.iconst 1, 1) := by decide +kernel
set_option maxRecDepth 100000 in
theorem dL_areDoors_67 : decode cL_areDoors 67 = .ok (.if_icmp .ne 7, 3) := by decide +kernel
set_option maxRecDepth 100000 in
theorem dL_areDoors_70 : decode cL_areDoors 70 = .ok (.iconst 1, 1) := by decide +kernel
set_option maxRecDepth 100000 in
theorem dL_areDoors_71 : decode cL_areDoors 71 = .ok (.goto 4, 3) := by decide +kernel
set_option maxRecDepth 100000 in
theorem dL_areDoors_74 : decode cL_areDoors 74 = .ok (.iconst 0, 1) := by decide +kernel

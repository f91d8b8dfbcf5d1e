-- the law's instructions
set_option maxRecDepth 100000 in
theorem dL_areWays_260 : decode cL_areWays 260 = .ok (.iconst 1, 1) := by decide +kernel
set_option maxRecDepth 100000 in
theorem dL_areWays_261 : decode cL_areWays 261 = .ok (.goto 4, 3) := by decide +kernel
set_option maxRecDepth 100000 in
theorem dL_areWays_264 : decode cL_areWays 264 = .ok (.iconst 0, 1) := by decide +kernel
set_option maxRecDepth 100000 in
theorem dL_areWays_265 : decode cL_areWays 265 = .ok (.istore 5, 2) := by decide +kernel
set_option maxRecDepth 100000 in
theorem dL_areWays_267 : decode cL_areWays 267 = .ok (.iconst 0, 1) := by decide +kernel
set_option maxRecDepth 100000 in
theorem dL_areWays_268 : decode cL_areWays 268 = .ok (.istore 10, 2) := by decide +kernel
set_option maxRecDepth 100000 in
theorem dL_areWays_270 : decode cL_areWays 270 = .ok (.iload 10, 2) := by decide +kernel
set_option maxRecDepth 100000 in
theorem dL_areWays_272 : decode cL_areWays 272 = .ok (.iload 9, 2) := by decide +kernel
set_option maxRecDepth 100000 in
theorem dL_areWays_274 : decode cL_areWays 274 = .ok (.if_icmp .ge 56, 3) := by decide +kernel
set_option maxRecDepth 100000 in
theorem dL_areWays_277 : decode cL_areWays 277 = .ok (.iload 5, 2) := by decide +kernel
set_option maxRecDepth 100000 in
theorem dL_areWays_279 : decode cL_areWays 279 = .ok (.ifCond .eq 51, 3) := by decide +kernel
set_option maxRecDepth 100000 in
theorem dL_areWays_282 : decode cL_areWays 282 = .ok (.aload_n 0, 1) := by decide +kernel
set_option maxRecDepth 100000 in
theorem dL_areWays_283 : decode cL_areWays 283 = .ok (.iload 7, 2) := by decide +kernel
set_option maxRecDepth 100000 in
theorem dL_areWays_285 : decode cL_areWays 285 = .ok (.invokevirtual 19, 3) := by decide +kernel
set_option maxRecDepth 100000 in
theorem dL_areWays_288 : decode cL_areWays 288 = .ok (.iload 10, 2) := by decide +kernel
set_option maxRecDepth 100000 in
theorem dL_areWays_290 : decode cL_areWays 290 = .ok (.ishr, 1) := by decide +kernel
set_option maxRecDepth 100000 in
theorem dL_areWays_291 : decode cL_areWays 291 = .ok (.iconst 1, 1) := by decide +kernel
set_option maxRecDepth 100000 in
theorem dL_areWays_292 : decode cL_areWays 292 = .ok (.iand, 1) := by decide +kernel
set_option maxRecDepth 100000 in
theorem dL_areWays_293 : decode cL_areWays 293 = .ok (.ifCond .eq 24, 3) := by decide +kernel
set_option maxRecDepth 100000 in
theorem dL_areWays_296 : decode cL_areWays 296 = .ok (.aload_n 0, 1) := by decide +kernel
set_option maxRecDepth 100000 in
theorem dL_areWays_297 : decode cL_areWays 297 = .ok (.iload_n 3, 1) := by decide +kernel
set_option maxRecDepth 100000 in
theorem dL_areWays_298 : decode cL_areWays 298 = .ok (.iload 7, 2) := by decide +kernel
set_option maxRecDepth 100000 in
theorem dL_areWays_300 : decode cL_areWays 300 = .ok (.iload 10, 2) := by decide +kernel
set_option maxRecDepth 100000 in
theorem dL_areWays_302 : decode cL_areWays 302 = .ok (.invokestatic 90, 3) := by decide +kernel
set_option maxRecDepth 100000 in
theorem dL_areWays_305 : decode cL_areWays 305 = .ok (.iload_n 2, 1) := by decide +kernel
set_option maxRecDepth 100000 in
theorem dL_areWays_306 : decode cL_areWays 306 = .ok (.invokevirtual 60, 3) := by decide +kernel
set_option maxRecDepth 100000 in
theorem dL_areWays_309 : decode cL_areWays 309 = .ok (.iload 4, 2) := by decide +kernel
set_option maxRecDepth 100000 in
theorem dL_areWays_311 : decode cL_areWays 311 = .ok (.iload 6, 2) := by decide +kernel
set_option maxRecDepth 100000 in
theorem dL_areWays_313 : decode cL_areWays 313 = .ok (.isub, 1) := by decide +kernel
set_option maxRecDepth 100000 in
theorem dL_areWays_314 : decode cL_areWays 314 = .ok (.if_icmp .lt 7, 3) := by decide +kernel
set_option maxRecDepth 100000 in
theorem dL_areWays_317 : decode cL_areWays 317 = .ok (.iconst 1, 1) := by decide +kernel
set_option maxRecDepth 100000 in
theorem dL_areWays_318 : decode cL_areWays 318 = .ok (.goto 4, 3) := by decide +kernel
set_option maxRecDepth 100000 in
theorem dL_areWays_321 : decode cL_areWays 321 = .ok (.iconst 0, 1) := by decide +kernel
set_option maxRecDepth 100000 in
theorem dL_areWays_322 : decode cL_areWays 322 = .ok (.istore 5, 2) := by decide +kernel
set_option maxRecDepth 100000 in
theorem dL_areWays_324 : decode cL_areWays 324 = .ok (.iinc 10 1, 3) := by decide +kernel
set_option maxRecDepth 100000 in
theorem dL_areWays_327 : decode cL_areWays 327 = .ok (.goto (-57), 3) := by decide +kernel
set_option maxRecDepth 100000 in
theorem dL_areWays_330 : decode cL_areWays 330 = .ok (.iinc 6 1, 3) := by decide +kernel
set_option maxRecDepth 100000 in
theorem dL_areWays_333 : decode cL_areWays 333 = .ok (.goto (-192), 3) := by decide +kernel
set_option maxRecDepth 100000 in
theorem dL_areWays_336 : decode cL_areWays 336 = .ok (.aload_n 0, 1) := by decide +kernel
set_option maxRecDepth 100000 in
theorem dL_areWays_337 : decode cL_areWays 337 = .ok (.iload_n 1, 1) := by decide +kernel
set_option maxRecDepth 100000 in
theorem dL_areWays_338 : decode cL_areWays 338 = .ok (.iconst 0, 1) := by decide +kernel
set_option maxRecDepth 100000 in
theorem dL_areWays_339 : decode cL_areWays 339 = .ok (.invokevirtual 69, 3) := by decide +kernel
set_option maxRecDepth 100000 in
theorem dL_areWays_342 : decode cL_areWays 342 = .ok (.istore 6, 2) := by decide +kernel
set_option maxRecDepth 100000 in
theorem dL_areWays_344 : decode cL_areWays 344 = .ok (.aload_n 0, 1) := by decide +kernel
set_option maxRecDepth 100000 in
theorem dL_areWays_345 : decode cL_areWays 345 = .ok (.iload_n 1, 1) := by decide +kernel
set_option maxRecDepth 100000 in
theorem dL_areWays_346 : decode cL_areWays 346 = .ok (.iconst 1, 1) := by decide +kernel
set_option maxRecDepth 100000 in
theorem dL_areWays_347 : decode cL_areWays 347 = .ok (.invokevirtual 69, 3) := by decide +kernel
set_option maxRecDepth 100000 in
theorem dL_areWays_350 : decode cL_areWays 350 = .ok (.istore 7, 2) := by decide +kernel
set_option maxRecDepth 100000 in
theorem dL_areWays_352 : decode cL_areWays 352 = .ok (.iload 5, 2) := by decide +kernel
set_option maxRecDepth 100000 in
theorem dL_areWays_354 : decode cL_areWays 354 = .ok (.ifCond .eq 96, 3) := by decide +kernel
set_option maxRecDepth 100000 in
theorem dL_areWays_357 : decode cL_areWays 357 = .ok (.iload 4, 2) := by decide +kernel
set_option maxRecDepth 100000 in
theorem dL_areWays_359 : decode cL_areWays 359 = .ok (.ifCond .lt 15, 3) := by decide +kernel
set_option maxRecDepth 100000 in
theorem dL_areWays_362 : decode cL_areWays 362 = .ok (.aload_n 0, 1) := by decide +kernel
set_option maxRecDepth 100000 in
theorem dL_areWays_363 : decode cL_areWays 363 = .ok (.iload_n 1, 1) := by decide +kernel
set_option maxRecDepth 100000 in
theorem dL_areWays_364 : decode cL_areWays 364 = .ok (.iload_n 2, 1) := by decide +kernel
set_option maxRecDepth 100000 in
theorem dL_areWays_365 : decode cL_areWays 365 = .ok (.iload 4, 2) := by decide +kernel
set_option maxRecDepth 100000 in
theorem dL_areWays_367 : decode cL_areWays 367 = .ok (.invokevirtual 66, 3) := by decide +kernel
set_option maxRecDepth 100000 in
theorem dL_areWays_370 : decode cL_areWays 370 = .ok (.iload_n 2, 1) := by decide +kernel
set_option maxRecDepth 100000 in
theorem dL_areWays_371 : decode cL_areWays 371 = .ok (.if_icmp .ne 79, 3) := by decide +kernel
set_option maxRecDepth 100000 in
theorem dL_areWays_374 : decode cL_areWays 374 = .ok (.aload_n 0, 1) := by decide +kernel
set_option maxRecDepth 100000 in
theorem dL_areWays_375 : decode cL_areWays 375 = .ok (.iload_n 1, 1) := by decide +kernel
set_option maxRecDepth 100000 in
theorem dL_areWays_376 : decode cL_areWays 376 = .ok (.iload 6, 2) := by decide +kernel
set_option maxRecDepth 100000 in
theorem dL_areWays_378 : decode cL_areWays 378 = .ok (.invokevirtual 60, 3) := by decide +kernel
set_option maxRecDepth 100000 in
theorem dL_areWays_381 : decode cL_areWays 381 = .ok (.iload 7, 2) := by decide +kernel
set_option maxRecDepth 100000 in
theorem dL_areWays_383 : decode cL_areWays 383 = .ok (.if_icmp .ne 67, 3) := by decide +kernel
set_option maxRecDepth 100000 in
theorem dL_areWays_386 : decode cL_areWays 386 = .ok (.iload 7, 2) := by decide +kernel
set_option maxRecDepth 100000 in
theorem dL_areWays_388 : decode cL_areWays 388 = .ok (.iload 4, 2) := by decide +kernel
set_option maxRecDepth 100000 in
theorem dL_areWays_390 : decode cL_areWays 390 = .ok (.if_icmp .lt 60, 3) := by decide +kernel
set_option maxRecDepth 100000 in
theorem dL_areWays_393 : decode cL_areWays 393 = .ok (.aload_n 0, 1) := by decide +kernel
set_option maxRecDepth 100000 in
theorem dL_areWays_394 : decode cL_areWays 394 = .ok (.iconst 0, 1) := by decide +kernel
set_option maxRecDepth 100000 in
theorem dL_areWays_395 : decode cL_areWays 395 = .ok (.invokevirtual 72, 3) := by decide +kernel
set_option maxRecDepth 100000 in
theorem dL_areWays_398 : decode cL_areWays 398 = .ok (.iload 7, 2) := by decide +kernel
set_option maxRecDepth 100000 in
theorem dL_areWays_400 : decode cL_areWays 400 = .ok (.if_icmp .lt 50, 3) := by decide +kernel
set_option maxRecDepth 100000 in
theorem dL_areWays_403 : decode cL_areWays 403 = .ok (.aload_n 0, 1) := by decide +kernel
set_option maxRecDepth 100000 in
theorem dL_areWays_404 : decode cL_areWays 404 = .ok (.aload_n 0, 1) := by decide +kernel
set_option maxRecDepth 100000 in
theorem dL_areWays_405 : decode cL_areWays 405 = .ok (.iconst 1, 1) := by decide +kernel
set_option maxRecDepth 100000 in
theorem dL_areWays_406 : decode cL_areWays 406 = .ok (.invokevirtual 72, 3) := by decide +kernel
set_option maxRecDepth 100000 in
theorem dL_areWays_409 : decode cL_areWays 409 = .ok (.aload_n 0, 1) := by decide +kernel
set_option maxRecDepth 100000 in
theorem dL_areWays_410 : decode cL_areWays 410 = .ok (.iconst 2, 1) := by decide +kernel
set_option maxRecDepth 100000 in
theorem dL_areWays_411 : decode cL_areWays 411 = .ok (.invokevirtual 72, 3) := by decide +kernel
set_option maxRecDepth 100000 in
theorem dL_areWays_414 : decode cL_areWays 414 = .ok (.invokevirtual 60, 3) := by decide +kernel
set_option maxRecDepth 100000 in
theorem dL_areWays_417 : decode cL_areWays 417 = .ok (.aload_n 0, 1) := by decide +kernel
set_option maxRecDepth 100000 in
theorem dL_areWays_418 : decode cL_areWays 418 = .ok (.iconst 0, 1) := by decide +kernel
set_option maxRecDepth 100000 in
theorem dL_areWays_419 : decode cL_areWays 419 = .ok (.invokevirtual 72, 3) := by decide +kernel
set_option maxRecDepth 100000 in
theorem dL_areWays_422 : decode cL_areWays 422 = .ok (.if_icmp .ne 28, 3) := by decide +kernel
set_option maxRecDepth 100000 in
theorem dL_areWays_425 : decode cL_areWays 425 = .ok (.aload_n 0, 1) := by decide +kernel
set_option maxRecDepth 100000 in
theorem dL_areWays_426 : decode cL_areWays 426 = .ok (.iconst 0, 1) := by decide +kernel
set_option maxRecDepth 100000 in
theorem dL_areWays_427 : decode cL_areWays 427 = .ok (.invokevirtual 72, 3) := by decide +kernel
set_option maxRecDepth 100000 in
theorem dL_areWays_430 : decode cL_areWays 430 = .ok (.ifCond .eq 16, 3) := by decide +kernel
set_option maxRecDepth 100000 in
theorem dL_areWays_433 : decode cL_areWays 433 = .ok (.aload_n 0, 1) := by decide +kernel
set_option maxRecDepth 100000 in
theorem dL_areWays_434 : decode cL_areWays 434 = .ok (.iconst 1, 1) := by decide +kernel
set_option maxRecDepth 100000 in
theorem dL_areWays_435 : decode cL_areWays 435 = .ok (.invokevirtual 72, 3) := by decide +kernel
set_option maxRecDepth 100000 in
theorem dL_areWays_438 : decode cL_areWays 438 = .ok (.aload_n 0, 1) := by decide +kernel
set_option maxRecDepth 100000 in
theorem dL_areWays_439 : decode cL_areWays 439 = .ok (.iconst 2, 1) := by decide +kernel
set_option maxRecDepth 100000 in
theorem dL_areWays_440 : decode cL_areWays 440 = .ok (.invokevirtual 72, 3) := by decide +kernel
set_option maxRecDepth 100000 in
theorem dL_areWays_443 : decode cL_areWays 443 = .ok (.if_icmp .ge 7, 3) := by decide +kernel
set_option maxRecDepth 100000 in
theorem dL_areWays_446 : decode cL_areWays 446 = .ok (.iconst 1, 1) := by decide +kernel
set_option maxRecDepth 100000 in
theorem dL_areWays_447 : decode cL_areWays 447 = .ok (.goto 4, 3) := by decide +kernel
set_option maxRecDepth 100000 in
theorem dL_areWays_450 : decode cL_areWays 450 = .ok (.iconst 0, 1) := by decide +kernel
set_option maxRecDepth 100000 in
theorem dL_areWays_451 : decode cL_areWays 451 = .ok (.istore 5, 2) := by decide +kernel
set_option maxRecDepth 100000 in
theorem dL_areWays_453 : decode cL_areWays 453 = .ok (.aload_n 0, 1) := by decide +kernel
set_option maxRecDepth 100000 in
theorem dL_areWays_454 : decode cL_areWays 454 = .ok (.invokevirtual 93, 3) := by decide +kernel
set_option maxRecDepth 100000 in
theorem dL_areWays_457 : decode cL_areWays 457 = .ok (.istore 8, 2) := by decide +kernel
set_option maxRecDepth 100000 in
theorem dL_areWays_459 : decode cL_areWays 459 = .ok (.aload_n 0, 1) := by decide +kernel
set_option maxRecDepth 100000 in
theorem dL_areWays_460 : decode cL_areWays 460 = .ok (.aload_n 0, 1) := by decide +kernel
set_option maxRecDepth 100000 in
theorem dL_areWays_461 : decode cL_areWays 461 = .ok (.bipush 10, 2) := by decide +kernel
set_option maxRecDepth 100000 in
theorem dL_areWays_463 : decode cL_areWays 463 = .ok (.invokevirtual 13, 3) := by decide +kernel
set_option maxRecDepth 100000 in
theorem dL_areWays_466 : decode cL_areWays 466 = .ok (.aload_n 0, 1) := by decide +kernel
set_option maxRecDepth 100000 in
theorem dL_areWays_467 : decode cL_areWays 467 = .ok (.bipush 11, 2) := by decide +kernel
set_option maxRecDepth 100000 in
theorem dL_areWays_469 : decode cL_areWays 469 = .ok (.invokevirtual 13, 3) := by decide +kernel
set_option maxRecDepth 100000 in
theorem dL_areWays_472 : decode cL_areWays 472 = .ok (.invokevirtual 60, 3) := by decide +kernel
set_option maxRecDepth 100000 in
theorem dL_areWays_475 : decode cL_areWays 475 = .ok (.istore 9, 2) := by decide +kernel
set_option maxRecDepth 100000 in
theorem dL_areWays_477 : decode cL_areWays 477 = .ok (.iload 5, 2) := by decide +kernel
set_option maxRecDepth 100000 in
theorem dL_areWays_479 : decode cL_areWays 479 = .ok (.ifCond .eq 68, 3) := by decide +kernel
set_option maxRecDepth 100000 in
theorem dL_areWays_482 : decode cL_areWays 482 = .ok (.iload 8, 2) := by decide +kernel
set_option maxRecDepth 100000 in
theorem dL_areWays_484 : decode cL_areWays 484 = .ok (.bipush (-4), 2) := by decide +kernel
set_option maxRecDepth 100000 in
theorem dL_areWays_486 : decode cL_areWays 486 = .ok (.if_icmp .ne 7, 3) := by decide +kernel
set_option maxRecDepth 100000 in
theorem dL_areWays_489 : decode cL_areWays 489 = .ok (.iconst 1, 1) := by decide +kernel
set_option maxRecDepth 100000 in
theorem dL_areWays_490 : decode cL_areWays 490 = .ok (.goto 4, 3) := by decide +kernel
set_option maxRecDepth 100000 in
theorem dL_areWays_493 : decode cL_areWays 493 = .ok (.iconst 0, 1) := by decide +kernel
set_option maxRecDepth 100000 in
theorem dL_areWays_494 : decode cL_areWays 494 = .ok (.iload 9, 2) := by decide +kernel
set_option maxRecDepth 100000 in
theorem dL_areWays_496 : decode cL_areWays 496 = .ok (.bipush (-4), 2) := by decide +kernel
set_option maxRecDepth 100000 in
theorem dL_areWays_498 : decode cL_areWays 498 = .ok (.if_icmp .ne 7, 3) := by decide +kernel
set_option maxRecDepth 100000 in
theorem dL_areWays_501 : decode cL_areWays 501 = .ok (.iconst 1, 1) := by decide +kernel
set_option maxRecDepth 100000 in
theorem dL_areWays_502 : decode cL_areWays 502 = .ok (.goto 4, 3) := by decide +kernel
set_option maxRecDepth 100000 in
theorem dL_areWays_505 : decode cL_areWays 505 = .ok (.iconst 0, 1) := by decide +kernel
set_option maxRecDepth 100000 in
theorem dL_areWays_506 : decode cL_areWays 506 = .ok (.if_icmp .ne 41, 3) := by decide +kernel
set_option maxRecDepth 100000 in
theorem dL_areWays_509 : decode cL_areWays 509 = .ok (.iload 8, 2) := by decide +kernel
set_option maxRecDepth 100000 in
theorem dL_areWays_511 : decode cL_areWays 511 = .ok (.bipush 9, 2) := by decide +kernel
set_option maxRecDepth 100000 in
theorem dL_areWays_513 : decode cL_areWays 513 = .ok (.if_icmp .gt 34, 3) := by decide +kernel
set_option maxRecDepth 100000 in
theorem dL_areWays_516 : decode cL_areWays 516 = .ok (.iload 9, 2) := by decide +kernel
set_option maxRecDepth 100000 in
theorem dL_areWays_518 : decode cL_areWays 518 = .ok (.ifCond .lt 25, 3) := by decide +kernel
set_option maxRecDepth 100000 in
theorem dL_areWays_521 : decode cL_areWays 521 = .ok (.iload 8, 2) := by decide +kernel
set_option maxRecDepth 100000 in
theorem dL_areWays_523 : decode cL_areWays 523 = .ok (.iload 9, 2) := by decide +kernel
set_option maxRecDepth 100000 in
theorem dL_areWays_525 : decode cL_areWays 525 = .ok (.bipush 99, 2) := by decide +kernel
set_option maxRecDepth 100000 in
theorem dL_areWays_527 : decode cL_areWays 527 = .ok (.if_icmp .le 8, 3) := by decide +kernel
set_option maxRecDepth 100000 in
theorem dL_areWays_530 : decode cL_areWays 530 = .ok (.bipush 9, 2) := by decide +kernel
set_option maxRecDepth 100000 in
theorem dL_areWays_532 : decode cL_areWays 532 = .ok (.goto 8, 3) := by decide +kernel
set_option maxRecDepth 100000 in
theorem dL_areWays_535 : decode cL_areWays 535 = .ok (.iload 9, 2) := by decide +kernel
set_option maxRecDepth 100000 in
theorem dL_areWays_537 : decode cL_areWays 537 = .ok (.bipush 10, 2) := by decide +kernel
set_option maxRecDepth 100000 in
theorem dL_areWays_539 : decode cL_areWays 539 = .ok (.idiv, 1) := by decide +kernel
set_option maxRecDepth 100000 in
theorem dL_areWays_540 : decode cL_areWays 540 = .ok (.if_icmp .lt 7, 3) := by decide +kernel
set_option maxRecDepth 100000 in
theorem dL_areWays_543 : decode cL_areWays 543 = .ok (.iconst 1, 1) := by decide +kernel
set_option maxRecDepth 100000 in
theorem dL_areWays_544 : decode cL_areWays 544 = .ok (.goto 4, 3) := by decide +kernel
set_option maxRecDepth 100000 in
theorem dL_areWays_547 : decode cL_areWays 547 = .ok (.iconst 0, 1) := by decide +kernel
set_option maxRecDepth 100000 in
theorem dL_areWays_548 : decode cL_areWays 548 = .ok (.ireturn, 1) := by decide +kernel
set_option maxRecDepth 100000 in
theorem dL_areSigns_0 : decode cL_areSigns 0 = .ok (.aload_n 0, 1) := by decide +kernel
set_option maxRecDepth 100000 in
theorem dL_areSigns_1 : decode cL_areSigns 1 = .ok (.iconst 1, 1) := by decide +kernel
set_option maxRecDepth 100000 in
theorem dL_areSigns_2 : decode cL_areSigns 2 = .ok (.invokevirtual 13, 3) := by decide +kernel
set_option maxRecDepth 100000 in
theorem dL_areSigns_5 : decode cL_areSigns 5 = .ok (.istore_n 1, 1) := by decide +kernel
set_option maxRecDepth 100000 in
theorem dL_areSigns_6 : decode cL_areSigns 6 = .ok (.aload_n 0, 1) := by decide +kernel
set_option maxRecDepth 100000 in
theorem dL_areSigns_7 : decode cL_areSigns 7 = .ok (.bipush 11, 2) := by decide +kernel
set_option maxRecDepth 100000 in
theorem dL_areSigns_9 : decode cL_areSigns 9 = .ok (.invokevirtual 13, 3) := by decide +kernel
set_option maxRecDepth 100000 in
theorem dL_areSigns_12 : decode cL_areSigns 12 = .ok (.istore_n 2, 1) := by decide +kernel
set_option maxRecDepth 100000 in
theorem dL_areSigns_13 : decode cL_areSigns 13 = .ok (.iconst 0, 1) := by decide +kernel
set_option maxRecDepth 100000 in
theorem dL_areSigns_14 : decode cL_areSigns 14 = .ok (.istore_n 3, 1) := by decide +kernel
set_option maxRecDepth 100000 in
theorem dL_areSigns_15 : decode cL_areSigns 15 = .ok (.aload_n 0, 1) := by decide +kernel
set_option maxRecDepth 100000 in
theorem dL_areSigns_16 : decode cL_areSigns 16 = .ok (.bipush 13, 2) := by decide +kernel
set_option maxRecDepth 100000 in
theorem dL_areSigns_18 : decode cL_areSigns 18 = .ok (.invokevirtual 13, 3) := by decide +kernel
set_option maxRecDepth 100000 in
theorem dL_areSigns_21 : decode cL_areSigns 21 = .ok (.aload_n 0, 1) := by decide +kernel
set_option maxRecDepth 100000 in
theorem dL_areSigns_22 : decode cL_areSigns 22 = .ok (.bipush 12, 2) := by decide +kernel
set_option maxRecDepth 100000 in
theorem dL_areSigns_24 : decode cL_areSigns 24 = .ok (.invokevirtual 13, 3) := by decide +kernel
set_option maxRecDepth 100000 in
theorem dL_areSigns_27 : decode cL_areSigns 27 = .ok (.if_icmp .gt 18, 3) := by decide +kernel
set_option maxRecDepth 100000 in
theorem dL_areSigns_30 : decode cL_areSigns 30 = .ok (.aload_n 0, 1) := by decide +kernel
set_option maxRecDepth 100000 in
theorem dL_areSigns_31 : decode cL_areSigns 31 = .ok (.bipush 12, 2) := by decide +kernel
set_option maxRecDepth 100000 in
theorem dL_areSigns_33 : decode cL_areSigns 33 = .ok (.invokevirtual 13, 3) := by decide +kernel
set_option maxRecDepth 100000 in
theorem dL_areSigns_36 : decode cL_areSigns 36 = .ok (.bipush 20, 2) := by decide +kernel
set_option maxRecDepth 100000 in
theorem dL_areSigns_38 : decode cL_areSigns 38 = .ok (.if_icmp .gt 7, 3) := by decide +kernel
set_option maxRecDepth 100000 in
theorem dL_areSigns_41 : decode cL_areSigns 41 = .ok (.iconst 1, 1) := by decide +kernel
set_option maxRecDepth 100000 in
theorem dL_areSigns_42 : decode cL_areSigns 42 = .ok (.goto 4, 3) := by decide +kernel
set_option maxRecDepth 100000 in
theorem dL_areSigns_45 : decode cL_areSigns 45 = .ok (.iconst 0, 1) := by decide +kernel
set_option maxRecDepth 100000 in
theorem dL_areSigns_46 : decode cL_areSigns 46 = .ok (.istore 4, 2) := by decide +kernel
set_option maxRecDepth 100000 in
theorem dL_areSigns_48 : decode cL_areSigns 48 = .ok (.iconst 0, 1) := by decide +kernel
set_option maxRecDepth 100000 in
theorem dL_areSigns_49 : decode cL_areSigns 49 = .ok (.istore 5, 2) := by decide +kernel
set_option maxRecDepth 100000 in
theorem dL_areSigns_51 : decode cL_areSigns 51 = .ok (.iload 5, 2) := by decide +kernel
set_option maxRecDepth 100000 in
theorem dL_areSigns_53 : decode cL_areSigns 53 = .ok (.bipush 6, 2) := by decide +kernel
set_option maxRecDepth 100000 in
theorem dL_areSigns_55 : decode cL_areSigns 55 = .ok (.iload_n 1, 1) := by decide +kernel
set_option maxRecDepth 100000 in
theorem dL_areSigns_56 : decode cL_areSigns 56 = .ok (.imul, 1) := by decide +kernel
set_option maxRecDepth 100000 in
theorem dL_areSigns_57 : decode cL_areSigns 57 = .ok (.if_icmp .ge 82, 3) := by decide +kernel
set_option maxRecDepth 100000 in
theorem dL_areSigns_60 : decode cL_areSigns 60 = .ok (.iload 4, 2) := by decide +kernel
set_option maxRecDepth 100000 in
theorem dL_areSigns_62 : decode cL_areSigns 62 = .ok (.ifCond .eq 77, 3) := by decide +kernel
set_option maxRecDepth 100000 in
theorem dL_areSigns_65 : decode cL_areSigns 65 = .ok (.aload_n 0, 1) := by decide +kernel
set_option maxRecDepth 100000 in
theorem dL_areSigns_66 : decode cL_areSigns 66 = .ok (.iload 5, 2) := by decide +kernel
set_option maxRecDepth 100000 in
theorem dL_areSigns_68 : decode cL_areSigns 68 = .ok (.invokevirtual 22, 3) := by decide +kernel
set_option maxRecDepth 100000 in
theorem dL_areSigns_71 : decode cL_areSigns 71 = .ok (.istore 6, 2) := by decide +kernel
set_option maxRecDepth 100000 in
theorem dL_areSigns_73 : decode cL_areSigns 73 = .ok (.iload_n 3, 1) := by decide +kernel
set_option maxRecDepth 100000 in
theorem dL_areSigns_74 : decode cL_areSigns 74 = .ok (.iload 6, 2) := by decide +kernel
set_option maxRecDepth 100000 in
theorem dL_areSigns_76 : decode cL_areSigns 76 = .ok (.ifCond .ge 10, 3) := by decide +kernel
set_option maxRecDepth 100000 in
theorem dL_areSigns_79 : decode cL_areSigns 79 = .ok (.iload 6, 2) := by decide +kernel
set_option maxRecDepth 100000 in
theorem dL_areSigns_81 : decode cL_areSigns 81 = .ok (.bipush (-4), 2) := by decide +kernel
set_option maxRecDepth 100000 in
theorem dL_areSigns_83 : decode cL_areSigns 83 = .ok (.if_icmp .ne 7, 3) := by decide +kernel
set_option maxRecDepth 100000 in
theorem dL_areSigns_86 : decode cL_areSigns 86 = .ok (.iconst 1, 1) := by decide +kernel
set_option maxRecDepth 100000 in
theorem dL_areSigns_87 : decode cL_areSigns 87 = .ok (.goto 4, 3) := by decide +kernel
set_option maxRecDepth 100000 in
theorem dL_areSigns_90 : decode cL_areSigns 90 = .ok (.iconst 0, 1) := by decide +kernel
set_option maxRecDepth 100000 in
theorem dL_areSigns_91 : decode cL_areSigns 91 = .ok (.iadd, 1) := by decide +kernel
set_option maxRecDepth 100000 in
theorem dL_areSigns_92 : decode cL_areSigns 92 = .ok (.istore_n 3, 1) := by decide +kernel
set_option maxRecDepth 100000 in
theorem dL_areSigns_93 : decode cL_areSigns 93 = .ok (.iload 6, 2) := by decide +kernel
set_option maxRecDepth 100000 in
theorem dL_areSigns_95 : decode cL_areSigns 95 = .ok (.ifCond .lt 31, 3) := by decide +kernel
set_option maxRecDepth 100000 in
theorem dL_areSigns_98 : decode cL_areSigns 98 = .ok (.aload_n 0, 1) := by decide +kernel
set_option maxRecDepth 100000 in
theorem dL_areSigns_99 : decode cL_areSigns 99 = .ok (.iload 5, 2) := by decide +kernel

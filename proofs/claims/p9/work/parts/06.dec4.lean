theorem dX12_init_314 : decode cX12_init 314 = .ok (.newarray .long, 2) := by decide +kernel
theorem dX12_init_316 : decode cX12_init 316 = .ok (.putfield 124, 3) := by decide +kernel
theorem dX12_init_319 : decode cX12_init 319 = .ok (.aload_n 0, 1) := by decide +kernel
theorem dX12_init_320 : decode cX12_init 320 = .ok (.ldc 128, 2) := by decide +kernel
theorem dX12_init_322 : decode cX12_init 322 = .ok (.newarray .long, 2) := by decide +kernel
theorem dX12_init_324 : decode cX12_init 324 = .ok (.putfield 129, 3) := by decide +kernel
theorem dX12_init_327 : decode cX12_init 327 = .ok (.aload_n 0, 1) := by decide +kernel
theorem dX12_init_328 : decode cX12_init 328 = .ok (.bipush 100, 2) := by decide +kernel
theorem dX12_init_330 : decode cX12_init 330 = .ok (.newarray .int, 2) := by decide +kernel
theorem dX12_init_332 : decode cX12_init 332 = .ok (.putfield 132, 3) := by decide +kernel
theorem dX12_init_335 : decode cX12_init 335 = .ok (.aload_n 0, 1) := by decide +kernel
theorem dX12_init_336 : decode cX12_init 336 = .ok (.bipush 48, 2) := by decide +kernel
theorem dX12_init_338 : decode cX12_init 338 = .ok (.newarray .int, 2) := by decide +kernel
theorem dX12_init_340 : decode cX12_init 340 = .ok (.putfield 135, 3) := by decide +kernel
theorem dX12_init_343 : decode cX12_init 343 = .ok (.aload_n 0, 1) := by decide +kernel
theorem dX12_init_344 : decode cX12_init 344 = .ok (.bipush 72, 2) := by decide +kernel
theorem dX12_init_346 : decode cX12_init 346 = .ok (.newarray .int, 2) := by decide +kernel
theorem dX12_init_348 : decode cX12_init 348 = .ok (.putfield 138, 3) := by decide +kernel
theorem dX12_init_351 : decode cX12_init 351 = .ok (.aload_n 0, 1) := by decide +kernel
theorem dX12_init_352 : decode cX12_init 352 = .ok (.bipush 36, 2) := by decide +kernel
theorem dX12_init_354 : decode cX12_init 354 = .ok (.newarray .int, 2) := by decide +kernel
theorem dX12_init_356 : decode cX12_init 356 = .ok (.putfield 141, 3) := by decide +kernel
theorem dX12_init_359 : decode cX12_init 359 = .ok (.aload_n 0, 1) := by decide +kernel
theorem dX12_init_360 : decode cX12_init 360 = .ok (.bipush 6, 2) := by decide +kernel
theorem dX12_init_362 : decode cX12_init 362 = .ok (.newarray .boolean, 2) := by decide +kernel
theorem dX12_init_364 : decode cX12_init 364 = .ok (.putfield 144, 3) := by decide +kernel
theorem dX12_init_367 : decode cX12_init 367 = .ok (.aload_n 0, 1) := by decide +kernel
theorem dX12_init_368 : decode cX12_init 368 = .ok (.bipush 6, 2) := by decide +kernel
theorem dX12_init_370 : decode cX12_init 370 = .ok (.newarray .int, 2) := by decide +kernel
theorem dX12_init_372 : decode cX12_init 372 = .ok (.putfield 147, 3) := by decide +kernel
theorem dX12_init_375 : decode cX12_init 375 = .ok (.aload_n 0, 1) := by decide +kernel
theorem dX12_init_376 : decode cX12_init 376 = .ok (.bipush 24, 2) := by decide +kernel
theorem dX12_init_378 : decode cX12_init 378 = .ok (.newarray .int, 2) := by decide +kernel
theorem dX12_init_380 : decode cX12_init 380 = .ok (.putfield 150, 3) := by decide +kernel
theorem dX12_init_383 : decode cX12_init 383 = .ok (.iconst 0, 1) := by decide +kernel
theorem dX12_init_384 : decode cX12_init 384 = .ok (.istore_n 1, 1) := by decide +kernel
theorem dX12_init_385 : decode cX12_init 385 = .ok (.iload_n 1, 1) := by decide +kernel
theorem dX12_init_386 : decode cX12_init 386 = .ok (.bipush 6, 2) := by decide +kernel
theorem dX12_init_388 : decode cX12_init 388 = .ok (.if_icmp .ge 16, 3) := by decide +kernel
theorem dX12_init_391 : decode cX12_init 391 = .ok (.aload_n 0, 1) := by decide +kernel
theorem dX12_init_392 : decode cX12_init 392 = .ok (.getfield 147, 3) := by decide +kernel
theorem dX12_init_395 : decode cX12_init 395 = .ok (.iload_n 1, 1) := by decide +kernel
theorem dX12_init_396 : decode cX12_init 396 = .ok (.iconst (-1), 1) := by decide +kernel
theorem dX12_init_397 : decode cX12_init 397 = .ok (.iastore, 1) := by decide +kernel
theorem dX12_init_398 : decode cX12_init 398 = .ok (.iinc 1 1, 3) := by decide +kernel
theorem dX12_init_401 : decode cX12_init 401 = .ok (.goto (-16), 3) := by decide +kernel
theorem dX12_init_404 : decode cX12_init 404 = .ok (.iconst 0, 1) := by decide +kernel
theorem dX12_init_405 : decode cX12_init 405 = .ok (.istore_n 1, 1) := by decide +kernel
theorem dX12_init_406 : decode cX12_init 406 = .ok (.iload_n 1, 1) := by decide +kernel
theorem dX12_init_407 : decode cX12_init 407 = .ok (.bipush 48, 2) := by decide +kernel
theorem dX12_init_409 : decode cX12_init 409 = .ok (.if_icmp .ge 16, 3) := by decide +kernel
theorem dX12_init_412 : decode cX12_init 412 = .ok (.aload_n 0, 1) := by decide +kernel
theorem dX12_init_413 : decode cX12_init 413 = .ok (.getfield 135, 3) := by decide +kernel
theorem dX12_init_416 : decode cX12_init 416 = .ok (.iload_n 1, 1) := by decide +kernel
theorem dX12_init_417 : decode cX12_init 417 = .ok (.iconst (-1), 1) := by decide +kernel
theorem dX12_init_418 : decode cX12_init 418 = .ok (.iastore, 1) := by decide +kernel
theorem dX12_init_419 : decode cX12_init 419 = .ok (.iinc 1 1, 3) := by decide +kernel
theorem dX12_init_422 : decode cX12_init 422 = .ok (.goto (-16), 3) := by decide +kernel
theorem dX12_init_425 : decode cX12_init 425 = .ok (.return_, 1) := by decide +kernel
theorem dX12_has_0 : decode cX12_has 0 = .ok (.lload_n 0, 1) := by decide +kernel
theorem dX12_has_1 : decode cX12_has 1 = .ok (.iload_n 2, 1) := by decide +kernel
theorem dX12_has_2 : decode cX12_has 2 = .ok (.lshr, 1) := by decide +kernel
theorem dX12_has_3 : decode cX12_has 3 = .ok (.lconst 1, 1) := by decide +kernel
theorem dX12_has_4 : decode cX12_has 4 = .ok (.land, 1) := by decide +kernel
theorem dX12_has_5 : decode cX12_has 5 = .ok (.lconst 1, 1) := by decide +kernel
theorem dX12_has_6 : decode cX12_has 6 = .ok (.lcmp, 1) := by decide +kernel
theorem dX12_has_7 : decode cX12_has 7 = .ok (.ifCond .ne 7, 3) := by decide +kernel
theorem dX12_has_10 : decode cX12_has 10 = .ok (.iconst 1, 1) := by decide +kernel
theorem dX12_has_11 : decode cX12_has 11 = .ok (.goto 4, 3) := by decide +kernel
theorem dX12_has_14 : decode cX12_has 14 = .ok (.iconst 0, 1) := by decide +kernel
theorem dX12_has_15 : decode cX12_has 15 = .ok (.ireturn, 1) := by decide +kernel
theorem dX12_plain_0 : decode cX12_plain 0 = .ok (.iload_n 0, 1) := by decide +kernel
theorem dX12_plain_1 : decode cX12_plain 1 = .ok (.ifCond .ge 8, 3) := by decide +kernel
theorem dX12_plain_4 : decode cX12_plain 4 = .ok (.iload_n 0, 1) := by decide +kernel
theorem dX12_plain_5 : decode cX12_plain 5 = .ok (.ineg, 1) := by decide +kernel
theorem dX12_plain_6 : decode cX12_plain 6 = .ok (.goto 4, 3) := by decide +kernel
theorem dX12_plain_9 : decode cX12_plain 9 = .ok (.iload_n 0, 1) := by decide +kernel
theorem dX12_plain_10 : decode cX12_plain 10 = .ok (.ireturn, 1) := by decide +kernel
theorem dX12_held_0 : decode cX12_held 0 = .ok (.iload_n 0, 1) := by decide +kernel
theorem dX12_held_1 : decode cX12_held 1 = .ok (.iload_n 1, 1) := by decide +kernel
theorem dX12_held_2 : decode cX12_held 2 = .ok (.ineg, 1) := by decide +kernel
theorem dX12_held_3 : decode cX12_held 3 = .ok (.if_icmp .ge 8, 3) := by decide +kernel
theorem dX12_held_6 : decode cX12_held 6 = .ok (.iload_n 1, 1) := by decide +kernel
theorem dX12_held_7 : decode cX12_held 7 = .ok (.ineg, 1) := by decide +kernel
theorem dX12_held_8 : decode cX12_held 8 = .ok (.goto 13, 3) := by decide +kernel
theorem dX12_held_11 : decode cX12_held 11 = .ok (.iload_n 0, 1) := by decide +kernel
theorem dX12_held_12 : decode cX12_held 12 = .ok (.iload_n 1, 1) := by decide +kernel
theorem dX12_held_13 : decode cX12_held 13 = .ok (.if_icmp .le 7, 3) := by decide +kernel
theorem dX12_held_16 : decode cX12_held 16 = .ok (.iload_n 1, 1) := by decide +kernel
theorem dX12_held_17 : decode cX12_held 17 = .ok (.goto 4, 3) := by decide +kernel
theorem dX12_held_20 : decode cX12_held 20 = .ok (.iload_n 0, 1) := by decide +kernel
theorem dX12_held_21 : decode cX12_held 21 = .ok (.ireturn, 1) := by decide +kernel
theorem dX12_pitch_0 : decode cX12_pitch 0 = .ok (.iload_n 1, 1) := by decide +kernel
theorem dX12_pitch_1 : decode cX12_pitch 1 = .ok (.i2l, 1) := by decide +kernel
theorem dX12_pitch_2 : decode cX12_pitch 2 = .ok (.lconst 1, 1) := by decide +kernel
theorem dX12_pitch_3 : decode cX12_pitch 3 = .ok (.ldc2_w 153, 3) := by decide +kernel
theorem dX12_pitch_6 : decode cX12_pitch 6 = .ok (.invokestatic 155, 3) := by decide +kernel
theorem dX12_pitch_9 : decode cX12_pitch 9 = .ok (.ifCond .ne 5, 3) := by decide +kernel
theorem dX12_pitch_12 : decode cX12_pitch 12 = .ok (.iconst 0, 1) := by decide +kernel
theorem dX12_pitch_13 : decode cX12_pitch 13 = .ok (.ireturn, 1) := by decide +kernel
theorem dX12_pitch_14 : decode cX12_pitch 14 = .ok (.aload_n 0, 1) := by decide +kernel
theorem dX12_pitch_15 : decode cX12_pitch 15 = .ok (.iload_n 1, 1) := by decide +kernel
theorem dX12_pitch_16 : decode cX12_pitch 16 = .ok (.putfield 13, 3) := by decide +kernel
theorem dX12_pitch_19 : decode cX12_pitch 19 = .ok (.iconst 1, 1) := by decide +kernel
theorem dX12_pitch_20 : decode cX12_pitch 20 = .ok (.ireturn, 1) := by decide +kernel
theorem dX12_isIn_0 : decode cX12_isIn 0 = .ok (.lload_n 0, 1) := by decide +kernel
theorem dX12_isIn_1 : decode cX12_isIn 1 = .ok (.lload_n 2, 1) := by decide +kernel
theorem dX12_isIn_2 : decode cX12_isIn 2 = .ok (.lcmp, 1) := by decide +kernel
theorem dX12_isIn_3 : decode cX12_isIn 3 = .ok (.ifCond .lt 14, 3) := by decide +kernel
theorem dX12_isIn_6 : decode cX12_isIn 6 = .ok (.lload_n 0, 1) := by decide +kernel
theorem dX12_isIn_7 : decode cX12_isIn 7 = .ok (.lload 4, 2) := by decide +kernel
theorem dX12_isIn_9 : decode cX12_isIn 9 = .ok (.lcmp, 1) := by decide +kernel
theorem dX12_isIn_10 : decode cX12_isIn 10 = .ok (.ifCond .gt 7, 3) := by decide +kernel
theorem dX12_isIn_13 : decode cX12_isIn 13 = .ok (.iconst 1, 1) := by decide +kernel
theorem dX12_isIn_14 : decode cX12_isIn 14 = .ok (.goto 4, 3) := by decide +kernel
theorem dX12_isIn_17 : decode cX12_isIn 17 = .ok (.iconst 0, 1) := by decide +kernel
theorem dX12_isIn_18 : decode cX12_isIn 18 = .ok (.ireturn, 1) := by decide +kernel
theorem dX12_seed_0 : decode cX12_seed 0 = .ok (.iload_n 1, 1) := by decide +kernel
theorem dX12_seed_1 : decode cX12_seed 1 = .ok (.i2l, 1) := by decide +kernel
theorem dX12_seed_2 : decode cX12_seed 2 = .ok (.lconst 0, 1) := by decide +kernel
theorem dX12_seed_3 : decode cX12_seed 3 = .ok (.ldc2_w 159, 3) := by decide +kernel
theorem dX12_seed_6 : decode cX12_seed 6 = .ok (.invokestatic 155, 3) := by decide +kernel
theorem dX12_seed_9 : decode cX12_seed 9 = .ok (.ifCond .ne 5, 3) := by decide +kernel
theorem dX12_seed_12 : decode cX12_seed 12 = .ok (.iconst 0, 1) := by decide +kernel
theorem dX12_seed_13 : decode cX12_seed 13 = .ok (.ireturn, 1) := by decide +kernel
theorem dX12_seed_14 : decode cX12_seed 14 = .ok (.aload_n 0, 1) := by decide +kernel
theorem dX12_seed_15 : decode cX12_seed 15 = .ok (.iload_n 1, 1) := by decide +kernel
theorem dX12_seed_16 : decode cX12_seed 16 = .ok (.putfield 17, 3) := by decide +kernel
theorem dX12_seed_19 : decode cX12_seed 19 = .ok (.iconst 1, 1) := by decide +kernel
theorem dX12_seed_20 : decode cX12_seed 20 = .ok (.ireturn, 1) := by decide +kernel
theorem dX12_draws_0 : decode cX12_draws 0 = .ok (.aload_n 0, 1) := by decide +kernel
theorem dX12_draws_1 : decode cX12_draws 1 = .ok (.sipush 25173, 3) := by decide +kernel
theorem dX12_draws_4 : decode cX12_draws 4 = .ok (.aload_n 0, 1) := by decide +kernel
theorem dX12_draws_5 : decode cX12_draws 5 = .ok (.getfield 17, 3) := by decide +kernel
theorem dX12_draws_8 : decode cX12_draws 8 = .ok (.imul, 1) := by decide +kernel
theorem dX12_draws_9 : decode cX12_draws 9 = .ok (.sipush 13849, 3) := by decide +kernel
theorem dX12_draws_12 : decode cX12_draws 12 = .ok (.iadd, 1) := by decide +kernel
theorem dX12_draws_13 : decode cX12_draws 13 = .ok (.ldc 161, 2) := by decide +kernel
theorem dX12_draws_15 : decode cX12_draws 15 = .ok (.irem, 1) := by decide +kernel
theorem dX12_draws_16 : decode cX12_draws 16 = .ok (.putfield 17, 3) := by decide +kernel
theorem dX12_draws_19 : decode cX12_draws 19 = .ok (.return_, 1) := by decide +kernel
theorem dX12_push_0 : decode cX12_push 0 = .ok (.bipush 24, 2) := by decide +kernel
theorem dX12_push_2 : decode cX12_push 2 = .ok (.istore_n 2, 1) := by decide +kernel
theorem dX12_push_3 : decode cX12_push 3 = .ok (.iload_n 2, 1) := by decide +kernel
theorem dX12_push_4 : decode cX12_push 4 = .ok (.ifCond .lt 32, 3) := by decide +kernel
theorem dX12_push_7 : decode cX12_push 7 = .ok (.aload_n 0, 1) := by decide +kernel
theorem dX12_push_8 : decode cX12_push 8 = .ok (.getfield 7, 3) := by decide +kernel
theorem dX12_push_11 : decode cX12_push 11 = .ok (.aload_n 0, 1) := by decide +kernel
theorem dX12_push_12 : decode cX12_push 12 = .ok (.getfield 162, 3) := by decide +kernel
theorem dX12_push_15 : decode cX12_push 15 = .ok (.iload_n 1, 1) := by decide +kernel
theorem dX12_push_16 : decode cX12_push 16 = .ok (.iload_n 2, 1) := by decide +kernel
theorem dX12_push_17 : decode cX12_push 17 = .ok (.ishr, 1) := by decide +kernel
theorem dX12_push_18 : decode cX12_push 18 = .ok (.i2b, 1) := by decide +kernel
theorem dX12_push_19 : decode cX12_push 19 = .ok (.bastore, 1) := by decide +kernel
theorem dX12_push_20 : decode cX12_push 20 = .ok (.aload_n 0, 1) := by decide +kernel
theorem dX12_push_21 : decode cX12_push 21 = .ok (.dup, 1) := by decide +kernel
theorem dX12_push_22 : decode cX12_push 22 = .ok (.getfield 162, 3) := by decide +kernel
theorem dX12_push_25 : decode cX12_push 25 = .ok (.iconst 1, 1) := by decide +kernel
theorem dX12_push_26 : decode cX12_push 26 = .ok (.iadd, 1) := by decide +kernel
theorem dX12_push_27 : decode cX12_push 27 = .ok (.putfield 162, 3) := by decide +kernel
theorem dX12_push_30 : decode cX12_push 30 = .ok (.iinc 2 (-8), 3) := by decide +kernel
theorem dX12_push_33 : decode cX12_push 33 = .ok (.goto (-30), 3) := by decide +kernel
theorem dX12_push_36 : decode cX12_push 36 = .ok (.return_, 1) := by decide +kernel
theorem dX12_feed_0 : decode cX12_feed 0 = .ok (.aload_n 0, 1) := by decide +kernel
theorem dX12_feed_1 : decode cX12_feed 1 = .ok (.getfield 162, 3) := by decide +kernel
theorem dX12_feed_4 : decode cX12_feed 4 = .ok (.bipush 20, 2) := by decide +kernel
theorem dX12_feed_6 : decode cX12_feed 6 = .ok (.iadd, 1) := by decide +kernel
theorem dX12_feed_7 : decode cX12_feed 7 = .ok (.sipush 220, 3) := by decide +kernel
theorem dX12_feed_10 : decode cX12_feed 10 = .ok (.if_icmp .le 5, 3) := by decide +kernel
theorem dX12_feed_13 : decode cX12_feed 13 = .ok (.iconst (-1), 1) := by decide +kernel
theorem dX12_feed_14 : decode cX12_feed 14 = .ok (.ireturn, 1) := by decide +kernel
theorem dX12_feed_15 : decode cX12_feed 15 = .ok (.aload_n 0, 1) := by decide +kernel
theorem dX12_feed_16 : decode cX12_feed 16 = .ok (.iload_n 1, 1) := by decide +kernel
theorem dX12_feed_17 : decode cX12_feed 17 = .ok (.invokevirtual 165, 3) := by decide +kernel
theorem dX12_feed_20 : decode cX12_feed 20 = .ok (.aload_n 0, 1) := by decide +kernel
theorem dX12_feed_21 : decode cX12_feed 21 = .ok (.iload_n 2, 1) := by decide +kernel
theorem dX12_feed_22 : decode cX12_feed 22 = .ok (.invokevirtual 165, 3) := by decide +kernel
theorem dX12_feed_25 : decode cX12_feed 25 = .ok (.aload_n 0, 1) := by decide +kernel
theorem dX12_feed_26 : decode cX12_feed 26 = .ok (.iload_n 3, 1) := by decide +kernel
theorem dX12_feed_27 : decode cX12_feed 27 = .ok (.invokevirtual 165, 3) := by decide +kernel
theorem dX12_feed_30 : decode cX12_feed 30 = .ok (.aload_n 0, 1) := by decide +kernel
theorem dX12_feed_31 : decode cX12_feed 31 = .ok (.iload 4, 2) := by decide +kernel
theorem dX12_feed_33 : decode cX12_feed 33 = .ok (.invokevirtual 165, 3) := by decide +kernel
theorem dX12_feed_36 : decode cX12_feed 36 = .ok (.aload_n 0, 1) := by decide +kernel
theorem dX12_feed_37 : decode cX12_feed 37 = .ok (.iload 5, 2) := by decide +kernel
theorem dX12_feed_39 : decode cX12_feed 39 = .ok (.invokevirtual 165, 3) := by decide +kernel
theorem dX12_feed_42 : decode cX12_feed 42 = .ok (.aload_n 0, 1) := by decide +kernel
theorem dX12_feed_43 : decode cX12_feed 43 = .ok (.getfield 162, 3) := by decide +kernel
theorem dX12_feed_46 : decode cX12_feed 46 = .ok (.ireturn, 1) := by decide +kernel
theorem dX12_here_0 : decode cX12_here 0 = .ok (.aload_n 0, 1) := by decide +kernel
theorem dX12_here_1 : decode cX12_here 1 = .ok (.getfield 169, 3) := by decide +kernel
theorem dX12_here_4 : decode cX12_here 4 = .ok (.aload_n 0, 1) := by decide +kernel
theorem dX12_here_5 : decode cX12_here 5 = .ok (.getfield 172, 3) := by decide +kernel
theorem dX12_here_8 : decode cX12_here 8 = .ok (.if_icmp .ge 19, 3) := by decide +kernel
theorem dX12_here_11 : decode cX12_here 11 = .ok (.aload_n 0, 1) := by decide +kernel
theorem dX12_here_12 : decode cX12_here 12 = .ok (.getfield 7, 3) := by decide +kernel
theorem dX12_here_15 : decode cX12_here 15 = .ok (.aload_n 0, 1) := by decide +kernel
theorem dX12_here_16 : decode cX12_here 16 = .ok (.getfield 169, 3) := by decide +kernel
theorem dX12_here_19 : decode cX12_here 19 = .ok (.baload, 1) := by decide +kernel
theorem dX12_here_20 : decode cX12_here 20 = .ok (.sipush 255, 3) := by decide +kernel
theorem dX12_here_23 : decode cX12_here 23 = .ok (.iand, 1) := by decide +kernel
theorem dX12_here_24 : decode cX12_here 24 = .ok (.goto 4, 3) := by decide +kernel
theorem dX12_here_27 : decode cX12_here 27 = .ok (.iconst 0, 1) := by decide +kernel
theorem dX12_here_28 : decode cX12_here 28 = .ok (.ireturn, 1) := by decide +kernel
theorem dX12_wrongs_0 : decode cX12_wrongs 0 = .ok (.aload_n 0, 1) := by decide +kernel
theorem dX12_wrongs_1 : decode cX12_wrongs 1 = .ok (.aload_n 0, 1) := by decide +kernel
theorem dX12_wrongs_2 : decode cX12_wrongs 2 = .ok (.getfield 175, 3) := by decide +kernel
theorem dX12_wrongs_5 : decode cX12_wrongs 5 = .ok (.ifCond .ge 10, 3) := by decide +kernel
theorem dX12_wrongs_8 : decode cX12_wrongs 8 = .ok (.aload_n 0, 1) := by decide +kernel
theorem dX12_wrongs_9 : decode cX12_wrongs 9 = .ok (.getfield 175, 3) := by decide +kernel
theorem dX12_wrongs_12 : decode cX12_wrongs 12 = .ok (.goto 10, 3) := by decide +kernel
theorem dX12_wrongs_15 : decode cX12_wrongs 15 = .ok (.sipush (-1000), 3) := by decide +kernel
theorem dX12_wrongs_18 : decode cX12_wrongs 18 = .ok (.iload_n 1, 1) := by decide +kernel
theorem dX12_wrongs_19 : decode cX12_wrongs 19 = .ok (.imul, 1) := by decide +kernel
theorem dX12_wrongs_20 : decode cX12_wrongs 20 = .ok (.iload_n 2, 1) := by decide +kernel
theorem dX12_wrongs_21 : decode cX12_wrongs 21 = .ok (.isub, 1) := by decide +kernel
theorem dX12_wrongs_22 : decode cX12_wrongs 22 = .ok (.putfield 175, 3) := by decide +kernel
theorem dX12_wrongs_25 : decode cX12_wrongs 25 = .ok (.return_, 1) := by decide +kernel
theorem dX12_isGood_0 : decode cX12_isGood 0 = .ok (.aload_n 0, 1) := by decide +kernel
theorem dX12_isGood_1 : decode cX12_isGood 1 = .ok (.getfield 175, 3) := by decide +kernel
theorem dX12_isGood_4 : decode cX12_isGood 4 = .ok (.ifCond .ne 7, 3) := by decide +kernel
theorem dX12_isGood_7 : decode cX12_isGood 7 = .ok (.iconst 1, 1) := by decide +kernel
theorem dX12_isGood_8 : decode cX12_isGood 8 = .ok (.goto 4, 3) := by decide +kernel
theorem dX12_isGood_11 : decode cX12_isGood 11 = .ok (.iconst 0, 1) := by decide +kernel
theorem dX12_isGood_12 : decode cX12_isGood 12 = .ok (.ireturn, 1) := by decide +kernel
theorem dX12_emit_0 : decode cX12_emit 0 = .ok (.aload_n 0, 1) := by decide +kernel
theorem dX12_emit_1 : decode cX12_emit 1 = .ok (.invokevirtual 178, 3) := by decide +kernel
theorem dX12_emit_4 : decode cX12_emit 4 = .ok (.ifCond .ne 4, 3) := by decide +kernel
theorem dX12_emit_7 : decode cX12_emit 7 = .ok (.return_, 1) := by decide +kernel
theorem dX12_emit_8 : decode cX12_emit 8 = .ok (.aload_n 0, 1) := by decide +kernel
theorem dX12_emit_9 : decode cX12_emit 9 = .ok (.getfield 54, 3) := by decide +kernel
theorem dX12_emit_12 : decode cX12_emit 12 = .ok (.aload_n 0, 1) := by decide +kernel
theorem dX12_emit_13 : decode cX12_emit 13 = .ok (.getfield 182, 3) := by decide +kernel
theorem dX12_emit_16 : decode cX12_emit 16 = .ok (.iload_n 1, 1) := by decide +kernel
theorem dX12_emit_17 : decode cX12_emit 17 = .ok (.iastore, 1) := by decide +kernel
theorem dX12_emit_18 : decode cX12_emit 18 = .ok (.aload_n 0, 1) := by decide +kernel
theorem dX12_emit_19 : decode cX12_emit 19 = .ok (.getfield 57, 3) := by decide +kernel
theorem dX12_emit_22 : decode cX12_emit 22 = .ok (.aload_n 0, 1) := by decide +kernel
theorem dX12_emit_23 : decode cX12_emit 23 = .ok (.getfield 182, 3) := by decide +kernel
theorem dX12_emit_26 : decode cX12_emit 26 = .ok (.iload_n 2, 1) := by decide +kernel
theorem dX12_emit_27 : decode cX12_emit 27 = .ok (.iastore, 1) := by decide +kernel
theorem dX12_emit_28 : decode cX12_emit 28 = .ok (.aload_n 0, 1) := by decide +kernel
theorem dX12_emit_29 : decode cX12_emit 29 = .ok (.dup, 1) := by decide +kernel
theorem dX12_emit_30 : decode cX12_emit 30 = .ok (.getfield 182, 3) := by decide +kernel
theorem dX12_emit_33 : decode cX12_emit 33 = .ok (.iconst 1, 1) := by decide +kernel
theorem dX12_emit_34 : decode cX12_emit 34 = .ok (.iadd, 1) := by decide +kernel
theorem dX12_emit_35 : decode cX12_emit 35 = .ok (.putfield 182, 3) := by decide +kernel
theorem dX12_emit_38 : decode cX12_emit 38 = .ok (.return_, 1) := by decide +kernel
theorem dX12_top_0 : decode cX12_top 0 = .ok (.aload_n 0, 1) := by decide +kernel
theorem dX12_top_1 : decode cX12_top 1 = .ok (.getfield 185, 3) := by decide +kernel
theorem dX12_top_4 : decode cX12_top 4 = .ok (.ifCond .le 17, 3) := by decide +kernel
theorem dX12_top_7 : decode cX12_top 7 = .ok (.aload_n 0, 1) := by decide +kernel
theorem dX12_top_8 : decode cX12_top 8 = .ok (.getfield 60, 3) := by decide +kernel
theorem dX12_top_11 : decode cX12_top 11 = .ok (.aload_n 0, 1) := by decide +kernel
theorem dX12_top_12 : decode cX12_top 12 = .ok (.getfield 185, 3) := by decide +kernel
theorem dX12_top_15 : decode cX12_top 15 = .ok (.iconst 1, 1) := by decide +kernel
theorem dX12_top_16 : decode cX12_top 16 = .ok (.isub, 1) := by decide +kernel
theorem dX12_top_17 : decode cX12_top 17 = .ok (.iaload, 1) := by decide +kernel
theorem dX12_top_18 : decode cX12_top 18 = .ok (.goto 4, 3) := by decide +kernel
theorem dX12_top_21 : decode cX12_top 21 = .ok (.iconst 0, 1) := by decide +kernel
theorem dX12_top_22 : decode cX12_top 22 = .ok (.ireturn, 1) := by decide +kernel
theorem dX12_puts_0 : decode cX12_puts 0 = .ok (.aload_n 0, 1) := by decide +kernel
theorem dX12_puts_1 : decode cX12_puts 1 = .ok (.getfield 60, 3) := by decide +kernel
theorem dX12_puts_4 : decode cX12_puts 4 = .ok (.aload_n 0, 1) := by decide +kernel
theorem dX12_puts_5 : decode cX12_puts 5 = .ok (.getfield 185, 3) := by decide +kernel
theorem dX12_puts_8 : decode cX12_puts 8 = .ok (.iload_n 1, 1) := by decide +kernel
theorem dX12_puts_9 : decode cX12_puts 9 = .ok (.iastore, 1) := by decide +kernel
theorem dX12_puts_10 : decode cX12_puts 10 = .ok (.aload_n 0, 1) := by decide +kernel
theorem dX12_puts_11 : decode cX12_puts 11 = .ok (.dup, 1) := by decide +kernel
theorem dX12_puts_12 : decode cX12_puts 12 = .ok (.getfield 185, 3) := by decide +kernel
theorem dX12_puts_15 : decode cX12_puts 15 = .ok (.iconst 1, 1) := by decide +kernel
theorem dX12_puts_16 : decode cX12_puts 16 = .ok (.iadd, 1) := by decide +kernel
theorem dX12_puts_17 : decode cX12_puts 17 = .ok (.putfield 185, 3) := by decide +kernel
theorem dX12_puts_20 : decode cX12_puts 20 = .ok (.aload_n 0, 1) := by decide +kernel
theorem dX12_puts_21 : decode cX12_puts 21 = .ok (.dup, 1) := by decide +kernel
theorem dX12_puts_22 : decode cX12_puts 22 = .ok (.getfield 169, 3) := by decide +kernel
theorem dX12_puts_25 : decode cX12_puts 25 = .ok (.iconst 1, 1) := by decide +kernel
theorem dX12_puts_26 : decode cX12_puts 26 = .ok (.iadd, 1) := by decide +kernel
theorem dX12_puts_27 : decode cX12_puts 27 = .ok (.putfield 169, 3) := by decide +kernel
theorem dX12_puts_30 : decode cX12_puts 30 = .ok (.return_, 1) := by decide +kernel
theorem dX12_opens_0 : decode cX12_opens 0 = .ok (.aload_n 0, 1) := by decide +kernel
theorem dX12_opens_1 : decode cX12_opens 1 = .ok (.getfield 188, 3) := by decide +kernel
theorem dX12_opens_4 : decode cX12_opens 4 = .ok (.bipush 6, 2) := by decide +kernel
theorem dX12_opens_6 : decode cX12_opens 6 = .ok (.if_icmp .ne 12, 3) := by decide +kernel
theorem dX12_opens_9 : decode cX12_opens 9 = .ok (.aload_n 0, 1) := by decide +kernel
theorem dX12_opens_10 : decode cX12_opens 10 = .ok (.iconst 5, 1) := by decide +kernel
theorem dX12_opens_11 : decode cX12_opens 11 = .ok (.aload_n 0, 1) := by decide +kernel
theorem dX12_opens_12 : decode cX12_opens 12 = .ok (.getfield 169, 3) := by decide +kernel
theorem dX12_opens_15 : decode cX12_opens 15 = .ok (.invokevirtual 191, 3) := by decide +kernel
theorem dX12_opens_18 : decode cX12_opens 18 = .ok (.aload_n 0, 1) := by decide +kernel
theorem dX12_opens_19 : decode cX12_opens 19 = .ok (.dup, 1) := by decide +kernel
theorem dX12_opens_20 : decode cX12_opens 20 = .ok (.getfield 188, 3) := by decide +kernel
theorem dX12_opens_23 : decode cX12_opens 23 = .ok (.iconst 1, 1) := by decide +kernel
theorem dX12_opens_24 : decode cX12_opens 24 = .ok (.iadd, 1) := by decide +kernel
theorem dX12_opens_25 : decode cX12_opens 25 = .ok (.putfield 188, 3) := by decide +kernel
theorem dX12_opens_28 : decode cX12_opens 28 = .ok (.aload_n 0, 1) := by decide +kernel
theorem dX12_opens_29 : decode cX12_opens 29 = .ok (.aload_n 0, 1) := by decide +kernel
theorem dX12_opens_30 : decode cX12_opens 30 = .ok (.invokevirtual 195, 3) := by decide +kernel
theorem dX12_opens_33 : decode cX12_opens 33 = .ok (.invokevirtual 199, 3) := by decide +kernel
theorem dX12_opens_36 : decode cX12_opens 36 = .ok (.return_, 1) := by decide +kernel
theorem dX12_seesDigit_0 : decode cX12_seesDigit 0 = .ok (.aload_n 0, 1) := by decide +kernel
theorem dX12_seesDigit_1 : decode cX12_seesDigit 1 = .ok (.invokevirtual 195, 3) := by decide +kernel
theorem dX12_seesDigit_4 : decode cX12_seesDigit 4 = .ok (.i2l, 1) := by decide +kernel
theorem dX12_seesDigit_5 : decode cX12_seesDigit 5 = .ok (.ldc2_w 202, 3) := by decide +kernel
theorem dX12_seesDigit_8 : decode cX12_seesDigit 8 = .ok (.ldc2_w 204, 3) := by decide +kernel
theorem dX12_seesDigit_11 : decode cX12_seesDigit 11 = .ok (.invokestatic 155, 3) := by decide +kernel
theorem dX12_seesDigit_14 : decode cX12_seesDigit 14 = .ok (.ireturn, 1) := by decide +kernel
theorem dX12_reads_0 : decode cX12_reads 0 = .ok (.aload_n 0, 1) := by decide +kernel
theorem dX12_reads_1 : decode cX12_reads 1 = .ok (.getfield 169, 3) := by decide +kernel
theorem dX12_reads_4 : decode cX12_reads 4 = .ok (.istore_n 1, 1) := by decide +kernel
theorem dX12_reads_5 : decode cX12_reads 5 = .ok (.iconst 0, 1) := by decide +kernel
theorem dX12_reads_6 : decode cX12_reads 6 = .ok (.istore_n 2, 1) := by decide +kernel
theorem dX12_reads_7 : decode cX12_reads 7 = .ok (.aload_n 0, 1) := by decide +kernel
theorem dX12_reads_8 : decode cX12_reads 8 = .ok (.invokevirtual 178, 3) := by decide +kernel
theorem dX12_reads_11 : decode cX12_reads 11 = .ok (.ifCond .eq 55, 3) := by decide +kernel
theorem dX12_reads_14 : decode cX12_reads 14 = .ok (.aload_n 0, 1) := by decide +kernel
theorem dX12_reads_15 : decode cX12_reads 15 = .ok (.invokevirtual 206, 3) := by decide +kernel
theorem dX12_reads_18 : decode cX12_reads 18 = .ok (.ifCond .eq 48, 3) := by decide +kernel
theorem dX12_reads_21 : decode cX12_reads 21 = .ok (.aload_n 0, 1) := by decide +kernel
theorem dX12_reads_22 : decode cX12_reads 22 = .ok (.getfield 169, 3) := by decide +kernel
theorem dX12_reads_25 : decode cX12_reads 25 = .ok (.iload_n 1, 1) := by decide +kernel
theorem dX12_reads_26 : decode cX12_reads 26 = .ok (.iconst 5, 1) := by decide +kernel
theorem dX12_reads_27 : decode cX12_reads 27 = .ok (.iadd, 1) := by decide +kernel
theorem dX12_reads_28 : decode cX12_reads 28 = .ok (.if_icmp .ne 12, 3) := by decide +kernel
theorem dX12_reads_31 : decode cX12_reads 31 = .ok (.aload_n 0, 1) := by decide +kernel
theorem dX12_reads_32 : decode cX12_reads 32 = .ok (.iconst 2, 1) := by decide +kernel
theorem dX12_reads_33 : decode cX12_reads 33 = .ok (.aload_n 0, 1) := by decide +kernel
theorem dX12_reads_34 : decode cX12_reads 34 = .ok (.getfield 169, 3) := by decide +kernel
theorem dX12_reads_37 : decode cX12_reads 37 = .ok (.invokevirtual 191, 3) := by decide +kernel
theorem dX12_reads_40 : decode cX12_reads 40 = .ok (.bipush 10, 2) := by decide +kernel
theorem dX12_reads_42 : decode cX12_reads 42 = .ok (.iload_n 2, 1) := by decide +kernel
theorem dX12_reads_43 : decode cX12_reads 43 = .ok (.imul, 1) := by decide +kernel
theorem dX12_reads_44 : decode cX12_reads 44 = .ok (.aload_n 0, 1) := by decide +kernel
theorem dX12_reads_45 : decode cX12_reads 45 = .ok (.invokevirtual 195, 3) := by decide +kernel
theorem dX12_reads_48 : decode cX12_reads 48 = .ok (.iadd, 1) := by decide +kernel
theorem dX12_reads_49 : decode cX12_reads 49 = .ok (.bipush 48, 2) := by decide +kernel
theorem dX12_reads_51 : decode cX12_reads 51 = .ok (.isub, 1) := by decide +kernel
theorem dX12_reads_52 : decode cX12_reads 52 = .ok (.istore_n 2, 1) := by decide +kernel
theorem dX12_reads_53 : decode cX12_reads 53 = .ok (.aload_n 0, 1) := by decide +kernel
theorem dX12_reads_54 : decode cX12_reads 54 = .ok (.dup, 1) := by decide +kernel
theorem dX12_reads_55 : decode cX12_reads 55 = .ok (.getfield 169, 3) := by decide +kernel
theorem dX12_reads_58 : decode cX12_reads 58 = .ok (.iconst 1, 1) := by decide +kernel
theorem dX12_reads_59 : decode cX12_reads 59 = .ok (.iadd, 1) := by decide +kernel
theorem dX12_reads_60 : decode cX12_reads 60 = .ok (.putfield 169, 3) := by decide +kernel
theorem dX12_reads_63 : decode cX12_reads 63 = .ok (.goto (-56), 3) := by decide +kernel
theorem dX12_reads_66 : decode cX12_reads 66 = .ok (.iload_n 2, 1) := by decide +kernel
theorem dX12_reads_67 : decode cX12_reads 67 = .ok (.ireturn, 1) := by decide +kernel
theorem dX12_isTimes_0 : decode cX12_isTimes 0 = .ok (.iload_n 0, 1) := by decide +kernel
theorem dX12_isTimes_1 : decode cX12_isTimes 1 = .ok (.bipush 42, 2) := by decide +kernel
theorem dX12_isTimes_3 : decode cX12_isTimes 3 = .ok (.if_icmp .eq 15, 3) := by decide +kernel
theorem dX12_isTimes_6 : decode cX12_isTimes 6 = .ok (.iload_n 0, 1) := by decide +kernel
theorem dX12_isTimes_7 : decode cX12_isTimes 7 = .ok (.bipush 47, 2) := by decide +kernel
theorem dX12_isTimes_9 : decode cX12_isTimes 9 = .ok (.if_icmp .eq 9, 3) := by decide +kernel
theorem dX12_isTimes_12 : decode cX12_isTimes 12 = .ok (.iload_n 0, 1) := by decide +kernel
theorem dX12_isTimes_13 : decode cX12_isTimes 13 = .ok (.bipush 37, 2) := by decide +kernel
theorem dX12_isTimes_15 : decode cX12_isTimes 15 = .ok (.if_icmp .ne 7, 3) := by decide +kernel
theorem dX12_isTimes_18 : decode cX12_isTimes 18 = .ok (.iconst 1, 1) := by decide +kernel
theorem dX12_isTimes_19 : decode cX12_isTimes 19 = .ok (.goto 4, 3) := by decide +kernel
theorem dX12_isTimes_22 : decode cX12_isTimes 22 = .ok (.iconst 0, 1) := by decide +kernel
theorem dX12_isTimes_23 : decode cX12_isTimes 23 = .ok (.ireturn, 1) := by decide +kernel
theorem dX12_isPlus_0 : decode cX12_isPlus 0 = .ok (.iload_n 0, 1) := by decide +kernel
theorem dX12_isPlus_1 : decode cX12_isPlus 1 = .ok (.bipush 43, 2) := by decide +kernel
theorem dX12_isPlus_3 : decode cX12_isPlus 3 = .ok (.if_icmp .eq 9, 3) := by decide +kernel
theorem dX12_isPlus_6 : decode cX12_isPlus 6 = .ok (.iload_n 0, 1) := by decide +kernel
theorem dX12_isPlus_7 : decode cX12_isPlus 7 = .ok (.bipush 45, 2) := by decide +kernel
theorem dX12_isPlus_9 : decode cX12_isPlus 9 = .ok (.if_icmp .ne 7, 3) := by decide +kernel
theorem dX12_isPlus_12 : decode cX12_isPlus 12 = .ok (.iconst 1, 1) := by decide +kernel
theorem dX12_isPlus_13 : decode cX12_isPlus 13 = .ok (.goto 4, 3) := by decide +kernel
theorem dX12_isPlus_16 : decode cX12_isPlus 16 = .ok (.iconst 0, 1) := by decide +kernel
theorem dX12_isPlus_17 : decode cX12_isPlus 17 = .ok (.ireturn, 1) := by decide +kernel
theorem dX12_isSign_0 : decode cX12_isSign 0 = .ok (.iload_n 0, 1) := by decide +kernel
theorem dX12_isSign_1 : decode cX12_isSign 1 = .ok (.bipush 60, 2) := by decide +kernel
theorem dX12_isSign_3 : decode cX12_isSign 3 = .ok (.if_icmp .eq 15, 3) := by decide +kernel
theorem dX12_isSign_6 : decode cX12_isSign 6 = .ok (.iload_n 0, 1) := by decide +kernel
theorem dX12_isSign_7 : decode cX12_isSign 7 = .ok (.bipush 62, 2) := by decide +kernel
theorem dX12_isSign_9 : decode cX12_isSign 9 = .ok (.if_icmp .eq 9, 3) := by decide +kernel
theorem dX12_isSign_12 : decode cX12_isSign 12 = .ok (.iload_n 0, 1) := by decide +kernel
theorem dX12_isSign_13 : decode cX12_isSign 13 = .ok (.bipush 61, 2) := by decide +kernel
theorem dX12_isSign_15 : decode cX12_isSign 15 = .ok (.if_icmp .ne 7, 3) := by decide +kernel
theorem dX12_isSign_18 : decode cX12_isSign 18 = .ok (.iconst 1, 1) := by decide +kernel
theorem dX12_isSign_19 : decode cX12_isSign 19 = .ok (.goto 4, 3) := by decide +kernel
theorem dX12_isSign_22 : decode cX12_isSign 22 = .ok (.iconst 0, 1) := by decide +kernel
theorem dX12_isSign_23 : decode cX12_isSign 23 = .ok (.ireturn, 1) := by decide +kernel
theorem dX12_isValue_0 : decode cX12_isValue 0 = .ok (.iload_n 0, 1) := by decide +kernel
theorem dX12_isValue_1 : decode cX12_isValue 1 = .ok (.bipush 102, 2) := by decide +kernel
theorem dX12_isValue_3 : decode cX12_isValue 3 = .ok (.if_icmp .eq 75, 3) := by decide +kernel
theorem dX12_isValue_6 : decode cX12_isValue 6 = .ok (.iload_n 0, 1) := by decide +kernel
theorem dX12_isValue_7 : decode cX12_isValue 7 = .ok (.bipush 115, 2) := by decide +kernel
theorem dX12_isValue_9 : decode cX12_isValue 9 = .ok (.if_icmp .eq 69, 3) := by decide +kernel
theorem dX12_isValue_12 : decode cX12_isValue 12 = .ok (.iload_n 0, 1) := by decide +kernel
theorem dX12_isValue_13 : decode cX12_isValue 13 = .ok (.bipush 100, 2) := by decide +kernel
theorem dX12_isValue_15 : decode cX12_isValue 15 = .ok (.if_icmp .eq 63, 3) := by decide +kernel
theorem dX12_isValue_18 : decode cX12_isValue 18 = .ok (.iload_n 0, 1) := by decide +kernel
theorem dX12_isValue_19 : decode cX12_isValue 19 = .ok (.bipush 110, 2) := by decide +kernel
theorem dX12_isValue_21 : decode cX12_isValue 21 = .ok (.if_icmp .eq 57, 3) := by decide +kernel
theorem dX12_isValue_24 : decode cX12_isValue 24 = .ok (.iload_n 0, 1) := by decide +kernel
theorem dX12_isValue_25 : decode cX12_isValue 25 = .ok (.bipush 99, 2) := by decide +kernel
theorem dX12_isValue_27 : decode cX12_isValue 27 = .ok (.if_icmp .eq 51, 3) := by decide +kernel
theorem dX12_isValue_30 : decode cX12_isValue 30 = .ok (.iload_n 0, 1) := by decide +kernel
theorem dX12_isValue_31 : decode cX12_isValue 31 = .ok (.bipush 107, 2) := by decide +kernel
theorem dX12_isValue_33 : decode cX12_isValue 33 = .ok (.if_icmp .eq 45, 3) := by decide +kernel
theorem dX12_isValue_36 : decode cX12_isValue 36 = .ok (.iload_n 0, 1) := by decide +kernel
theorem dX12_isValue_37 : decode cX12_isValue 37 = .ok (.bipush 121, 2) := by decide +kernel
theorem dX12_isValue_39 : decode cX12_isValue 39 = .ok (.if_icmp .eq 39, 3) := by decide +kernel
theorem dX12_isValue_42 : decode cX12_isValue 42 = .ok (.iload_n 0, 1) := by decide +kernel
theorem dX12_isValue_43 : decode cX12_isValue 43 = .ok (.bipush 122, 2) := by decide +kernel
theorem dX12_isValue_45 : decode cX12_isValue 45 = .ok (.if_icmp .eq 33, 3) := by decide +kernel
theorem dX12_isValue_48 : decode cX12_isValue 48 = .ok (.iload_n 0, 1) := by decide +kernel
theorem dX12_isValue_49 : decode cX12_isValue 49 = .ok (.bipush 109, 2) := by decide +kernel
theorem dX12_isValue_51 : decode cX12_isValue 51 = .ok (.if_icmp .eq 27, 3) := by decide +kernel
theorem dX12_isValue_54 : decode cX12_isValue 54 = .ok (.iload_n 0, 1) := by decide +kernel
theorem dX12_isValue_55 : decode cX12_isValue 55 = .ok (.bipush 120, 2) := by decide +kernel
theorem dX12_isValue_57 : decode cX12_isValue 57 = .ok (.if_icmp .eq 21, 3) := by decide +kernel
theorem dX12_isValue_60 : decode cX12_isValue 60 = .ok (.iload_n 0, 1) := by decide +kernel
theorem dX12_isValue_61 : decode cX12_isValue 61 = .ok (.bipush 116, 2) := by decide +kernel
theorem dX12_isValue_63 : decode cX12_isValue 63 = .ok (.if_icmp .eq 15, 3) := by decide +kernel
theorem dX12_isValue_66 : decode cX12_isValue 66 = .ok (.iload_n 0, 1) := by decide +kernel
theorem dX12_isValue_67 : decode cX12_isValue 67 = .ok (.bipush 118, 2) := by decide +kernel
theorem dX12_isValue_69 : decode cX12_isValue 69 = .ok (.if_icmp .eq 9, 3) := by decide +kernel
theorem dX12_isValue_72 : decode cX12_isValue 72 = .ok (.iload_n 0, 1) := by decide +kernel
theorem dX12_isValue_73 : decode cX12_isValue 73 = .ok (.bipush 119, 2) := by decide +kernel
theorem dX12_isValue_75 : decode cX12_isValue 75 = .ok (.if_icmp .ne 7, 3) := by decide +kernel
theorem dX12_isValue_78 : decode cX12_isValue 78 = .ok (.iconst 1, 1) := by decide +kernel
theorem dX12_isValue_79 : decode cX12_isValue 79 = .ok (.goto 4, 3) := by decide +kernel
theorem dX12_isValue_82 : decode cX12_isValue 82 = .ok (.iconst 0, 1) := by decide +kernel
theorem dX12_isValue_83 : decode cX12_isValue 83 = .ok (.ireturn, 1) := by decide +kernel
theorem dX12_sums_0 : decode cX12_sums 0 = .ok (.aload_n 0, 1) := by decide +kernel
theorem dX12_sums_1 : decode cX12_sums 1 = .ok (.invokevirtual 209, 3) := by decide +kernel
theorem dX12_sums_4 : decode cX12_sums 4 = .ok (.invokestatic 212, 3) := by decide +kernel
theorem dX12_sums_7 : decode cX12_sums 7 = .ok (.ifCond .ne 17, 3) := by decide +kernel
theorem dX12_sums_10 : decode cX12_sums 10 = .ok (.iload_n 1, 1) := by decide +kernel
theorem dX12_sums_11 : decode cX12_sums 11 = .ok (.ifCond .eq 35, 3) := by decide +kernel
theorem dX12_sums_14 : decode cX12_sums 14 = .ok (.aload_n 0, 1) := by decide +kernel
theorem dX12_sums_15 : decode cX12_sums 15 = .ok (.invokevirtual 209, 3) := by decide +kernel
theorem dX12_sums_18 : decode cX12_sums 18 = .ok (.invokestatic 216, 3) := by decide +kernel
theorem dX12_sums_21 : decode cX12_sums 21 = .ok (.ifCond .eq 25, 3) := by decide +kernel
theorem dX12_sums_24 : decode cX12_sums 24 = .ok (.aload_n 0, 1) := by decide +kernel
theorem dX12_sums_25 : decode cX12_sums 25 = .ok (.aload_n 0, 1) := by decide +kernel
theorem dX12_sums_26 : decode cX12_sums 26 = .ok (.invokevirtual 209, 3) := by decide +kernel
theorem dX12_sums_29 : decode cX12_sums 29 = .ok (.iconst 0, 1) := by decide +kernel
theorem dX12_sums_30 : decode cX12_sums 30 = .ok (.invokevirtual 219, 3) := by decide +kernel
theorem dX12_sums_33 : decode cX12_sums 33 = .ok (.aload_n 0, 1) := by decide +kernel
theorem dX12_sums_34 : decode cX12_sums 34 = .ok (.dup, 1) := by decide +kernel
theorem dX12_sums_35 : decode cX12_sums 35 = .ok (.getfield 185, 3) := by decide +kernel
theorem dX12_sums_38 : decode cX12_sums 38 = .ok (.iconst 1, 1) := by decide +kernel
theorem dX12_sums_39 : decode cX12_sums 39 = .ok (.isub, 1) := by decide +kernel
theorem dX12_sums_40 : decode cX12_sums 40 = .ok (.putfield 185, 3) := by decide +kernel
theorem dX12_sums_43 : decode cX12_sums 43 = .ok (.goto (-43), 3) := by decide +kernel
theorem dX12_sums_46 : decode cX12_sums 46 = .ok (.return_, 1) := by decide +kernel
theorem dX12_joins_0 : decode cX12_joins 0 = .ok (.aload_n 0, 1) := by decide +kernel
theorem dX12_joins_1 : decode cX12_joins 1 = .ok (.invokevirtual 209, 3) := by decide +kernel
theorem dX12_joins_4 : decode cX12_joins 4 = .ok (.bipush 38, 2) := by decide +kernel
theorem dX12_joins_6 : decode cX12_joins 6 = .ok (.if_icmp .eq 16, 3) := by decide +kernel
theorem dX12_joins_9 : decode cX12_joins 9 = .ok (.iload_n 1, 1) := by decide +kernel
theorem dX12_joins_10 : decode cX12_joins 10 = .ok (.ifCond .eq 34, 3) := by decide +kernel
theorem dX12_joins_13 : decode cX12_joins 13 = .ok (.aload_n 0, 1) := by decide +kernel
theorem dX12_joins_14 : decode cX12_joins 14 = .ok (.invokevirtual 209, 3) := by decide +kernel
theorem dX12_joins_17 : decode cX12_joins 17 = .ok (.bipush 124, 2) := by decide +kernel
theorem dX12_joins_19 : decode cX12_joins 19 = .ok (.if_icmp .ne 25, 3) := by decide +kernel
theorem dX12_joins_22 : decode cX12_joins 22 = .ok (.aload_n 0, 1) := by decide +kernel
theorem dX12_joins_23 : decode cX12_joins 23 = .ok (.aload_n 0, 1) := by decide +kernel
theorem dX12_joins_24 : decode cX12_joins 24 = .ok (.invokevirtual 209, 3) := by decide +kernel
theorem dX12_joins_27 : decode cX12_joins 27 = .ok (.iconst 0, 1) := by decide +kernel
theorem dX12_joins_28 : decode cX12_joins 28 = .ok (.invokevirtual 219, 3) := by decide +kernel
theorem dX12_joins_31 : decode cX12_joins 31 = .ok (.aload_n 0, 1) := by decide +kernel
theorem dX12_joins_32 : decode cX12_joins 32 = .ok (.dup, 1) := by decide +kernel
theorem dX12_joins_33 : decode cX12_joins 33 = .ok (.getfield 185, 3) := by decide +kernel
theorem dX12_joins_36 : decode cX12_joins 36 = .ok (.iconst 1, 1) := by decide +kernel
theorem dX12_joins_37 : decode cX12_joins 37 = .ok (.isub, 1) := by decide +kernel
theorem dX12_joins_38 : decode cX12_joins 38 = .ok (.putfield 185, 3) := by decide +kernel
theorem dX12_joins_41 : decode cX12_joins 41 = .ok (.goto (-41), 3) := by decide +kernel
theorem dX12_joins_44 : decode cX12_joins 44 = .ok (.return_, 1) := by decide +kernel
theorem dX12_ends_0 : decode cX12_ends 0 = .ok (.aload_n 0, 1) := by decide +kernel
theorem dX12_ends_1 : decode cX12_ends 1 = .ok (.invokevirtual 209, 3) := by decide +kernel
theorem dX12_ends_4 : decode cX12_ends 4 = .ok (.bipush 33, 2) := by decide +kernel
theorem dX12_ends_6 : decode cX12_ends 6 = .ok (.if_icmp .ne 32, 3) := by decide +kernel
theorem dX12_ends_9 : decode cX12_ends 9 = .ok (.aload_n 0, 1) := by decide +kernel
theorem dX12_ends_10 : decode cX12_ends 10 = .ok (.iconst 2, 1) := by decide +kernel
theorem dX12_ends_11 : decode cX12_ends 11 = .ok (.iconst 0, 1) := by decide +kernel
theorem dX12_ends_12 : decode cX12_ends 12 = .ok (.invokevirtual 219, 3) := by decide +kernel
theorem dX12_ends_15 : decode cX12_ends 15 = .ok (.aload_n 0, 1) := by decide +kernel
theorem dX12_ends_16 : decode cX12_ends 16 = .ok (.dup, 1) := by decide +kernel
theorem dX12_ends_17 : decode cX12_ends 17 = .ok (.getfield 185, 3) := by decide +kernel
theorem dX12_ends_20 : decode cX12_ends 20 = .ok (.iconst 1, 1) := by decide +kernel
theorem dX12_ends_21 : decode cX12_ends 21 = .ok (.isub, 1) := by decide +kernel
theorem dX12_ends_22 : decode cX12_ends 22 = .ok (.putfield 185, 3) := by decide +kernel
theorem dX12_ends_25 : decode cX12_ends 25 = .ok (.aload_n 0, 1) := by decide +kernel
theorem dX12_ends_26 : decode cX12_ends 26 = .ok (.dup, 1) := by decide +kernel
theorem dX12_ends_27 : decode cX12_ends 27 = .ok (.getfield 188, 3) := by decide +kernel
theorem dX12_ends_30 : decode cX12_ends 30 = .ok (.iconst 1, 1) := by decide +kernel
theorem dX12_ends_31 : decode cX12_ends 31 = .ok (.isub, 1) := by decide +kernel
theorem dX12_ends_32 : decode cX12_ends 32 = .ok (.putfield 188, 3) := by decide +kernel
theorem dX12_ends_35 : decode cX12_ends 35 = .ok (.goto (-35), 3) := by decide +kernel
theorem dX12_ends_38 : decode cX12_ends 38 = .ok (.return_, 1) := by decide +kernel
theorem dX12_factor_0 : decode cX12_factor 0 = .ok (.aload_n 0, 1) := by decide +kernel
theorem dX12_factor_1 : decode cX12_factor 1 = .ok (.invokevirtual 178, 3) := by decide +kernel
theorem dX12_factor_4 : decode cX12_factor 4 = .ok (.ifCond .eq 19, 3) := by decide +kernel
theorem dX12_factor_7 : decode cX12_factor 7 = .ok (.aload_n 0, 1) := by decide +kernel
theorem dX12_factor_8 : decode cX12_factor 8 = .ok (.invokevirtual 195, 3) := by decide +kernel
theorem dX12_factor_11 : decode cX12_factor 11 = .ok (.bipush 91, 2) := by decide +kernel
theorem dX12_factor_13 : decode cX12_factor 13 = .ok (.if_icmp .ne 10, 3) := by decide +kernel
theorem dX12_factor_16 : decode cX12_factor 16 = .ok (.aload_n 0, 1) := by decide +kernel
theorem dX12_factor_17 : decode cX12_factor 17 = .ok (.invokevirtual 222, 3) := by decide +kernel
theorem dX12_factor_20 : decode cX12_factor 20 = .ok (.goto (-20), 3) := by decide +kernel
theorem dX12_factor_23 : decode cX12_factor 23 = .ok (.aload_n 0, 1) := by decide +kernel
theorem dX12_factor_24 : decode cX12_factor 24 = .ok (.invokevirtual 178, 3) := by decide +kernel
theorem dX12_factor_27 : decode cX12_factor 27 = .ok (.ifCond .ne 4, 3) := by decide +kernel
theorem dX12_factor_30 : decode cX12_factor 30 = .ok (.return_, 1) := by decide +kernel
theorem dX12_factor_31 : decode cX12_factor 31 = .ok (.aload_n 0, 1) := by decide +kernel
theorem dX12_factor_32 : decode cX12_factor 32 = .ok (.invokevirtual 206, 3) := by decide +kernel
theorem dX12_factor_35 : decode cX12_factor 35 = .ok (.ifCond .eq 15, 3) := by decide +kernel
theorem dX12_factor_38 : decode cX12_factor 38 = .ok (.aload_n 0, 1) := by decide +kernel
theorem dX12_factor_39 : decode cX12_factor 39 = .ok (.iconst 0, 1) := by decide +kernel
theorem dX12_factor_40 : decode cX12_factor 40 = .ok (.aload_n 0, 1) := by decide +kernel
theorem dX12_factor_41 : decode cX12_factor 41 = .ok (.invokevirtual 225, 3) := by decide +kernel
theorem dX12_factor_44 : decode cX12_factor 44 = .ok (.invokevirtual 219, 3) := by decide +kernel
theorem dX12_factor_47 : decode cX12_factor 47 = .ok (.goto 44, 3) := by decide +kernel
theorem dX12_factor_50 : decode cX12_factor 50 = .ok (.aload_n 0, 1) := by decide +kernel
theorem dX12_factor_51 : decode cX12_factor 51 = .ok (.invokevirtual 195, 3) := by decide +kernel
theorem dX12_factor_54 : decode cX12_factor 54 = .ok (.invokestatic 228, 3) := by decide +kernel
theorem dX12_factor_57 : decode cX12_factor 57 = .ok (.ifCond .eq 25, 3) := by decide +kernel
theorem dX12_factor_60 : decode cX12_factor 60 = .ok (.aload_n 0, 1) := by decide +kernel
theorem dX12_factor_61 : decode cX12_factor 61 = .ok (.iconst 1, 1) := by decide +kernel
theorem dX12_factor_62 : decode cX12_factor 62 = .ok (.aload_n 0, 1) := by decide +kernel
theorem dX12_factor_63 : decode cX12_factor 63 = .ok (.invokevirtual 195, 3) := by decide +kernel
theorem dX12_factor_66 : decode cX12_factor 66 = .ok (.invokevirtual 219, 3) := by decide +kernel
theorem dX12_factor_69 : decode cX12_factor 69 = .ok (.aload_n 0, 1) := by decide +kernel
theorem dX12_factor_70 : decode cX12_factor 70 = .ok (.dup, 1) := by decide +kernel
theorem dX12_factor_71 : decode cX12_factor 71 = .ok (.getfield 169, 3) := by decide +kernel
theorem dX12_factor_74 : decode cX12_factor 74 = .ok (.iconst 1, 1) := by decide +kernel
theorem dX12_factor_75 : decode cX12_factor 75 = .ok (.iadd, 1) := by decide +kernel
theorem dX12_factor_76 : decode cX12_factor 76 = .ok (.putfield 169, 3) := by decide +kernel
theorem dX12_factor_79 : decode cX12_factor 79 = .ok (.goto 12, 3) := by decide +kernel
theorem dX12_factor_82 : decode cX12_factor 82 = .ok (.aload_n 0, 1) := by decide +kernel
theorem dX12_factor_83 : decode cX12_factor 83 = .ok (.iconst 1, 1) := by decide +kernel
theorem dX12_factor_84 : decode cX12_factor 84 = .ok (.aload_n 0, 1) := by decide +kernel
theorem dX12_factor_85 : decode cX12_factor 85 = .ok (.getfield 169, 3) := by decide +kernel
theorem dX12_factor_88 : decode cX12_factor 88 = .ok (.invokevirtual 191, 3) := by decide +kernel
theorem dX12_factor_91 : decode cX12_factor 91 = .ok (.return_, 1) := by decide +kernel
theorem dX12_stays_0 : decode cX12_stays 0 = .ok (.aload_n 0, 1) := by decide +kernel
theorem dX12_stays_1 : decode cX12_stays 1 = .ok (.invokevirtual 195, 3) := by decide +kernel
theorem dX12_stays_4 : decode cX12_stays 4 = .ok (.istore_n 1, 1) := by decide +kernel
theorem dX12_stays_5 : decode cX12_stays 5 = .ok (.iload_n 1, 1) := by decide +kernel
theorem dX12_stays_6 : decode cX12_stays 6 = .ok (.invokestatic 212, 3) := by decide +kernel
theorem dX12_stays_9 : decode cX12_stays 9 = .ok (.ifCond .ne 10, 3) := by decide +kernel
theorem dX12_stays_12 : decode cX12_stays 12 = .ok (.iload_n 1, 1) := by decide +kernel
theorem dX12_stays_13 : decode cX12_stays 13 = .ok (.invokestatic 216, 3) := by decide +kernel
theorem dX12_stays_16 : decode cX12_stays 16 = .ok (.ifCond .eq 18, 3) := by decide +kernel
theorem dX12_stays_19 : decode cX12_stays 19 = .ok (.aload_n 0, 1) := by decide +kernel
theorem dX12_stays_20 : decode cX12_stays 20 = .ok (.iload_n 1, 1) := by decide +kernel
theorem dX12_stays_21 : decode cX12_stays 21 = .ok (.invokestatic 216, 3) := by decide +kernel
theorem dX12_stays_24 : decode cX12_stays 24 = .ok (.invokevirtual 231, 3) := by decide +kernel
theorem dX12_stays_27 : decode cX12_stays 27 = .ok (.aload_n 0, 1) := by decide +kernel
theorem dX12_stays_28 : decode cX12_stays 28 = .ok (.iload_n 1, 1) := by decide +kernel
theorem dX12_stays_29 : decode cX12_stays 29 = .ok (.invokevirtual 199, 3) := by decide +kernel
theorem dX12_stays_32 : decode cX12_stays 32 = .ok (.iconst 1, 1) := by decide +kernel
theorem dX12_stays_33 : decode cX12_stays 33 = .ok (.ireturn, 1) := by decide +kernel
theorem dX12_stays_34 : decode cX12_stays 34 = .ok (.aload_n 0, 1) := by decide +kernel
theorem dX12_stays_35 : decode cX12_stays 35 = .ok (.iconst 1, 1) := by decide +kernel
theorem dX12_stays_36 : decode cX12_stays 36 = .ok (.invokevirtual 231, 3) := by decide +kernel
theorem dX12_stays_39 : decode cX12_stays 39 = .ok (.iload_n 1, 1) := by decide +kernel
theorem dX12_stays_40 : decode cX12_stays 40 = .ok (.bipush 93, 2) := by decide +kernel
theorem dX12_stays_42 : decode cX12_stays 42 = .ok (.if_icmp .eq 5, 3) := by decide +kernel
theorem dX12_stays_45 : decode cX12_stays 45 = .ok (.iconst 0, 1) := by decide +kernel
theorem dX12_stays_46 : decode cX12_stays 46 = .ok (.ireturn, 1) := by decide +kernel
theorem dX12_stays_47 : decode cX12_stays 47 = .ok (.aload_n 0, 1) := by decide +kernel
theorem dX12_stays_48 : decode cX12_stays 48 = .ok (.invokevirtual 209, 3) := by decide +kernel
theorem dX12_stays_51 : decode cX12_stays 51 = .ok (.bipush 91, 2) := by decide +kernel
theorem dX12_stays_53 : decode cX12_stays 53 = .ok (.if_icmp .eq 14, 3) := by decide +kernel
theorem dX12_stays_56 : decode cX12_stays 56 = .ok (.aload_n 0, 1) := by decide +kernel
theorem dX12_stays_57 : decode cX12_stays 57 = .ok (.iconst 1, 1) := by decide +kernel
theorem dX12_stays_58 : decode cX12_stays 58 = .ok (.aload_n 0, 1) := by decide +kernel
theorem dX12_stays_59 : decode cX12_stays 59 = .ok (.getfield 169, 3) := by decide +kernel
theorem dX12_stays_62 : decode cX12_stays 62 = .ok (.invokevirtual 191, 3) := by decide +kernel
theorem dX12_stays_65 : decode cX12_stays 65 = .ok (.iconst 0, 1) := by decide +kernel
theorem dX12_stays_66 : decode cX12_stays 66 = .ok (.ireturn, 1) := by decide +kernel
theorem dX12_stays_67 : decode cX12_stays 67 = .ok (.aload_n 0, 1) := by decide +kernel
theorem dX12_stays_68 : decode cX12_stays 68 = .ok (.dup, 1) := by decide +kernel
theorem dX12_stays_69 : decode cX12_stays 69 = .ok (.getfield 185, 3) := by decide +kernel
theorem dX12_stays_72 : decode cX12_stays 72 = .ok (.iconst 1, 1) := by decide +kernel
theorem dX12_stays_73 : decode cX12_stays 73 = .ok (.isub, 1) := by decide +kernel
theorem dX12_stays_74 : decode cX12_stays 74 = .ok (.putfield 185, 3) := by decide +kernel
theorem dX12_stays_77 : decode cX12_stays 77 = .ok (.aload_n 0, 1) := by decide +kernel
theorem dX12_stays_78 : decode cX12_stays 78 = .ok (.dup, 1) := by decide +kernel
theorem dX12_stays_79 : decode cX12_stays 79 = .ok (.getfield 188, 3) := by decide +kernel
theorem dX12_stays_82 : decode cX12_stays 82 = .ok (.iconst 1, 1) := by decide +kernel
theorem dX12_stays_83 : decode cX12_stays 83 = .ok (.isub, 1) := by decide +kernel
theorem dX12_stays_84 : decode cX12_stays 84 = .ok (.putfield 188, 3) := by decide +kernel
theorem dX12_stays_87 : decode cX12_stays 87 = .ok (.aload_n 0, 1) := by decide +kernel
theorem dX12_stays_88 : decode cX12_stays 88 = .ok (.dup, 1) := by decide +kernel
theorem dX12_stays_89 : decode cX12_stays 89 = .ok (.getfield 169, 3) := by decide +kernel
theorem dX12_stays_92 : decode cX12_stays 92 = .ok (.iconst 1, 1) := by decide +kernel
theorem dX12_stays_93 : decode cX12_stays 93 = .ok (.iadd, 1) := by decide +kernel
theorem dX12_stays_94 : decode cX12_stays 94 = .ok (.putfield 169, 3) := by decide +kernel
theorem dX12_stays_97 : decode cX12_stays 97 = .ok (.aload_n 0, 1) := by decide +kernel
theorem dX12_stays_98 : decode cX12_stays 98 = .ok (.iconst 1, 1) := by decide +kernel
theorem dX12_stays_99 : decode cX12_stays 99 = .ok (.putfield 235, 3) := by decide +kernel
theorem dX12_stays_102 : decode cX12_stays 102 = .ok (.iconst 1, 1) := by decide +kernel
theorem dX12_stays_103 : decode cX12_stays 103 = .ok (.ireturn, 1) := by decide +kernel
theorem dX12_value_0 : decode cX12_value 0 = .ok (.iconst 1, 1) := by decide +kernel
theorem dX12_value_1 : decode cX12_value 1 = .ok (.istore_n 1, 1) := by decide +kernel
theorem dX12_value_2 : decode cX12_value 2 = .ok (.aload_n 0, 1) := by decide +kernel
theorem dX12_value_3 : decode cX12_value 3 = .ok (.iconst 0, 1) := by decide +kernel
theorem dX12_value_4 : decode cX12_value 4 = .ok (.putfield 235, 3) := by decide +kernel
theorem dX12_value_7 : decode cX12_value 7 = .ok (.iload_n 1, 1) := by decide +kernel
theorem dX12_value_8 : decode cX12_value 8 = .ok (.ifCond .eq 49, 3) := by decide +kernel
theorem dX12_value_11 : decode cX12_value 11 = .ok (.aload_n 0, 1) := by decide +kernel
theorem dX12_value_12 : decode cX12_value 12 = .ok (.invokevirtual 178, 3) := by decide +kernel
theorem dX12_value_15 : decode cX12_value 15 = .ok (.ifCond .eq 42, 3) := by decide +kernel
theorem dX12_value_18 : decode cX12_value 18 = .ok (.aload_n 0, 1) := by decide +kernel
theorem dX12_value_19 : decode cX12_value 19 = .ok (.getfield 235, 3) := by decide +kernel
theorem dX12_value_22 : decode cX12_value 22 = .ok (.ifCond .ne 7, 3) := by decide +kernel
theorem dX12_value_25 : decode cX12_value 25 = .ok (.aload_n 0, 1) := by decide +kernel
theorem dX12_value_26 : decode cX12_value 26 = .ok (.invokevirtual 239, 3) := by decide +kernel
theorem dX12_value_29 : decode cX12_value 29 = .ok (.aload_n 0, 1) := by decide +kernel
theorem dX12_value_30 : decode cX12_value 30 = .ok (.iconst 0, 1) := by decide +kernel
theorem dX12_value_31 : decode cX12_value 31 = .ok (.putfield 235, 3) := by decide +kernel
theorem dX12_value_34 : decode cX12_value 34 = .ok (.aload_n 0, 1) := by decide +kernel
theorem dX12_value_35 : decode cX12_value 35 = .ok (.invokevirtual 178, 3) := by decide +kernel
theorem dX12_value_38 : decode cX12_value 38 = .ok (.ifCond .eq 14, 3) := by decide +kernel
theorem dX12_value_41 : decode cX12_value 41 = .ok (.aload_n 0, 1) := by decide +kernel
theorem dX12_value_42 : decode cX12_value 42 = .ok (.invokevirtual 242, 3) := by decide +kernel
theorem dX12_value_45 : decode cX12_value 45 = .ok (.ifCond .eq 7, 3) := by decide +kernel
theorem dX12_value_48 : decode cX12_value 48 = .ok (.iconst 1, 1) := by decide +kernel
theorem dX12_value_49 : decode cX12_value 49 = .ok (.goto 4, 3) := by decide +kernel
theorem dX12_value_52 : decode cX12_value 52 = .ok (.iconst 0, 1) := by decide +kernel
theorem dX12_value_53 : decode cX12_value 53 = .ok (.istore_n 1, 1) := by decide +kernel
theorem dX12_value_54 : decode cX12_value 54 = .ok (.goto (-47), 3) := by decide +kernel
theorem dX12_value_57 : decode cX12_value 57 = .ok (.aload_n 0, 1) := by decide +kernel
theorem dX12_value_58 : decode cX12_value 58 = .ok (.invokevirtual 178, 3) := by decide +kernel
theorem dX12_value_61 : decode cX12_value 61 = .ok (.ifCond .eq 21, 3) := by decide +kernel
theorem dX12_value_64 : decode cX12_value 64 = .ok (.aload_n 0, 1) := by decide +kernel
theorem dX12_value_65 : decode cX12_value 65 = .ok (.invokevirtual 209, 3) := by decide +kernel
theorem dX12_value_68 : decode cX12_value 68 = .ok (.bipush 91, 2) := by decide +kernel
theorem dX12_value_70 : decode cX12_value 70 = .ok (.if_icmp .ne 12, 3) := by decide +kernel
theorem dX12_value_73 : decode cX12_value 73 = .ok (.aload_n 0, 1) := by decide +kernel
theorem dX12_value_74 : decode cX12_value 74 = .ok (.iconst 1, 1) := by decide +kernel
theorem dX12_value_75 : decode cX12_value 75 = .ok (.aload_n 0, 1) := by decide +kernel
theorem dX12_value_76 : decode cX12_value 76 = .ok (.getfield 169, 3) := by decide +kernel
theorem dX12_value_79 : decode cX12_value 79 = .ok (.invokevirtual 191, 3) := by decide +kernel
theorem dX12_value_82 : decode cX12_value 82 = .ok (.return_, 1) := by decide +kernel
theorem dX12_pieceOfC_0 : decode cX12_pieceOfC 0 = .ok (.aload_n 0, 1) := by decide +kernel
theorem dX12_pieceOfC_1 : decode cX12_pieceOfC 1 = .ok (.invokevirtual 178, 3) := by decide +kernel
theorem dX12_pieceOfC_4 : decode cX12_pieceOfC 4 = .ok (.ifCond .eq 28, 3) := by decide +kernel
theorem dX12_pieceOfC_7 : decode cX12_pieceOfC 7 = .ok (.aload_n 0, 1) := by decide +kernel
theorem dX12_pieceOfC_8 : decode cX12_pieceOfC 8 = .ok (.invokevirtual 195, 3) := by decide +kernel
theorem dX12_pieceOfC_11 : decode cX12_pieceOfC 11 = .ok (.bipush 33, 2) := by decide +kernel
theorem dX12_pieceOfC_13 : decode cX12_pieceOfC 13 = .ok (.if_icmp .eq 12, 3) := by decide +kernel
theorem dX12_pieceOfC_16 : decode cX12_pieceOfC 16 = .ok (.aload_n 0, 1) := by decide +kernel
theorem dX12_pieceOfC_17 : decode cX12_pieceOfC 17 = .ok (.invokevirtual 195, 3) := by decide +kernel
theorem dX12_pieceOfC_20 : decode cX12_pieceOfC 20 = .ok (.bipush 40, 2) := by decide +kernel
theorem dX12_pieceOfC_22 : decode cX12_pieceOfC 22 = .ok (.if_icmp .ne 10, 3) := by decide +kernel
theorem dX12_pieceOfC_25 : decode cX12_pieceOfC 25 = .ok (.aload_n 0, 1) := by decide +kernel
theorem dX12_pieceOfC_26 : decode cX12_pieceOfC 26 = .ok (.invokevirtual 222, 3) := by decide +kernel
theorem dX12_pieceOfC_29 : decode cX12_pieceOfC 29 = .ok (.goto (-29), 3) := by decide +kernel
theorem dX12_pieceOfC_32 : decode cX12_pieceOfC 32 = .ok (.aload_n 0, 1) := by decide +kernel
theorem dX12_pieceOfC_33 : decode cX12_pieceOfC 33 = .ok (.invokevirtual 178, 3) := by decide +kernel
theorem dX12_pieceOfC_36 : decode cX12_pieceOfC 36 = .ok (.ifCond .eq 7, 3) := by decide +kernel
theorem dX12_pieceOfC_39 : decode cX12_pieceOfC 39 = .ok (.aload_n 0, 1) := by decide +kernel
theorem dX12_pieceOfC_40 : decode cX12_pieceOfC 40 = .ok (.invokevirtual 245, 3) := by decide +kernel
theorem dX12_pieceOfC_43 : decode cX12_pieceOfC 43 = .ok (.aload_n 0, 1) := by decide +kernel
theorem dX12_pieceOfC_44 : decode cX12_pieceOfC 44 = .ok (.invokevirtual 178, 3) := by decide +kernel
theorem dX12_pieceOfC_47 : decode cX12_pieceOfC 47 = .ok (.ifCond .ne 4, 3) := by decide +kernel
theorem dX12_pieceOfC_50 : decode cX12_pieceOfC 50 = .ok (.return_, 1) := by decide +kernel
theorem dX12_pieceOfC_51 : decode cX12_pieceOfC 51 = .ok (.aload_n 0, 1) := by decide +kernel
theorem dX12_pieceOfC_52 : decode cX12_pieceOfC 52 = .ok (.invokevirtual 195, 3) := by decide +kernel
theorem dX12_pieceOfC_55 : decode cX12_pieceOfC 55 = .ok (.istore_n 1, 1) := by decide +kernel
theorem dX12_pieceOfC_56 : decode cX12_pieceOfC 56 = .ok (.iload_n 1, 1) := by decide +kernel
theorem dX12_pieceOfC_57 : decode cX12_pieceOfC 57 = .ok (.invokestatic 248, 3) := by decide +kernel
theorem dX12_pieceOfC_60 : decode cX12_pieceOfC 60 = .ok (.ifCond .ne 13, 3) := by decide +kernel
theorem dX12_pieceOfC_63 : decode cX12_pieceOfC 63 = .ok (.aload_n 0, 1) := by decide +kernel
theorem dX12_pieceOfC_64 : decode cX12_pieceOfC 64 = .ok (.iconst 1, 1) := by decide +kernel
theorem dX12_pieceOfC_65 : decode cX12_pieceOfC 65 = .ok (.aload_n 0, 1) := by decide +kernel
theorem dX12_pieceOfC_66 : decode cX12_pieceOfC 66 = .ok (.getfield 169, 3) := by decide +kernel
theorem dX12_pieceOfC_69 : decode cX12_pieceOfC 69 = .ok (.invokevirtual 191, 3) := by decide +kernel
theorem dX12_pieceOfC_72 : decode cX12_pieceOfC 72 = .ok (.return_, 1) := by decide +kernel
theorem dX12_pieceOfC_73 : decode cX12_pieceOfC 73 = .ok (.aload_n 0, 1) := by decide +kernel
theorem dX12_pieceOfC_74 : decode cX12_pieceOfC 74 = .ok (.iload_n 1, 1) := by decide +kernel
theorem dX12_pieceOfC_75 : decode cX12_pieceOfC 75 = .ok (.invokevirtual 199, 3) := by decide +kernel
theorem dX12_pieceOfC_78 : decode cX12_pieceOfC 78 = .ok (.aload_n 0, 1) := by decide +kernel
theorem dX12_pieceOfC_79 : decode cX12_pieceOfC 79 = .ok (.invokevirtual 245, 3) := by decide +kernel
theorem dX12_pieceOfC_82 : decode cX12_pieceOfC 82 = .ok (.aload_n 0, 1) := by decide +kernel
theorem dX12_pieceOfC_83 : decode cX12_pieceOfC 83 = .ok (.invokevirtual 178, 3) := by decide +kernel
theorem dX12_pieceOfC_86 : decode cX12_pieceOfC 86 = .ok (.ifCond .ne 4, 3) := by decide +kernel
theorem dX12_pieceOfC_89 : decode cX12_pieceOfC 89 = .ok (.return_, 1) := by decide +kernel
theorem dX12_pieceOfC_90 : decode cX12_pieceOfC 90 = .ok (.aload_n 0, 1) := by decide +kernel
theorem dX12_pieceOfC_91 : decode cX12_pieceOfC 91 = .ok (.aload_n 0, 1) := by decide +kernel
theorem dX12_pieceOfC_92 : decode cX12_pieceOfC 92 = .ok (.invokevirtual 209, 3) := by decide +kernel
theorem dX12_pieceOfC_95 : decode cX12_pieceOfC 95 = .ok (.iconst 0, 1) := by decide +kernel
theorem dX12_pieceOfC_96 : decode cX12_pieceOfC 96 = .ok (.invokevirtual 219, 3) := by decide +kernel
theorem dX12_pieceOfC_99 : decode cX12_pieceOfC 99 = .ok (.aload_n 0, 1) := by decide +kernel
theorem dX12_pieceOfC_100 : decode cX12_pieceOfC 100 = .ok (.dup, 1) := by decide +kernel
theorem dX12_pieceOfC_101 : decode cX12_pieceOfC 101 = .ok (.getfield 185, 3) := by decide +kernel
theorem dX12_pieceOfC_104 : decode cX12_pieceOfC 104 = .ok (.iconst 1, 1) := by decide +kernel
theorem dX12_pieceOfC_105 : decode cX12_pieceOfC 105 = .ok (.isub, 1) := by decide +kernel
theorem dX12_pieceOfC_106 : decode cX12_pieceOfC 106 = .ok (.putfield 185, 3) := by decide +kernel
theorem dX12_pieceOfC_109 : decode cX12_pieceOfC 109 = .ok (.aload_n 0, 1) := by decide +kernel
theorem dX12_pieceOfC_110 : decode cX12_pieceOfC 110 = .ok (.invokevirtual 251, 3) := by decide +kernel
theorem dX12_pieceOfC_113 : decode cX12_pieceOfC 113 = .ok (.return_, 1) := by decide +kernel
theorem dX12_goesBehind_0 : decode cX12_goesBehind 0 = .ok (.aload_n 0, 1) := by decide +kernel
theorem dX12_goesBehind_1 : decode cX12_goesBehind 1 = .ok (.invokevirtual 195, 3) := by decide +kernel
theorem dX12_goesBehind_4 : decode cX12_goesBehind 4 = .ok (.istore_n 1, 1) := by decide +kernel
theorem dX12_goesBehind_5 : decode cX12_goesBehind 5 = .ok (.iload_n 1, 1) := by decide +kernel
theorem dX12_goesBehind_6 : decode cX12_goesBehind 6 = .ok (.bipush 38, 2) := by decide +kernel
theorem dX12_goesBehind_8 : decode cX12_goesBehind 8 = .ok (.if_icmp .eq 9, 3) := by decide +kernel
theorem dX12_goesBehind_11 : decode cX12_goesBehind 11 = .ok (.iload_n 1, 1) := by decide +kernel
theorem dX12_goesBehind_12 : decode cX12_goesBehind 12 = .ok (.bipush 124, 2) := by decide +kernel
theorem dX12_goesBehind_14 : decode cX12_goesBehind 14 = .ok (.if_icmp .ne 25, 3) := by decide +kernel
theorem dX12_goesBehind_17 : decode cX12_goesBehind 17 = .ok (.aload_n 0, 1) := by decide +kernel
theorem dX12_goesBehind_18 : decode cX12_goesBehind 18 = .ok (.iload_n 1, 1) := by decide +kernel
theorem dX12_goesBehind_19 : decode cX12_goesBehind 19 = .ok (.bipush 124, 2) := by decide +kernel
theorem dX12_goesBehind_21 : decode cX12_goesBehind 21 = .ok (.if_icmp .ne 7, 3) := by decide +kernel
theorem dX12_goesBehind_24 : decode cX12_goesBehind 24 = .ok (.iconst 1, 1) := by decide +kernel
theorem dX12_goesBehind_25 : decode cX12_goesBehind 25 = .ok (.goto 4, 3) := by decide +kernel
theorem dX12_goesBehind_28 : decode cX12_goesBehind 28 = .ok (.iconst 0, 1) := by decide +kernel
theorem dX12_goesBehind_29 : decode cX12_goesBehind 29 = .ok (.invokevirtual 254, 3) := by decide +kernel
theorem dX12_goesBehind_32 : decode cX12_goesBehind 32 = .ok (.aload_n 0, 1) := by decide +kernel
theorem dX12_goesBehind_33 : decode cX12_goesBehind 33 = .ok (.iload_n 1, 1) := by decide +kernel
theorem dX12_goesBehind_34 : decode cX12_goesBehind 34 = .ok (.invokevirtual 199, 3) := by decide +kernel
theorem dX12_goesBehind_37 : decode cX12_goesBehind 37 = .ok (.iconst 1, 1) := by decide +kernel
theorem dX12_goesBehind_38 : decode cX12_goesBehind 38 = .ok (.ireturn, 1) := by decide +kernel
theorem dX12_goesBehind_39 : decode cX12_goesBehind 39 = .ok (.iload_n 1, 1) := by decide +kernel
theorem dX12_goesBehind_40 : decode cX12_goesBehind 40 = .ok (.bipush 41, 2) := by decide +kernel
theorem dX12_goesBehind_42 : decode cX12_goesBehind 42 = .ok (.if_icmp .eq 14, 3) := by decide +kernel
theorem dX12_goesBehind_45 : decode cX12_goesBehind 45 = .ok (.aload_n 0, 1) := by decide +kernel
theorem dX12_goesBehind_46 : decode cX12_goesBehind 46 = .ok (.iconst 1, 1) := by decide +kernel
theorem dX12_goesBehind_47 : decode cX12_goesBehind 47 = .ok (.aload_n 0, 1) := by decide +kernel
theorem dX12_goesBehind_48 : decode cX12_goesBehind 48 = .ok (.getfield 169, 3) := by decide +kernel
theorem dX12_goesBehind_51 : decode cX12_goesBehind 51 = .ok (.invokevirtual 191, 3) := by decide +kernel
theorem dX12_goesBehind_54 : decode cX12_goesBehind 54 = .ok (.iconst 0, 1) := by decide +kernel
theorem dX12_goesBehind_55 : decode cX12_goesBehind 55 = .ok (.ireturn, 1) := by decide +kernel
theorem dX12_goesBehind_56 : decode cX12_goesBehind 56 = .ok (.aload_n 0, 1) := by decide +kernel
theorem dX12_goesBehind_57 : decode cX12_goesBehind 57 = .ok (.iconst 1, 1) := by decide +kernel
theorem dX12_goesBehind_58 : decode cX12_goesBehind 58 = .ok (.invokevirtual 254, 3) := by decide +kernel
theorem dX12_goesBehind_61 : decode cX12_goesBehind 61 = .ok (.aload_n 0, 1) := by decide +kernel
theorem dX12_goesBehind_62 : decode cX12_goesBehind 62 = .ok (.dup, 1) := by decide +kernel
theorem dX12_goesBehind_63 : decode cX12_goesBehind 63 = .ok (.getfield 185, 3) := by decide +kernel
theorem dX12_goesBehind_66 : decode cX12_goesBehind 66 = .ok (.iconst 1, 1) := by decide +kernel
theorem dX12_goesBehind_67 : decode cX12_goesBehind 67 = .ok (.isub, 1) := by decide +kernel
theorem dX12_goesBehind_68 : decode cX12_goesBehind 68 = .ok (.putfield 185, 3) := by decide +kernel
theorem dX12_goesBehind_71 : decode cX12_goesBehind 71 = .ok (.aload_n 0, 1) := by decide +kernel
theorem dX12_goesBehind_72 : decode cX12_goesBehind 72 = .ok (.dup, 1) := by decide +kernel
theorem dX12_goesBehind_73 : decode cX12_goesBehind 73 = .ok (.getfield 188, 3) := by decide +kernel
theorem dX12_goesBehind_76 : decode cX12_goesBehind 76 = .ok (.iconst 1, 1) := by decide +kernel
theorem dX12_goesBehind_77 : decode cX12_goesBehind 77 = .ok (.isub, 1) := by decide +kernel
theorem dX12_goesBehind_78 : decode cX12_goesBehind 78 = .ok (.putfield 188, 3) := by decide +kernel
theorem dX12_goesBehind_81 : decode cX12_goesBehind 81 = .ok (.aload_n 0, 1) := by decide +kernel
theorem dX12_goesBehind_82 : decode cX12_goesBehind 82 = .ok (.dup, 1) := by decide +kernel
theorem dX12_goesBehind_83 : decode cX12_goesBehind 83 = .ok (.getfield 169, 3) := by decide +kernel
theorem dX12_goesBehind_86 : decode cX12_goesBehind 86 = .ok (.iconst 1, 1) := by decide +kernel
theorem dX12_goesBehind_87 : decode cX12_goesBehind 87 = .ok (.iadd, 1) := by decide +kernel
theorem dX12_goesBehind_88 : decode cX12_goesBehind 88 = .ok (.putfield 169, 3) := by decide +kernel
theorem dX12_goesBehind_91 : decode cX12_goesBehind 91 = .ok (.aload_n 0, 1) := by decide +kernel
theorem dX12_goesBehind_92 : decode cX12_goesBehind 92 = .ok (.aload_n 0, 1) := by decide +kernel
theorem dX12_goesBehind_93 : decode cX12_goesBehind 93 = .ok (.getfield 185, 3) := by decide +kernel
theorem dX12_goesBehind_96 : decode cX12_goesBehind 96 = .ok (.ifCond .ne 7, 3) := by decide +kernel
theorem dX12_goesBehind_99 : decode cX12_goesBehind 99 = .ok (.iconst 1, 1) := by decide +kernel
theorem dX12_goesBehind_100 : decode cX12_goesBehind 100 = .ok (.goto 4, 3) := by decide +kernel
theorem dX12_goesBehind_103 : decode cX12_goesBehind 103 = .ok (.iconst 0, 1) := by decide +kernel
theorem dX12_goesBehind_104 : decode cX12_goesBehind 104 = .ok (.putfield 257, 3) := by decide +kernel
theorem dX12_goesBehind_107 : decode cX12_goesBehind 107 = .ok (.aload_n 0, 1) := by decide +kernel
theorem dX12_goesBehind_108 : decode cX12_goesBehind 108 = .ok (.getfield 257, 3) := by decide +kernel
theorem dX12_goesBehind_111 : decode cX12_goesBehind 111 = .ok (.ifCond .ne 7, 3) := by decide +kernel
theorem dX12_goesBehind_114 : decode cX12_goesBehind 114 = .ok (.aload_n 0, 1) := by decide +kernel
theorem dX12_goesBehind_115 : decode cX12_goesBehind 115 = .ok (.invokevirtual 251, 3) := by decide +kernel
theorem dX12_goesBehind_118 : decode cX12_goesBehind 118 = .ok (.iconst 0, 1) := by decide +kernel
theorem dX12_goesBehind_119 : decode cX12_goesBehind 119 = .ok (.ireturn, 1) := by decide +kernel
theorem dX12_condition_0 : decode cX12_condition 0 = .ok (.aload_n 0, 1) := by decide +kernel
theorem dX12_condition_1 : decode cX12_condition 1 = .ok (.iconst 0, 1) := by decide +kernel
theorem dX12_condition_2 : decode cX12_condition 2 = .ok (.putfield 257, 3) := by decide +kernel
theorem dX12_condition_5 : decode cX12_condition 5 = .ok (.aload_n 0, 1) := by decide +kernel
theorem dX12_condition_6 : decode cX12_condition 6 = .ok (.invokevirtual 195, 3) := by decide +kernel
theorem dX12_condition_9 : decode cX12_condition 9 = .ok (.bipush 40, 2) := by decide +kernel
theorem dX12_condition_11 : decode cX12_condition 11 = .ok (.if_icmp .eq 12, 3) := by decide +kernel
theorem dX12_condition_14 : decode cX12_condition 14 = .ok (.aload_n 0, 1) := by decide +kernel
theorem dX12_condition_15 : decode cX12_condition 15 = .ok (.iconst 1, 1) := by decide +kernel
theorem dX12_condition_16 : decode cX12_condition 16 = .ok (.aload_n 0, 1) := by decide +kernel
theorem dX12_condition_17 : decode cX12_condition 17 = .ok (.getfield 169, 3) := by decide +kernel
theorem dX12_condition_20 : decode cX12_condition 20 = .ok (.invokevirtual 191, 3) := by decide +kernel
theorem dX12_condition_23 : decode cX12_condition 23 = .ok (.aload_n 0, 1) := by decide +kernel
theorem dX12_condition_24 : decode cX12_condition 24 = .ok (.invokevirtual 178, 3) := by decide +kernel
theorem dX12_condition_27 : decode cX12_condition 27 = .ok (.ifCond .ne 4, 3) := by decide +kernel
theorem dX12_condition_30 : decode cX12_condition 30 = .ok (.return_, 1) := by decide +kernel
theorem dX12_condition_31 : decode cX12_condition 31 = .ok (.aload_n 0, 1) := by decide +kernel
theorem dX12_condition_32 : decode cX12_condition 32 = .ok (.invokevirtual 222, 3) := by decide +kernel
theorem dX12_condition_35 : decode cX12_condition 35 = .ok (.iconst 1, 1) := by decide +kernel
theorem dX12_condition_36 : decode cX12_condition 36 = .ok (.istore_n 1, 1) := by decide +kernel
theorem dX12_condition_37 : decode cX12_condition 37 = .ok (.aload_n 0, 1) := by decide +kernel
theorem dX12_condition_38 : decode cX12_condition 38 = .ok (.invokevirtual 178, 3) := by decide +kernel
theorem dX12_condition_41 : decode cX12_condition 41 = .ok (.ifCond .eq 33, 3) := by decide +kernel
theorem dX12_condition_44 : decode cX12_condition 44 = .ok (.aload_n 0, 1) := by decide +kernel
theorem dX12_condition_45 : decode cX12_condition 45 = .ok (.getfield 257, 3) := by decide +kernel
theorem dX12_condition_48 : decode cX12_condition 48 = .ok (.ifCond .ne 26, 3) := by decide +kernel
theorem dX12_condition_51 : decode cX12_condition 51 = .ok (.iload_n 1, 1) := by decide +kernel
theorem dX12_condition_52 : decode cX12_condition 52 = .ok (.ifCond .eq 7, 3) := by decide +kernel
theorem dX12_condition_55 : decode cX12_condition 55 = .ok (.aload_n 0, 1) := by decide +kernel
theorem dX12_condition_56 : decode cX12_condition 56 = .ok (.invokevirtual 260, 3) := by decide +kernel
theorem dX12_condition_59 : decode cX12_condition 59 = .ok (.aload_n 0, 1) := by decide +kernel
theorem dX12_condition_60 : decode cX12_condition 60 = .ok (.invokevirtual 178, 3) := by decide +kernel
theorem dX12_condition_63 : decode cX12_condition 63 = .ok (.ifCond .eq (-26), 3) := by decide +kernel
theorem dX12_condition_66 : decode cX12_condition 66 = .ok (.aload_n 0, 1) := by decide +kernel
theorem dX12_condition_67 : decode cX12_condition 67 = .ok (.invokevirtual 263, 3) := by decide +kernel
theorem dX12_condition_70 : decode cX12_condition 70 = .ok (.istore_n 1, 1) := by decide +kernel
theorem dX12_condition_71 : decode cX12_condition 71 = .ok (.goto (-34), 3) := by decide +kernel
theorem dX12_condition_74 : decode cX12_condition 74 = .ok (.return_, 1) := by decide +kernel
theorem dX12_isClause_0 : decode cX12_isClause 0 = .ok (.iload_n 0, 1) := by decide +kernel
theorem dX12_isClause_1 : decode cX12_isClause 1 = .ok (.ifCond .ne 23, 3) := by decide +kernel
theorem dX12_isClause_4 : decode cX12_isClause 4 = .ok (.iload_n 1, 1) := by decide +kernel
theorem dX12_isClause_5 : decode cX12_isClause 5 = .ok (.bipush 121, 2) := by decide +kernel
theorem dX12_isClause_7 : decode cX12_isClause 7 = .ok (.if_icmp .eq 9, 3) := by decide +kernel
theorem dX12_isClause_10 : decode cX12_isClause 10 = .ok (.iload_n 1, 1) := by decide +kernel
theorem dX12_isClause_11 : decode cX12_isClause 11 = .ok (.bipush 122, 2) := by decide +kernel
theorem dX12_isClause_13 : decode cX12_isClause 13 = .ok (.if_icmp .ne 7, 3) := by decide +kernel
theorem dX12_isClause_16 : decode cX12_isClause 16 = .ok (.iconst 1, 1) := by decide +kernel
theorem dX12_isClause_17 : decode cX12_isClause 17 = .ok (.goto 49, 3) := by decide +kernel
theorem dX12_isClause_20 : decode cX12_isClause 20 = .ok (.iconst 0, 1) := by decide +kernel
theorem dX12_isClause_21 : decode cX12_isClause 21 = .ok (.goto 45, 3) := by decide +kernel
theorem dX12_isClause_24 : decode cX12_isClause 24 = .ok (.iload_n 0, 1) := by decide +kernel
theorem dX12_isClause_25 : decode cX12_isClause 25 = .ok (.iconst 1, 1) := by decide +kernel
theorem dX12_isClause_26 : decode cX12_isClause 26 = .ok (.if_icmp .ne 29, 3) := by decide +kernel
theorem dX12_isClause_29 : decode cX12_isClause 29 = .ok (.iload_n 1, 1) := by decide +kernel
theorem dX12_isClause_30 : decode cX12_isClause 30 = .ok (.bipush 97, 2) := by decide +kernel
theorem dX12_isClause_32 : decode cX12_isClause 32 = .ok (.if_icmp .eq 15, 3) := by decide +kernel
theorem dX12_isClause_35 : decode cX12_isClause 35 = .ok (.iload_n 1, 1) := by decide +kernel
theorem dX12_isClause_36 : decode cX12_isClause 36 = .ok (.bipush 98, 2) := by decide +kernel
theorem dX12_isClause_38 : decode cX12_isClause 38 = .ok (.if_icmp .eq 9, 3) := by decide +kernel
theorem dX12_isClause_41 : decode cX12_isClause 41 = .ok (.iload_n 1, 1) := by decide +kernel
theorem dX12_isClause_42 : decode cX12_isClause 42 = .ok (.bipush 103, 2) := by decide +kernel
theorem dX12_isClause_44 : decode cX12_isClause 44 = .ok (.if_icmp .ne 7, 3) := by decide +kernel
theorem dX12_isClause_47 : decode cX12_isClause 47 = .ok (.iconst 1, 1) := by decide +kernel
theorem dX12_isClause_48 : decode cX12_isClause 48 = .ok (.goto 18, 3) := by decide +kernel
theorem dX12_isClause_51 : decode cX12_isClause 51 = .ok (.iconst 0, 1) := by decide +kernel
theorem dX12_isClause_52 : decode cX12_isClause 52 = .ok (.goto 14, 3) := by decide +kernel
theorem dX12_isClause_55 : decode cX12_isClause 55 = .ok (.iload_n 1, 1) := by decide +kernel
theorem dX12_isClause_56 : decode cX12_isClause 56 = .ok (.bipush 101, 2) := by decide +kernel
theorem dX12_isClause_58 : decode cX12_isClause 58 = .ok (.if_icmp .ne 7, 3) := by decide +kernel
theorem dX12_isClause_61 : decode cX12_isClause 61 = .ok (.iconst 1, 1) := by decide +kernel
theorem dX12_isClause_62 : decode cX12_isClause 62 = .ok (.goto 4, 3) := by decide +kernel
theorem dX12_isClause_65 : decode cX12_isClause 65 = .ok (.iconst 0, 1) := by decide +kernel
theorem dX12_isClause_66 : decode cX12_isClause 66 = .ok (.ireturn, 1) := by decide +kernel
theorem dX12_clause_0 : decode cX12_clause 0 = .ok (.aload_n 0, 1) := by decide +kernel
theorem dX12_clause_1 : decode cX12_clause 1 = .ok (.invokevirtual 195, 3) := by decide +kernel
theorem dX12_clause_4 : decode cX12_clause 4 = .ok (.istore_n 2, 1) := by decide +kernel
theorem dX12_clause_5 : decode cX12_clause 5 = .ok (.iload_n 1, 1) := by decide +kernel
theorem dX12_clause_6 : decode cX12_clause 6 = .ok (.iload_n 2, 1) := by decide +kernel
theorem dX12_clause_7 : decode cX12_clause 7 = .ok (.invokestatic 266, 3) := by decide +kernel
theorem dX12_clause_10 : decode cX12_clause 10 = .ok (.ifCond .ne 15, 3) := by decide +kernel
theorem dX12_clause_13 : decode cX12_clause 13 = .ok (.aload_n 0, 1) := by decide +kernel
theorem dX12_clause_14 : decode cX12_clause 14 = .ok (.iconst 1, 1) := by decide +kernel
theorem dX12_clause_15 : decode cX12_clause 15 = .ok (.aload_n 0, 1) := by decide +kernel
theorem dX12_clause_16 : decode cX12_clause 16 = .ok (.getfield 169, 3) := by decide +kernel
theorem dX12_clause_19 : decode cX12_clause 19 = .ok (.invokevirtual 191, 3) := by decide +kernel
theorem dX12_clause_22 : decode cX12_clause 22 = .ok (.goto 21, 3) := by decide +kernel
theorem dX12_clause_25 : decode cX12_clause 25 = .ok (.aload_n 0, 1) := by decide +kernel
theorem dX12_clause_26 : decode cX12_clause 26 = .ok (.getfield 270, 3) := by decide +kernel
theorem dX12_clause_29 : decode cX12_clause 29 = .ok (.bipush 14, 2) := by decide +kernel
theorem dX12_clause_31 : decode cX12_clause 31 = .ok (.if_icmp .ne 12, 3) := by decide +kernel
theorem dX12_clause_34 : decode cX12_clause 34 = .ok (.aload_n 0, 1) := by decide +kernel
theorem dX12_clause_35 : decode cX12_clause 35 = .ok (.iconst 4, 1) := by decide +kernel
theorem dX12_clause_36 : decode cX12_clause 36 = .ok (.aload_n 0, 1) := by decide +kernel
theorem dX12_clause_37 : decode cX12_clause 37 = .ok (.getfield 169, 3) := by decide +kernel
theorem dX12_clause_40 : decode cX12_clause 40 = .ok (.invokevirtual 191, 3) := by decide +kernel
theorem dX12_clause_43 : decode cX12_clause 43 = .ok (.aload_n 0, 1) := by decide +kernel
theorem dX12_clause_44 : decode cX12_clause 44 = .ok (.invokevirtual 178, 3) := by decide +kernel
theorem dX12_clause_47 : decode cX12_clause 47 = .ok (.ifCond .ne 4, 3) := by decide +kernel
theorem dX12_clause_50 : decode cX12_clause 50 = .ok (.return_, 1) := by decide +kernel
theorem dX12_clause_51 : decode cX12_clause 51 = .ok (.aload_n 0, 1) := by decide +kernel
theorem dX12_clause_52 : decode cX12_clause 52 = .ok (.getfield 42, 3) := by decide +kernel
theorem dX12_clause_55 : decode cX12_clause 55 = .ok (.aload_n 0, 1) := by decide +kernel
theorem dX12_clause_56 : decode cX12_clause 56 = .ok (.getfield 270, 3) := by decide +kernel
theorem dX12_clause_59 : decode cX12_clause 59 = .ok (.iload_n 2, 1) := by decide +kernel
theorem dX12_clause_60 : decode cX12_clause 60 = .ok (.iastore, 1) := by decide +kernel
theorem dX12_clause_61 : decode cX12_clause 61 = .ok (.aload_n 0, 1) := by decide +kernel
theorem dX12_clause_62 : decode cX12_clause 62 = .ok (.getfield 45, 3) := by decide +kernel
theorem dX12_clause_65 : decode cX12_clause 65 = .ok (.aload_n 0, 1) := by decide +kernel
theorem dX12_clause_66 : decode cX12_clause 66 = .ok (.getfield 270, 3) := by decide +kernel
theorem dX12_clause_69 : decode cX12_clause 69 = .ok (.aload_n 0, 1) := by decide +kernel
theorem dX12_clause_70 : decode cX12_clause 70 = .ok (.getfield 182, 3) := by decide +kernel
theorem dX12_clause_73 : decode cX12_clause 73 = .ok (.iastore, 1) := by decide +kernel
theorem dX12_clause_74 : decode cX12_clause 74 = .ok (.aload_n 0, 1) := by decide +kernel
theorem dX12_clause_75 : decode cX12_clause 75 = .ok (.dup, 1) := by decide +kernel
theorem dX12_clause_76 : decode cX12_clause 76 = .ok (.getfield 169, 3) := by decide +kernel
theorem dX12_clause_79 : decode cX12_clause 79 = .ok (.iconst 1, 1) := by decide +kernel
theorem dX12_clause_80 : decode cX12_clause 80 = .ok (.iadd, 1) := by decide +kernel
theorem dX12_clause_81 : decode cX12_clause 81 = .ok (.putfield 169, 3) := by decide +kernel
theorem dX12_clause_84 : decode cX12_clause 84 = .ok (.aload_n 0, 1) := by decide +kernel
theorem dX12_clause_85 : decode cX12_clause 85 = .ok (.iconst 0, 1) := by decide +kernel
theorem dX12_clause_86 : decode cX12_clause 86 = .ok (.putfield 185, 3) := by decide +kernel
theorem dX12_clause_89 : decode cX12_clause 89 = .ok (.aload_n 0, 1) := by decide +kernel
theorem dX12_clause_90 : decode cX12_clause 90 = .ok (.iconst 0, 1) := by decide +kernel
theorem dX12_clause_91 : decode cX12_clause 91 = .ok (.putfield 188, 3) := by decide +kernel
theorem dX12_clause_94 : decode cX12_clause 94 = .ok (.aload_n 0, 1) := by decide +kernel
theorem dX12_clause_95 : decode cX12_clause 95 = .ok (.invokevirtual 245, 3) := by decide +kernel
theorem dX12_clause_98 : decode cX12_clause 98 = .ok (.aload_n 0, 1) := by decide +kernel
theorem dX12_clause_99 : decode cX12_clause 99 = .ok (.getfield 48, 3) := by decide +kernel
theorem dX12_clause_102 : decode cX12_clause 102 = .ok (.aload_n 0, 1) := by decide +kernel
theorem dX12_clause_103 : decode cX12_clause 103 = .ok (.getfield 270, 3) := by decide +kernel
theorem dX12_clause_106 : decode cX12_clause 106 = .ok (.aload_n 0, 1) := by decide +kernel
theorem dX12_clause_107 : decode cX12_clause 107 = .ok (.getfield 182, 3) := by decide +kernel
theorem dX12_clause_110 : decode cX12_clause 110 = .ok (.iastore, 1) := by decide +kernel
theorem dX12_clause_111 : decode cX12_clause 111 = .ok (.aload_n 0, 1) := by decide +kernel
theorem dX12_clause_112 : decode cX12_clause 112 = .ok (.invokevirtual 178, 3) := by decide +kernel
theorem dX12_clause_115 : decode cX12_clause 115 = .ok (.ifCond .eq 7, 3) := by decide +kernel
theorem dX12_clause_118 : decode cX12_clause 118 = .ok (.aload_n 0, 1) := by decide +kernel
theorem dX12_clause_119 : decode cX12_clause 119 = .ok (.invokevirtual 273, 3) := by decide +kernel
theorem dX12_clause_122 : decode cX12_clause 122 = .ok (.aload_n 0, 1) := by decide +kernel
theorem dX12_clause_123 : decode cX12_clause 123 = .ok (.getfield 51, 3) := by decide +kernel
theorem dX12_clause_126 : decode cX12_clause 126 = .ok (.aload_n 0, 1) := by decide +kernel
theorem dX12_clause_127 : decode cX12_clause 127 = .ok (.getfield 270, 3) := by decide +kernel
theorem dX12_clause_130 : decode cX12_clause 130 = .ok (.aload_n 0, 1) := by decide +kernel
theorem dX12_clause_131 : decode cX12_clause 131 = .ok (.getfield 182, 3) := by decide +kernel
theorem dX12_clause_134 : decode cX12_clause 134 = .ok (.iastore, 1) := by decide +kernel
theorem dX12_clause_135 : decode cX12_clause 135 = .ok (.aload_n 0, 1) := by decide +kernel
theorem dX12_clause_136 : decode cX12_clause 136 = .ok (.dup, 1) := by decide +kernel
theorem dX12_clause_137 : decode cX12_clause 137 = .ok (.getfield 270, 3) := by decide +kernel
theorem dX12_clause_140 : decode cX12_clause 140 = .ok (.iconst 1, 1) := by decide +kernel
theorem dX12_clause_141 : decode cX12_clause 141 = .ok (.iadd, 1) := by decide +kernel
theorem dX12_clause_142 : decode cX12_clause 142 = .ok (.putfield 270, 3) := by decide +kernel
theorem dX12_clause_145 : decode cX12_clause 145 = .ok (.return_, 1) := by decide +kernel
theorem dX12_readsText_0 : decode cX12_readsText 0 = .ok (.iload_n 2, 1) := by decide +kernel
theorem dX12_readsText_1 : decode cX12_readsText 1 = .ok (.i2l, 1) := by decide +kernel
theorem dX12_readsText_2 : decode cX12_readsText 2 = .ok (.lconst 1, 1) := by decide +kernel
theorem dX12_readsText_3 : decode cX12_readsText 3 = .ok (.ldc2_w 276, 3) := by decide +kernel
theorem dX12_readsText_6 : decode cX12_readsText 6 = .ok (.invokestatic 155, 3) := by decide +kernel
theorem dX12_readsText_9 : decode cX12_readsText 9 = .ok (.ifCond .eq 11, 3) := by decide +kernel
theorem dX12_readsText_12 : decode cX12_readsText 12 = .ok (.iload_n 2, 1) := by decide +kernel
theorem dX12_readsText_13 : decode cX12_readsText 13 = .ok (.aload_n 0, 1) := by decide +kernel
theorem dX12_readsText_14 : decode cX12_readsText 14 = .ok (.getfield 162, 3) := by decide +kernel
theorem dX12_readsText_17 : decode cX12_readsText 17 = .ok (.if_icmp .le 5, 3) := by decide +kernel
theorem dX12_readsText_20 : decode cX12_readsText 20 = .ok (.iconst (-1), 1) := by decide +kernel
theorem dX12_readsText_21 : decode cX12_readsText 21 = .ok (.ireturn, 1) := by decide +kernel
theorem dX12_readsText_22 : decode cX12_readsText 22 = .ok (.aload_n 0, 1) := by decide +kernel
theorem dX12_readsText_23 : decode cX12_readsText 23 = .ok (.iconst 0, 1) := by decide +kernel
theorem dX12_readsText_24 : decode cX12_readsText 24 = .ok (.putfield 162, 3) := by decide +kernel
theorem dX12_readsText_27 : decode cX12_readsText 27 = .ok (.aload_n 0, 1) := by decide +kernel
theorem dX12_readsText_28 : decode cX12_readsText 28 = .ok (.iconst 0, 1) := by decide +kernel
theorem dX12_readsText_29 : decode cX12_readsText 29 = .ok (.putfield 169, 3) := by decide +kernel
theorem dX12_readsText_32 : decode cX12_readsText 32 = .ok (.aload_n 0, 1) := by decide +kernel
theorem dX12_readsText_33 : decode cX12_readsText 33 = .ok (.iload_n 2, 1) := by decide +kernel
theorem dX12_readsText_34 : decode cX12_readsText 34 = .ok (.putfield 172, 3) := by decide +kernel
theorem dX12_readsText_37 : decode cX12_readsText 37 = .ok (.aload_n 0, 1) := by decide +kernel
theorem dX12_readsText_38 : decode cX12_readsText 38 = .ok (.iconst 0, 1) := by decide +kernel
theorem dX12_readsText_39 : decode cX12_readsText 39 = .ok (.putfield 175, 3) := by decide +kernel
theorem dX12_readsText_42 : decode cX12_readsText 42 = .ok (.aload_n 0, 1) := by decide +kernel
theorem dX12_readsText_43 : decode cX12_readsText 43 = .ok (.iconst 0, 1) := by decide +kernel
theorem dX12_readsText_44 : decode cX12_readsText 44 = .ok (.putfield 270, 3) := by decide +kernel
theorem dX12_readsText_47 : decode cX12_readsText 47 = .ok (.aload_n 0, 1) := by decide +kernel
theorem dX12_readsText_48 : decode cX12_readsText 48 = .ok (.iconst 0, 1) := by decide +kernel
theorem dX12_readsText_49 : decode cX12_readsText 49 = .ok (.putfield 182, 3) := by decide +kernel
theorem dX12_readsText_52 : decode cX12_readsText 52 = .ok (.iconst 1, 1) := by decide +kernel
theorem dX12_readsText_53 : decode cX12_readsText 53 = .ok (.istore_n 3, 1) := by decide +kernel
theorem dX12_readsText_54 : decode cX12_readsText 54 = .ok (.iload_n 3, 1) := by decide +kernel
theorem dX12_readsText_55 : decode cX12_readsText 55 = .ok (.ifCond .eq 74, 3) := by decide +kernel
theorem dX12_readsText_58 : decode cX12_readsText 58 = .ok (.aload_n 0, 1) := by decide +kernel
theorem dX12_readsText_59 : decode cX12_readsText 59 = .ok (.invokevirtual 178, 3) := by decide +kernel
theorem dX12_readsText_62 : decode cX12_readsText 62 = .ok (.ifCond .eq 67, 3) := by decide +kernel
theorem dX12_readsText_65 : decode cX12_readsText 65 = .ok (.aload_n 0, 1) := by decide +kernel
theorem dX12_readsText_66 : decode cX12_readsText 66 = .ok (.iload_n 1, 1) := by decide +kernel
theorem dX12_readsText_67 : decode cX12_readsText 67 = .ok (.invokevirtual 278, 3) := by decide +kernel
theorem dX12_readsText_70 : decode cX12_readsText 70 = .ok (.aload_n 0, 1) := by decide +kernel
theorem dX12_readsText_71 : decode cX12_readsText 71 = .ok (.invokevirtual 178, 3) := by decide +kernel
theorem dX12_readsText_74 : decode cX12_readsText 74 = .ok (.ifCond .eq 18, 3) := by decide +kernel
theorem dX12_readsText_77 : decode cX12_readsText 77 = .ok (.aload_n 0, 1) := by decide +kernel
theorem dX12_readsText_78 : decode cX12_readsText 78 = .ok (.getfield 169, 3) := by decide +kernel
theorem dX12_readsText_81 : decode cX12_readsText 81 = .ok (.aload_n 0, 1) := by decide +kernel
theorem dX12_readsText_82 : decode cX12_readsText 82 = .ok (.getfield 172, 3) := by decide +kernel
theorem dX12_readsText_85 : decode cX12_readsText 85 = .ok (.if_icmp .ge 7, 3) := by decide +kernel
theorem dX12_readsText_88 : decode cX12_readsText 88 = .ok (.iconst 1, 1) := by decide +kernel
theorem dX12_readsText_89 : decode cX12_readsText 89 = .ok (.goto 4, 3) := by decide +kernel
theorem dX12_readsText_92 : decode cX12_readsText 92 = .ok (.iconst 0, 1) := by decide +kernel
theorem dX12_readsText_93 : decode cX12_readsText 93 = .ok (.istore_n 3, 1) := by decide +kernel
theorem dX12_readsText_94 : decode cX12_readsText 94 = .ok (.iload_n 3, 1) := by decide +kernel
theorem dX12_readsText_95 : decode cX12_readsText 95 = .ok (.ifCond .eq (-41), 3) := by decide +kernel
theorem dX12_readsText_98 : decode cX12_readsText 98 = .ok (.aload_n 0, 1) := by decide +kernel
theorem dX12_readsText_99 : decode cX12_readsText 99 = .ok (.invokevirtual 195, 3) := by decide +kernel
theorem dX12_readsText_102 : decode cX12_readsText 102 = .ok (.bipush 59, 2) := by decide +kernel
theorem dX12_readsText_104 : decode cX12_readsText 104 = .ok (.if_icmp .eq 12, 3) := by decide +kernel
theorem dX12_readsText_107 : decode cX12_readsText 107 = .ok (.aload_n 0, 1) := by decide +kernel
theorem dX12_readsText_108 : decode cX12_readsText 108 = .ok (.iconst 1, 1) := by decide +kernel
theorem dX12_readsText_109 : decode cX12_readsText 109 = .ok (.aload_n 0, 1) := by decide +kernel
theorem dX12_readsText_110 : decode cX12_readsText 110 = .ok (.getfield 169, 3) := by decide +kernel
theorem dX12_readsText_113 : decode cX12_readsText 113 = .ok (.invokevirtual 191, 3) := by decide +kernel
theorem dX12_readsText_116 : decode cX12_readsText 116 = .ok (.aload_n 0, 1) := by decide +kernel
theorem dX12_readsText_117 : decode cX12_readsText 117 = .ok (.dup, 1) := by decide +kernel
theorem dX12_readsText_118 : decode cX12_readsText 118 = .ok (.getfield 169, 3) := by decide +kernel
theorem dX12_readsText_121 : decode cX12_readsText 121 = .ok (.iconst 1, 1) := by decide +kernel
theorem dX12_readsText_122 : decode cX12_readsText 122 = .ok (.iadd, 1) := by decide +kernel
theorem dX12_readsText_123 : decode cX12_readsText 123 = .ok (.putfield 169, 3) := by decide +kernel
theorem dX12_readsText_126 : decode cX12_readsText 126 = .ok (.goto (-72), 3) := by decide +kernel
theorem dX12_readsText_129 : decode cX12_readsText 129 = .ok (.aload_n 0, 1) := by decide +kernel
theorem dX12_readsText_130 : decode cX12_readsText 130 = .ok (.getfield 175, 3) := by decide +kernel
theorem dX12_readsText_133 : decode cX12_readsText 133 = .ok (.ifCond .ge 8, 3) := by decide +kernel
theorem dX12_readsText_136 : decode cX12_readsText 136 = .ok (.aload_n 0, 1) := by decide +kernel
theorem dX12_readsText_137 : decode cX12_readsText 137 = .ok (.getfield 175, 3) := by decide +kernel
theorem dX12_readsText_140 : decode cX12_readsText 140 = .ok (.ireturn, 1) := by decide +kernel
theorem dX12_readsText_141 : decode cX12_readsText 141 = .ok (.iconst 0, 1) := by decide +kernel
theorem dX12_readsText_142 : decode cX12_readsText 142 = .ok (.istore 4, 2) := by decide +kernel
theorem dX12_readsText_144 : decode cX12_readsText 144 = .ok (.iload 4, 2) := by decide +kernel
theorem dX12_readsText_146 : decode cX12_readsText 146 = .ok (.aload_n 0, 1) := by decide +kernel
theorem dX12_readsText_147 : decode cX12_readsText 147 = .ok (.getfield 270, 3) := by decide +kernel
theorem dX12_readsText_150 : decode cX12_readsText 150 = .ok (.if_icmp .ge 103, 3) := by decide +kernel
theorem dX12_readsText_153 : decode cX12_readsText 153 = .ok (.aload_n 0, 1) := by decide +kernel
theorem dX12_readsText_154 : decode cX12_readsText 154 = .ok (.getfield 24, 3) := by decide +kernel
theorem dX12_readsText_157 : decode cX12_readsText 157 = .ok (.bipush 14, 2) := by decide +kernel
theorem dX12_readsText_159 : decode cX12_readsText 159 = .ok (.iload_n 1, 1) := by decide +kernel
theorem dX12_readsText_160 : decode cX12_readsText 160 = .ok (.imul, 1) := by decide +kernel
theorem dX12_readsText_161 : decode cX12_readsText 161 = .ok (.iload 4, 2) := by decide +kernel
theorem dX12_readsText_163 : decode cX12_readsText 163 = .ok (.iadd, 1) := by decide +kernel
theorem dX12_readsText_164 : decode cX12_readsText 164 = .ok (.aload_n 0, 1) := by decide +kernel
theorem dX12_readsText_165 : decode cX12_readsText 165 = .ok (.getfield 42, 3) := by decide +kernel
theorem dX12_readsText_168 : decode cX12_readsText 168 = .ok (.iload 4, 2) := by decide +kernel
theorem dX12_readsText_170 : decode cX12_readsText 170 = .ok (.iaload, 1) := by decide +kernel
theorem dX12_readsText_171 : decode cX12_readsText 171 = .ok (.iastore, 1) := by decide +kernel
theorem dX12_readsText_172 : decode cX12_readsText 172 = .ok (.aload_n 0, 1) := by decide +kernel
theorem dX12_readsText_173 : decode cX12_readsText 173 = .ok (.getfield 27, 3) := by decide +kernel
theorem dX12_readsText_176 : decode cX12_readsText 176 = .ok (.bipush 14, 2) := by decide +kernel
theorem dX12_readsText_178 : decode cX12_readsText 178 = .ok (.iload_n 1, 1) := by decide +kernel
theorem dX12_readsText_179 : decode cX12_readsText 179 = .ok (.imul, 1) := by decide +kernel
theorem dX12_readsText_180 : decode cX12_readsText 180 = .ok (.iload 4, 2) := by decide +kernel
theorem dX12_readsText_182 : decode cX12_readsText 182 = .ok (.iadd, 1) := by decide +kernel
theorem dX12_readsText_183 : decode cX12_readsText 183 = .ok (.sipush 200, 3) := by decide +kernel
theorem dX12_readsText_186 : decode cX12_readsText 186 = .ok (.iload_n 1, 1) := by decide +kernel
theorem dX12_readsText_187 : decode cX12_readsText 187 = .ok (.imul, 1) := by decide +kernel
theorem dX12_readsText_188 : decode cX12_readsText 188 = .ok (.aload_n 0, 1) := by decide +kernel
theorem dX12_readsText_189 : decode cX12_readsText 189 = .ok (.getfield 45, 3) := by decide +kernel
theorem dX12_readsText_192 : decode cX12_readsText 192 = .ok (.iload 4, 2) := by decide +kernel
theorem dX12_readsText_194 : decode cX12_readsText 194 = .ok (.iaload, 1) := by decide +kernel
theorem dX12_readsText_195 : decode cX12_readsText 195 = .ok (.iadd, 1) := by decide +kernel
theorem dX12_readsText_196 : decode cX12_readsText 196 = .ok (.iastore, 1) := by decide +kernel
theorem dX12_readsText_197 : decode cX12_readsText 197 = .ok (.aload_n 0, 1) := by decide +kernel
theorem dX12_readsText_198 : decode cX12_readsText 198 = .ok (.getfield 30, 3) := by decide +kernel
theorem dX12_readsText_201 : decode cX12_readsText 201 = .ok (.bipush 14, 2) := by decide +kernel
theorem dX12_readsText_203 : decode cX12_readsText 203 = .ok (.iload_n 1, 1) := by decide +kernel
theorem dX12_readsText_204 : decode cX12_readsText 204 = .ok (.imul, 1) := by decide +kernel
theorem dX12_readsText_205 : decode cX12_readsText 205 = .ok (.iload 4, 2) := by decide +kernel
theorem dX12_readsText_207 : decode cX12_readsText 207 = .ok (.iadd, 1) := by decide +kernel
theorem dX12_readsText_208 : decode cX12_readsText 208 = .ok (.sipush 200, 3) := by decide +kernel
theorem dX12_readsText_211 : decode cX12_readsText 211 = .ok (.iload_n 1, 1) := by decide +kernel
theorem dX12_readsText_212 : decode cX12_readsText 212 = .ok (.imul, 1) := by decide +kernel
theorem dX12_readsText_213 : decode cX12_readsText 213 = .ok (.aload_n 0, 1) := by decide +kernel
theorem dX12_readsText_214 : decode cX12_readsText 214 = .ok (.getfield 48, 3) := by decide +kernel
theorem dX12_readsText_217 : decode cX12_readsText 217 = .ok (.iload 4, 2) := by decide +kernel
theorem dX12_readsText_219 : decode cX12_readsText 219 = .ok (.iaload, 1) := by decide +kernel
theorem dX12_readsText_220 : decode cX12_readsText 220 = .ok (.iadd, 1) := by decide +kernel
theorem dX12_readsText_221 : decode cX12_readsText 221 = .ok (.iastore, 1) := by decide +kernel
theorem dX12_readsText_222 : decode cX12_readsText 222 = .ok (.aload_n 0, 1) := by decide +kernel
theorem dX12_readsText_223 : decode cX12_readsText 223 = .ok (.getfield 33, 3) := by decide +kernel
theorem dX12_readsText_226 : decode cX12_readsText 226 = .ok (.bipush 14, 2) := by decide +kernel
theorem dX12_readsText_228 : decode cX12_readsText 228 = .ok (.iload_n 1, 1) := by decide +kernel
theorem dX12_readsText_229 : decode cX12_readsText 229 = .ok (.imul, 1) := by decide +kernel
theorem dX12_readsText_230 : decode cX12_readsText 230 = .ok (.iload 4, 2) := by decide +kernel
theorem dX12_readsText_232 : decode cX12_readsText 232 = .ok (.iadd, 1) := by decide +kernel
theorem dX12_readsText_233 : decode cX12_readsText 233 = .ok (.sipush 200, 3) := by decide +kernel
theorem dX12_readsText_236 : decode cX12_readsText 236 = .ok (.iload_n 1, 1) := by decide +kernel
theorem dX12_readsText_237 : decode cX12_readsText 237 = .ok (.imul, 1) := by decide +kernel
theorem dX12_readsText_238 : decode cX12_readsText 238 = .ok (.aload_n 0, 1) := by decide +kernel
theorem dX12_readsText_239 : decode cX12_readsText 239 = .ok (.getfield 51, 3) := by decide +kernel
theorem dX12_readsText_242 : decode cX12_readsText 242 = .ok (.iload 4, 2) := by decide +kernel
theorem dX12_readsText_244 : decode cX12_readsText 244 = .ok (.iaload, 1) := by decide +kernel
theorem dX12_readsText_245 : decode cX12_readsText 245 = .ok (.iadd, 1) := by decide +kernel
theorem dX12_readsText_246 : decode cX12_readsText 246 = .ok (.iastore, 1) := by decide +kernel
theorem dX12_readsText_247 : decode cX12_readsText 247 = .ok (.iinc 4 1, 3) := by decide +kernel
theorem dX12_readsText_250 : decode cX12_readsText 250 = .ok (.goto (-106), 3) := by decide +kernel
theorem dX12_readsText_253 : decode cX12_readsText 253 = .ok (.iconst 0, 1) := by decide +kernel
theorem dX12_readsText_254 : decode cX12_readsText 254 = .ok (.istore 4, 2) := by decide +kernel
theorem dX12_readsText_256 : decode cX12_readsText 256 = .ok (.iload 4, 2) := by decide +kernel
theorem dX12_readsText_258 : decode cX12_readsText 258 = .ok (.aload_n 0, 1) := by decide +kernel
theorem dX12_readsText_259 : decode cX12_readsText 259 = .ok (.getfield 182, 3) := by decide +kernel
theorem dX12_readsText_262 : decode cX12_readsText 262 = .ok (.if_icmp .ge 49, 3) := by decide +kernel
theorem dX12_readsText_265 : decode cX12_readsText 265 = .ok (.aload_n 0, 1) := by decide +kernel
theorem dX12_readsText_266 : decode cX12_readsText 266 = .ok (.getfield 36, 3) := by decide +kernel
theorem dX12_readsText_269 : decode cX12_readsText 269 = .ok (.sipush 200, 3) := by decide +kernel
theorem dX12_readsText_272 : decode cX12_readsText 272 = .ok (.iload_n 1, 1) := by decide +kernel
theorem dX12_readsText_273 : decode cX12_readsText 273 = .ok (.imul, 1) := by decide +kernel
theorem dX12_readsText_274 : decode cX12_readsText 274 = .ok (.iload 4, 2) := by decide +kernel
theorem dX12_readsText_276 : decode cX12_readsText 276 = .ok (.iadd, 1) := by decide +kernel
theorem dX12_readsText_277 : decode cX12_readsText 277 = .ok (.aload_n 0, 1) := by decide +kernel
theorem dX12_readsText_278 : decode cX12_readsText 278 = .ok (.getfield 54, 3) := by decide +kernel
theorem dX12_readsText_281 : decode cX12_readsText 281 = .ok (.iload 4, 2) := by decide +kernel
theorem dX12_readsText_283 : decode cX12_readsText 283 = .ok (.iaload, 1) := by decide +kernel
theorem dX12_readsText_284 : decode cX12_readsText 284 = .ok (.iastore, 1) := by decide +kernel
theorem dX12_readsText_285 : decode cX12_readsText 285 = .ok (.aload_n 0, 1) := by decide +kernel
theorem dX12_readsText_286 : decode cX12_readsText 286 = .ok (.getfield 39, 3) := by decide +kernel
theorem dX12_readsText_289 : decode cX12_readsText 289 = .ok (.sipush 200, 3) := by decide +kernel
theorem dX12_readsText_292 : decode cX12_readsText 292 = .ok (.iload_n 1, 1) := by decide +kernel
theorem dX12_readsText_293 : decode cX12_readsText 293 = .ok (.imul, 1) := by decide +kernel
theorem dX12_readsText_294 : decode cX12_readsText 294 = .ok (.iload 4, 2) := by decide +kernel
theorem dX12_readsText_296 : decode cX12_readsText 296 = .ok (.iadd, 1) := by decide +kernel
theorem dX12_readsText_297 : decode cX12_readsText 297 = .ok (.aload_n 0, 1) := by decide +kernel
theorem dX12_readsText_298 : decode cX12_readsText 298 = .ok (.getfield 57, 3) := by decide +kernel
theorem dX12_readsText_301 : decode cX12_readsText 301 = .ok (.iload 4, 2) := by decide +kernel
theorem dX12_readsText_303 : decode cX12_readsText 303 = .ok (.iaload, 1) := by decide +kernel
theorem dX12_readsText_304 : decode cX12_readsText 304 = .ok (.iastore, 1) := by decide +kernel
theorem dX12_readsText_305 : decode cX12_readsText 305 = .ok (.iinc 4 1, 3) := by decide +kernel
theorem dX12_readsText_308 : decode cX12_readsText 308 = .ok (.goto (-52), 3) := by decide +kernel
theorem dX12_readsText_311 : decode cX12_readsText 311 = .ok (.aload_n 0, 1) := by decide +kernel
theorem dX12_readsText_312 : decode cX12_readsText 312 = .ok (.getfield 20, 3) := by decide +kernel
theorem dX12_readsText_315 : decode cX12_readsText 315 = .ok (.iload_n 1, 1) := by decide +kernel
theorem dX12_readsText_316 : decode cX12_readsText 316 = .ok (.aload_n 0, 1) := by decide +kernel
theorem dX12_readsText_317 : decode cX12_readsText 317 = .ok (.getfield 270, 3) := by decide +kernel
theorem dX12_readsText_320 : decode cX12_readsText 320 = .ok (.iastore, 1) := by decide +kernel
theorem dX12_readsText_321 : decode cX12_readsText 321 = .ok (.aload_n 0, 1) := by decide +kernel
theorem dX12_readsText_322 : decode cX12_readsText 322 = .ok (.getfield 270, 3) := by decide +kernel
theorem dX12_readsText_325 : decode cX12_readsText 325 = .ok (.ireturn, 1) := by decide +kernel
theorem dX12_rule_0 : decode cX12_rule 0 = .ok (.aload_n 0, 1) := by decide +kernel
theorem dX12_rule_1 : decode cX12_rule 1 = .ok (.iconst 0, 1) := by decide +kernel
theorem dX12_rule_2 : decode cX12_rule 2 = .ok (.iload_n 1, 1) := by decide +kernel
theorem dX12_rule_3 : decode cX12_rule 3 = .ok (.invokevirtual 281, 3) := by decide +kernel
theorem dX12_rule_6 : decode cX12_rule 6 = .ok (.ireturn, 1) := by decide +kernel
theorem dX12_sand_0 : decode cX12_sand 0 = .ok (.aload_n 0, 1) := by decide +kernel
theorem dX12_sand_1 : decode cX12_sand 1 = .ok (.iconst 1, 1) := by decide +kernel
theorem dX12_sand_2 : decode cX12_sand 2 = .ok (.iload_n 1, 1) := by decide +kernel
theorem dX12_sand_3 : decode cX12_sand 3 = .ok (.invokevirtual 281, 3) := by decide +kernel
theorem dX12_sand_6 : decode cX12_sand 6 = .ok (.ireturn, 1) := by decide +kernel
theorem dX12_stain_0 : decode cX12_stain 0 = .ok (.aload_n 0, 1) := by decide +kernel
theorem dX12_stain_1 : decode cX12_stain 1 = .ok (.iconst 2, 1) := by decide +kernel
theorem dX12_stain_2 : decode cX12_stain 2 = .ok (.iload_n 1, 1) := by decide +kernel
theorem dX12_stain_3 : decode cX12_stain 3 = .ok (.invokevirtual 281, 3) := by decide +kernel
theorem dX12_stain_6 : decode cX12_stain 6 = .ok (.ireturn, 1) := by decide +kernel
theorem dX12_clears_0 : decode cX12_clears 0 = .ok (.aload_n 0, 1) := by decide +kernel
theorem dX12_clears_1 : decode cX12_clears 1 = .ok (.iconst 0, 1) := by decide +kernel
theorem dX12_clears_2 : decode cX12_clears 2 = .ok (.putfield 285, 3) := by decide +kernel
theorem dX12_clears_5 : decode cX12_clears 5 = .ok (.aload_n 0, 1) := by decide +kernel
theorem dX12_clears_6 : decode cX12_clears 6 = .ok (.iconst 0, 1) := by decide +kernel
theorem dX12_clears_7 : decode cX12_clears 7 = .ok (.putfield 288, 3) := by decide +kernel
theorem dX12_clears_10 : decode cX12_clears 10 = .ok (.aload_n 0, 1) := by decide +kernel
theorem dX12_clears_11 : decode cX12_clears 11 = .ok (.iconst 0, 1) := by decide +kernel
theorem dX12_clears_12 : decode cX12_clears 12 = .ok (.putfield 291, 3) := by decide +kernel
theorem dX12_clears_15 : decode cX12_clears 15 = .ok (.aload_n 0, 1) := by decide +kernel
theorem dX12_clears_16 : decode cX12_clears 16 = .ok (.iconst 0, 1) := by decide +kernel
theorem dX12_clears_17 : decode cX12_clears 17 = .ok (.putfield 294, 3) := by decide +kernel
theorem dX12_clears_20 : decode cX12_clears 20 = .ok (.aload_n 0, 1) := by decide +kernel
theorem dX12_clears_21 : decode cX12_clears 21 = .ok (.iconst 0, 1) := by decide +kernel
theorem dX12_clears_22 : decode cX12_clears 22 = .ok (.putfield 297, 3) := by decide +kernel
theorem dX12_clears_25 : decode cX12_clears 25 = .ok (.aload_n 0, 1) := by decide +kernel
theorem dX12_clears_26 : decode cX12_clears 26 = .ok (.iconst 0, 1) := by decide +kernel
theorem dX12_clears_27 : decode cX12_clears 27 = .ok (.putfield 300, 3) := by decide +kernel
theorem dX12_clears_30 : decode cX12_clears 30 = .ok (.aload_n 0, 1) := by decide +kernel
theorem dX12_clears_31 : decode cX12_clears 31 = .ok (.iconst 0, 1) := by decide +kernel
theorem dX12_clears_32 : decode cX12_clears 32 = .ok (.putfield 303, 3) := by decide +kernel
theorem dX12_clears_35 : decode cX12_clears 35 = .ok (.aload_n 0, 1) := by decide +kernel
theorem dX12_clears_36 : decode cX12_clears 36 = .ok (.iconst 0, 1) := by decide +kernel
theorem dX12_clears_37 : decode cX12_clears 37 = .ok (.putfield 306, 3) := by decide +kernel
theorem dX12_clears_40 : decode cX12_clears 40 = .ok (.aload_n 0, 1) := by decide +kernel
theorem dX12_clears_41 : decode cX12_clears 41 = .ok (.iconst 0, 1) := by decide +kernel
theorem dX12_clears_42 : decode cX12_clears 42 = .ok (.putfield 309, 3) := by decide +kernel
theorem dX12_clears_45 : decode cX12_clears 45 = .ok (.aload_n 0, 1) := by decide +kernel
theorem dX12_clears_46 : decode cX12_clears 46 = .ok (.iconst 0, 1) := by decide +kernel
theorem dX12_clears_47 : decode cX12_clears 47 = .ok (.putfield 312, 3) := by decide +kernel
theorem dX12_clears_50 : decode cX12_clears 50 = .ok (.aload_n 0, 1) := by decide +kernel
theorem dX12_clears_51 : decode cX12_clears 51 = .ok (.iconst 0, 1) := by decide +kernel
theorem dX12_clears_52 : decode cX12_clears 52 = .ok (.putfield 315, 3) := by decide +kernel
theorem dX12_clears_55 : decode cX12_clears 55 = .ok (.aload_n 0, 1) := by decide +kernel
theorem dX12_clears_56 : decode cX12_clears 56 = .ok (.iconst 0, 1) := by decide +kernel
theorem dX12_clears_57 : decode cX12_clears 57 = .ok (.putfield 318, 3) := by decide +kernel
theorem dX12_clears_60 : decode cX12_clears 60 = .ok (.aload_n 0, 1) := by decide +kernel
theorem dX12_clears_61 : decode cX12_clears 61 = .ok (.iconst 0, 1) := by decide +kernel
theorem dX12_clears_62 : decode cX12_clears 62 = .ok (.putfield 321, 3) := by decide +kernel
theorem dX12_clears_65 : decode cX12_clears 65 = .ok (.return_, 1) := by decide +kernel
theorem dX12_valueOf_0 : decode cX12_valueOf 0 = .ok (.iload_n 1, 1) := by decide +kernel
theorem dX12_valueOf_1 : decode cX12_valueOf 1 = .ok (.tableswitch 171 99 122 #[131, 121, 171, 111, 171, 171, 171, 171, 136, 171, 151, 126, 171, 171, 171, 171, 116, 161, 171, 166, 171, 156, 141, 146], 111) := by decide +kernel
theorem dX12_valueOf_112 : decode cX12_valueOf 112 = .ok (.aload_n 0, 1) := by decide +kernel
theorem dX12_valueOf_113 : decode cX12_valueOf 113 = .ok (.getfield 285, 3) := by decide +kernel
theorem dX12_valueOf_116 : decode cX12_valueOf 116 = .ok (.ireturn, 1) := by decide +kernel
theorem dX12_valueOf_117 : decode cX12_valueOf 117 = .ok (.aload_n 0, 1) := by decide +kernel
theorem dX12_valueOf_118 : decode cX12_valueOf 118 = .ok (.getfield 288, 3) := by decide +kernel
theorem dX12_valueOf_121 : decode cX12_valueOf 121 = .ok (.ireturn, 1) := by decide +kernel
theorem dX12_valueOf_122 : decode cX12_valueOf 122 = .ok (.aload_n 0, 1) := by decide +kernel
theorem dX12_valueOf_123 : decode cX12_valueOf 123 = .ok (.getfield 291, 3) := by decide +kernel
theorem dX12_valueOf_126 : decode cX12_valueOf 126 = .ok (.ireturn, 1) := by decide +kernel
theorem dX12_valueOf_127 : decode cX12_valueOf 127 = .ok (.aload_n 0, 1) := by decide +kernel
theorem dX12_valueOf_128 : decode cX12_valueOf 128 = .ok (.getfield 294, 3) := by decide +kernel
theorem dX12_valueOf_131 : decode cX12_valueOf 131 = .ok (.ireturn, 1) := by decide +kernel
theorem dX12_valueOf_132 : decode cX12_valueOf 132 = .ok (.aload_n 0, 1) := by decide +kernel
theorem dX12_valueOf_133 : decode cX12_valueOf 133 = .ok (.getfield 297, 3) := by decide +kernel
theorem dX12_valueOf_136 : decode cX12_valueOf 136 = .ok (.ireturn, 1) := by decide +kernel
theorem dX12_valueOf_137 : decode cX12_valueOf 137 = .ok (.aload_n 0, 1) := by decide +kernel
theorem dX12_valueOf_138 : decode cX12_valueOf 138 = .ok (.getfield 300, 3) := by decide +kernel
theorem dX12_valueOf_141 : decode cX12_valueOf 141 = .ok (.ireturn, 1) := by decide +kernel
theorem dX12_valueOf_142 : decode cX12_valueOf 142 = .ok (.aload_n 0, 1) := by decide +kernel
theorem dX12_valueOf_143 : decode cX12_valueOf 143 = .ok (.getfield 303, 3) := by decide +kernel
theorem dX12_valueOf_146 : decode cX12_valueOf 146 = .ok (.ireturn, 1) := by decide +kernel
theorem dX12_valueOf_147 : decode cX12_valueOf 147 = .ok (.aload_n 0, 1) := by decide +kernel
theorem dX12_valueOf_148 : decode cX12_valueOf 148 = .ok (.getfield 306, 3) := by decide +kernel
theorem dX12_valueOf_151 : decode cX12_valueOf 151 = .ok (.ireturn, 1) := by decide +kernel
theorem dX12_valueOf_152 : decode cX12_valueOf 152 = .ok (.aload_n 0, 1) := by decide +kernel
theorem dX12_valueOf_153 : decode cX12_valueOf 153 = .ok (.getfield 309, 3) := by decide +kernel
theorem dX12_valueOf_156 : decode cX12_valueOf 156 = .ok (.ireturn, 1) := by decide +kernel
theorem dX12_valueOf_157 : decode cX12_valueOf 157 = .ok (.aload_n 0, 1) := by decide +kernel
theorem dX12_valueOf_158 : decode cX12_valueOf 158 = .ok (.getfield 312, 3) := by decide +kernel
theorem dX12_valueOf_161 : decode cX12_valueOf 161 = .ok (.ireturn, 1) := by decide +kernel
theorem dX12_valueOf_162 : decode cX12_valueOf 162 = .ok (.aload_n 0, 1) := by decide +kernel
theorem dX12_valueOf_163 : decode cX12_valueOf 163 = .ok (.getfield 315, 3) := by decide +kernel
theorem dX12_valueOf_166 : decode cX12_valueOf 166 = .ok (.ireturn, 1) := by decide +kernel
theorem dX12_valueOf_167 : decode cX12_valueOf 167 = .ok (.aload_n 0, 1) := by decide +kernel
theorem dX12_valueOf_168 : decode cX12_valueOf 168 = .ok (.getfield 318, 3) := by decide +kernel
theorem dX12_valueOf_171 : decode cX12_valueOf 171 = .ok (.ireturn, 1) := by decide +kernel
theorem dX12_valueOf_172 : decode cX12_valueOf 172 = .ok (.aload_n 0, 1) := by decide +kernel
theorem dX12_valueOf_173 : decode cX12_valueOf 173 = .ok (.getfield 321, 3) := by decide +kernel
theorem dX12_valueOf_176 : decode cX12_valueOf 176 = .ok (.ireturn, 1) := by decide +kernel
theorem dX12_worked_0 : decode cX12_worked 0 = .ok (.iload_n 0, 1) := by decide +kernel
theorem dX12_worked_1 : decode cX12_worked 1 = .ok (.lookupswitch 125 #[(37, 91), (42, 75), (43, 67), (45, 71), (47, 79), (60, 103), (62, 114)], 67) := by decide +kernel
theorem dX12_worked_68 : decode cX12_worked 68 = .ok (.iload_n 1, 1) := by decide +kernel
theorem dX12_worked_69 : decode cX12_worked 69 = .ok (.iload_n 2, 1) := by decide +kernel
theorem dX12_worked_70 : decode cX12_worked 70 = .ok (.iadd, 1) := by decide +kernel
theorem dX12_worked_71 : decode cX12_worked 71 = .ok (.ireturn, 1) := by decide +kernel
theorem dX12_worked_72 : decode cX12_worked 72 = .ok (.iload_n 1, 1) := by decide +kernel
theorem dX12_worked_73 : decode cX12_worked 73 = .ok (.iload_n 2, 1) := by decide +kernel
theorem dX12_worked_74 : decode cX12_worked 74 = .ok (.isub, 1) := by decide +kernel
theorem dX12_worked_75 : decode cX12_worked 75 = .ok (.ireturn, 1) := by decide +kernel
theorem dX12_worked_76 : decode cX12_worked 76 = .ok (.iload_n 1, 1) := by decide +kernel
theorem dX12_worked_77 : decode cX12_worked 77 = .ok (.iload_n 2, 1) := by decide +kernel
theorem dX12_worked_78 : decode cX12_worked 78 = .ok (.imul, 1) := by decide +kernel
theorem dX12_worked_79 : decode cX12_worked 79 = .ok (.ireturn, 1) := by decide +kernel
theorem dX12_worked_80 : decode cX12_worked 80 = .ok (.iload_n 2, 1) := by decide +kernel
theorem dX12_worked_81 : decode cX12_worked 81 = .ok (.ifCond .ne 7, 3) := by decide +kernel
theorem dX12_worked_84 : decode cX12_worked 84 = .ok (.iconst 0, 1) := by decide +kernel
theorem dX12_worked_85 : decode cX12_worked 85 = .ok (.goto 6, 3) := by decide +kernel
theorem dX12_worked_88 : decode cX12_worked 88 = .ok (.iload_n 1, 1) := by decide +kernel
theorem dX12_worked_89 : decode cX12_worked 89 = .ok (.iload_n 2, 1) := by decide +kernel
theorem dX12_worked_90 : decode cX12_worked 90 = .ok (.idiv, 1) := by decide +kernel
theorem dX12_worked_91 : decode cX12_worked 91 = .ok (.ireturn, 1) := by decide +kernel
theorem dX12_worked_92 : decode cX12_worked 92 = .ok (.iload_n 2, 1) := by decide +kernel
theorem dX12_worked_93 : decode cX12_worked 93 = .ok (.ifCond .ne 7, 3) := by decide +kernel
theorem dX12_worked_96 : decode cX12_worked 96 = .ok (.iconst 0, 1) := by decide +kernel
theorem dX12_worked_97 : decode cX12_worked 97 = .ok (.goto 6, 3) := by decide +kernel
theorem dX12_worked_100 : decode cX12_worked 100 = .ok (.iload_n 1, 1) := by decide +kernel
theorem dX12_worked_101 : decode cX12_worked 101 = .ok (.iload_n 2, 1) := by decide +kernel
theorem dX12_worked_102 : decode cX12_worked 102 = .ok (.irem, 1) := by decide +kernel
theorem dX12_worked_103 : decode cX12_worked 103 = .ok (.ireturn, 1) := by decide +kernel
theorem dX12_worked_104 : decode cX12_worked 104 = .ok (.iload_n 1, 1) := by decide +kernel
theorem dX12_worked_105 : decode cX12_worked 105 = .ok (.iload_n 2, 1) := by decide +kernel
theorem dX12_worked_106 : decode cX12_worked 106 = .ok (.if_icmp .ge 7, 3) := by decide +kernel
theorem dX12_worked_109 : decode cX12_worked 109 = .ok (.iconst 1, 1) := by decide +kernel
theorem dX12_worked_110 : decode cX12_worked 110 = .ok (.goto 4, 3) := by decide +kernel
theorem dX12_worked_113 : decode cX12_worked 113 = .ok (.iconst 0, 1) := by decide +kernel
theorem dX12_worked_114 : decode cX12_worked 114 = .ok (.ireturn, 1) := by decide +kernel
theorem dX12_worked_115 : decode cX12_worked 115 = .ok (.iload_n 1, 1) := by decide +kernel
theorem dX12_worked_116 : decode cX12_worked 116 = .ok (.iload_n 2, 1) := by decide +kernel
theorem dX12_worked_117 : decode cX12_worked 117 = .ok (.if_icmp .le 7, 3) := by decide +kernel
theorem dX12_worked_120 : decode cX12_worked 120 = .ok (.iconst 1, 1) := by decide +kernel
theorem dX12_worked_121 : decode cX12_worked 121 = .ok (.goto 4, 3) := by decide +kernel
theorem dX12_worked_124 : decode cX12_worked 124 = .ok (.iconst 0, 1) := by decide +kernel
theorem dX12_worked_125 : decode cX12_worked 125 = .ok (.ireturn, 1) := by decide +kernel
theorem dX12_worked_126 : decode cX12_worked 126 = .ok (.iload_n 1, 1) := by decide +kernel
theorem dX12_worked_127 : decode cX12_worked 127 = .ok (.iload_n 2, 1) := by decide +kernel
theorem dX12_worked_128 : decode cX12_worked 128 = .ok (.if_icmp .ne 7, 3) := by decide +kernel
theorem dX12_worked_131 : decode cX12_worked 131 = .ok (.iconst 1, 1) := by decide +kernel
theorem dX12_worked_132 : decode cX12_worked 132 = .ok (.goto 4, 3) := by decide +kernel
theorem dX12_worked_135 : decode cX12_worked 135 = .ok (.iconst 0, 1) := by decide +kernel
theorem dX12_worked_136 : decode cX12_worked 136 = .ok (.ireturn, 1) := by decide +kernel
theorem dX12_does_0 : decode cX12_does 0 = .ok (.iload_n 2, 1) := by decide +kernel
theorem dX12_does_1 : decode cX12_does 1 = .ok (.iconst 1, 1) := by decide +kernel
theorem dX12_does_2 : decode cX12_does 2 = .ok (.iadd, 1) := by decide +kernel
theorem dX12_does_3 : decode cX12_does 3 = .ok (.istore_n 3, 1) := by decide +kernel
theorem dX12_does_4 : decode cX12_does 4 = .ok (.iload_n 1, 1) := by decide +kernel
theorem dX12_does_5 : decode cX12_does 5 = .ok (.bipush 38, 2) := by decide +kernel
theorem dX12_does_7 : decode cX12_does 7 = .ok (.if_icmp .eq 9, 3) := by decide +kernel
theorem dX12_does_10 : decode cX12_does 10 = .ok (.iload_n 1, 1) := by decide +kernel
theorem dX12_does_11 : decode cX12_does 11 = .ok (.bipush 124, 2) := by decide +kernel
theorem dX12_does_13 : decode cX12_does 13 = .ok (.if_icmp .ne 58, 3) := by decide +kernel
theorem dX12_does_16 : decode cX12_does 16 = .ok (.aload_n 0, 1) := by decide +kernel
theorem dX12_does_17 : decode cX12_does 17 = .ok (.getfield 66, 3) := by decide +kernel
theorem dX12_does_20 : decode cX12_does 20 = .ok (.iload_n 2, 1) := by decide +kernel
theorem dX12_does_21 : decode cX12_does 21 = .ok (.baload, 1) := by decide +kernel
theorem dX12_does_22 : decode cX12_does 22 = .ok (.ifCond .ne 23, 3) := by decide +kernel
theorem dX12_does_25 : decode cX12_does 25 = .ok (.aload_n 0, 1) := by decide +kernel
theorem dX12_does_26 : decode cX12_does 26 = .ok (.getfield 63, 3) := by decide +kernel
theorem dX12_does_29 : decode cX12_does 29 = .ok (.iload_n 2, 1) := by decide +kernel
theorem dX12_does_30 : decode cX12_does 30 = .ok (.iaload, 1) := by decide +kernel
theorem dX12_does_31 : decode cX12_does 31 = .ok (.iload_n 1, 1) := by decide +kernel
theorem dX12_does_32 : decode cX12_does 32 = .ok (.bipush 38, 2) := by decide +kernel
theorem dX12_does_34 : decode cX12_does 34 = .ok (.if_icmp .ne 7, 3) := by decide +kernel
theorem dX12_does_37 : decode cX12_does 37 = .ok (.iconst 1, 1) := by decide +kernel
theorem dX12_does_38 : decode cX12_does 38 = .ok (.goto 4, 3) := by decide +kernel
theorem dX12_does_41 : decode cX12_does 41 = .ok (.iconst 0, 1) := by decide +kernel
theorem dX12_does_42 : decode cX12_does 42 = .ok (.if_icmp .eq 4, 3) := by decide +kernel
theorem dX12_does_45 : decode cX12_does 45 = .ok (.return_, 1) := by decide +kernel
theorem dX12_does_46 : decode cX12_does 46 = .ok (.aload_n 0, 1) := by decide +kernel
theorem dX12_does_47 : decode cX12_does 47 = .ok (.getfield 63, 3) := by decide +kernel
theorem dX12_does_50 : decode cX12_does 50 = .ok (.iload_n 2, 1) := by decide +kernel
theorem dX12_does_51 : decode cX12_does 51 = .ok (.aload_n 0, 1) := by decide +kernel
theorem dX12_does_52 : decode cX12_does 52 = .ok (.getfield 63, 3) := by decide +kernel
theorem dX12_does_55 : decode cX12_does 55 = .ok (.iload_n 3, 1) := by decide +kernel
theorem dX12_does_56 : decode cX12_does 56 = .ok (.iaload, 1) := by decide +kernel
theorem dX12_does_57 : decode cX12_does 57 = .ok (.iastore, 1) := by decide +kernel
theorem dX12_does_58 : decode cX12_does 58 = .ok (.aload_n 0, 1) := by decide +kernel
theorem dX12_does_59 : decode cX12_does 59 = .ok (.getfield 66, 3) := by decide +kernel
theorem dX12_does_62 : decode cX12_does 62 = .ok (.iload_n 2, 1) := by decide +kernel
theorem dX12_does_63 : decode cX12_does 63 = .ok (.aload_n 0, 1) := by decide +kernel
theorem dX12_does_64 : decode cX12_does 64 = .ok (.getfield 66, 3) := by decide +kernel
theorem dX12_does_67 : decode cX12_does 67 = .ok (.iload_n 3, 1) := by decide +kernel
theorem dX12_does_68 : decode cX12_does 68 = .ok (.baload, 1) := by decide +kernel
theorem dX12_does_69 : decode cX12_does 69 = .ok (.bastore, 1) := by decide +kernel
theorem dX12_does_70 : decode cX12_does 70 = .ok (.return_, 1) := by decide +kernel
theorem dX12_does_71 : decode cX12_does 71 = .ok (.aload_n 0, 1) := by decide +kernel
theorem dX12_does_72 : decode cX12_does 72 = .ok (.getfield 66, 3) := by decide +kernel
theorem dX12_does_75 : decode cX12_does 75 = .ok (.iload_n 2, 1) := by decide +kernel
theorem dX12_does_76 : decode cX12_does 76 = .ok (.aload_n 0, 1) := by decide +kernel
theorem dX12_does_77 : decode cX12_does 77 = .ok (.getfield 66, 3) := by decide +kernel
theorem dX12_does_80 : decode cX12_does 80 = .ok (.iload_n 2, 1) := by decide +kernel
theorem dX12_does_81 : decode cX12_does 81 = .ok (.baload, 1) := by decide +kernel
theorem dX12_does_82 : decode cX12_does 82 = .ok (.ifCond .ne 33, 3) := by decide +kernel
theorem dX12_does_85 : decode cX12_does 85 = .ok (.aload_n 0, 1) := by decide +kernel
theorem dX12_does_86 : decode cX12_does 86 = .ok (.getfield 66, 3) := by decide +kernel
theorem dX12_does_89 : decode cX12_does 89 = .ok (.iload_n 3, 1) := by decide +kernel
theorem dX12_does_90 : decode cX12_does 90 = .ok (.baload, 1) := by decide +kernel
theorem dX12_does_91 : decode cX12_does 91 = .ok (.ifCond .ne 24, 3) := by decide +kernel
theorem dX12_does_94 : decode cX12_does 94 = .ok (.iload_n 1, 1) := by decide +kernel
theorem dX12_does_95 : decode cX12_does 95 = .ok (.bipush 47, 2) := by decide +kernel
theorem dX12_does_97 : decode cX12_does 97 = .ok (.if_icmp .eq 9, 3) := by decide +kernel
theorem dX12_does_100 : decode cX12_does 100 = .ok (.iload_n 1, 1) := by decide +kernel
theorem dX12_does_101 : decode cX12_does 101 = .ok (.bipush 37, 2) := by decide +kernel
theorem dX12_does_103 : decode cX12_does 103 = .ok (.if_icmp .ne 16, 3) := by decide +kernel
theorem dX12_does_106 : decode cX12_does 106 = .ok (.aload_n 0, 1) := by decide +kernel
theorem dX12_does_107 : decode cX12_does 107 = .ok (.getfield 63, 3) := by decide +kernel
theorem dX12_does_110 : decode cX12_does 110 = .ok (.iload_n 3, 1) := by decide +kernel
theorem dX12_does_111 : decode cX12_does 111 = .ok (.iaload, 1) := by decide +kernel
theorem dX12_does_112 : decode cX12_does 112 = .ok (.ifCond .ne 7, 3) := by decide +kernel
theorem dX12_does_115 : decode cX12_does 115 = .ok (.iconst 1, 1) := by decide +kernel
theorem dX12_does_116 : decode cX12_does 116 = .ok (.goto 4, 3) := by decide +kernel
theorem dX12_does_119 : decode cX12_does 119 = .ok (.iconst 0, 1) := by decide +kernel
theorem dX12_does_120 : decode cX12_does 120 = .ok (.bastore, 1) := by decide +kernel
theorem dX12_does_121 : decode cX12_does 121 = .ok (.aload_n 0, 1) := by decide +kernel
theorem dX12_does_122 : decode cX12_does 122 = .ok (.getfield 63, 3) := by decide +kernel
theorem dX12_does_125 : decode cX12_does 125 = .ok (.iload_n 2, 1) := by decide +kernel
theorem dX12_does_126 : decode cX12_does 126 = .ok (.iload_n 1, 1) := by decide +kernel
theorem dX12_does_127 : decode cX12_does 127 = .ok (.aload_n 0, 1) := by decide +kernel
theorem dX12_does_128 : decode cX12_does 128 = .ok (.getfield 63, 3) := by decide +kernel
theorem dX12_does_131 : decode cX12_does 131 = .ok (.iload_n 2, 1) := by decide +kernel
theorem dX12_does_132 : decode cX12_does 132 = .ok (.iaload, 1) := by decide +kernel
theorem dX12_does_133 : decode cX12_does 133 = .ok (.aload_n 0, 1) := by decide +kernel
theorem dX12_does_134 : decode cX12_does 134 = .ok (.getfield 63, 3) := by decide +kernel
theorem dX12_does_137 : decode cX12_does 137 = .ok (.iload_n 3, 1) := by decide +kernel
theorem dX12_does_138 : decode cX12_does 138 = .ok (.iaload, 1) := by decide +kernel
theorem dX12_does_139 : decode cX12_does 139 = .ok (.invokestatic 324, 3) := by decide +kernel
theorem dX12_does_142 : decode cX12_does 142 = .ok (.iastore, 1) := by decide +kernel
theorem dX12_does_143 : decode cX12_does 143 = .ok (.return_, 1) := by decide +kernel
theorem dX12_works_0 : decode cX12_works 0 = .ok (.iconst 0, 1) := by decide +kernel
theorem dX12_works_1 : decode cX12_works 1 = .ok (.istore_n 3, 1) := by decide +kernel
theorem dX12_works_2 : decode cX12_works 2 = .ok (.iload_n 1, 1) := by decide +kernel
theorem dX12_works_3 : decode cX12_works 3 = .ok (.istore 4, 2) := by decide +kernel
theorem dX12_works_5 : decode cX12_works 5 = .ok (.iload 4, 2) := by decide +kernel
theorem dX12_works_7 : decode cX12_works 7 = .ok (.iload_n 2, 1) := by decide +kernel
theorem dX12_works_8 : decode cX12_works 8 = .ok (.if_icmp .ge 119, 3) := by decide +kernel
theorem dX12_works_11 : decode cX12_works 11 = .ok (.aload_n 0, 1) := by decide +kernel
theorem dX12_works_12 : decode cX12_works 12 = .ok (.getfield 36, 3) := by decide +kernel
theorem dX12_works_15 : decode cX12_works 15 = .ok (.iload 4, 2) := by decide +kernel
theorem dX12_works_17 : decode cX12_works 17 = .ok (.iaload, 1) := by decide +kernel
theorem dX12_works_18 : decode cX12_works 18 = .ok (.iconst 2, 1) := by decide +kernel
theorem dX12_works_19 : decode cX12_works 19 = .ok (.if_icmp .le 23, 3) := by decide +kernel
theorem dX12_works_22 : decode cX12_works 22 = .ok (.iinc 3 (-1), 3) := by decide +kernel
theorem dX12_works_25 : decode cX12_works 25 = .ok (.aload_n 0, 1) := by decide +kernel
theorem dX12_works_26 : decode cX12_works 26 = .ok (.aload_n 0, 1) := by decide +kernel
theorem dX12_works_27 : decode cX12_works 27 = .ok (.getfield 36, 3) := by decide +kernel
theorem dX12_works_30 : decode cX12_works 30 = .ok (.iload 4, 2) := by decide +kernel
theorem dX12_works_32 : decode cX12_works 32 = .ok (.iaload, 1) := by decide +kernel
theorem dX12_works_33 : decode cX12_works 33 = .ok (.iload_n 3, 1) := by decide +kernel
theorem dX12_works_34 : decode cX12_works 34 = .ok (.iconst 1, 1) := by decide +kernel
theorem dX12_works_35 : decode cX12_works 35 = .ok (.isub, 1) := by decide +kernel
theorem dX12_works_36 : decode cX12_works 36 = .ok (.invokevirtual 328, 3) := by decide +kernel
theorem dX12_works_39 : decode cX12_works 39 = .ok (.goto 82, 3) := by decide +kernel
theorem dX12_works_42 : decode cX12_works 42 = .ok (.aload_n 0, 1) := by decide +kernel
theorem dX12_works_43 : decode cX12_works 43 = .ok (.getfield 36, 3) := by decide +kernel
theorem dX12_works_46 : decode cX12_works 46 = .ok (.iload 4, 2) := by decide +kernel
theorem dX12_works_48 : decode cX12_works 48 = .ok (.iaload, 1) := by decide +kernel
theorem dX12_works_49 : decode cX12_works 49 = .ok (.iconst 2, 1) := by decide +kernel
theorem dX12_works_50 : decode cX12_works 50 = .ok (.if_icmp .ne 24, 3) := by decide +kernel
theorem dX12_works_53 : decode cX12_works 53 = .ok (.aload_n 0, 1) := by decide +kernel
theorem dX12_works_54 : decode cX12_works 54 = .ok (.getfield 63, 3) := by decide +kernel
theorem dX12_works_57 : decode cX12_works 57 = .ok (.iload_n 3, 1) := by decide +kernel
theorem dX12_works_58 : decode cX12_works 58 = .ok (.iconst 1, 1) := by decide +kernel
theorem dX12_works_59 : decode cX12_works 59 = .ok (.isub, 1) := by decide +kernel
theorem dX12_works_60 : decode cX12_works 60 = .ok (.iconst 1, 1) := by decide +kernel
theorem dX12_works_61 : decode cX12_works 61 = .ok (.aload_n 0, 1) := by decide +kernel
theorem dX12_works_62 : decode cX12_works 62 = .ok (.getfield 63, 3) := by decide +kernel
theorem dX12_works_65 : decode cX12_works 65 = .ok (.iload_n 3, 1) := by decide +kernel
theorem dX12_works_66 : decode cX12_works 66 = .ok (.iconst 1, 1) := by decide +kernel
theorem dX12_works_67 : decode cX12_works 67 = .ok (.isub, 1) := by decide +kernel
theorem dX12_works_68 : decode cX12_works 68 = .ok (.iaload, 1) := by decide +kernel
theorem dX12_works_69 : decode cX12_works 69 = .ok (.isub, 1) := by decide +kernel
theorem dX12_works_70 : decode cX12_works 70 = .ok (.iastore, 1) := by decide +kernel
theorem dX12_works_71 : decode cX12_works 71 = .ok (.goto 50, 3) := by decide +kernel
theorem dX12_works_74 : decode cX12_works 74 = .ok (.aload_n 0, 1) := by decide +kernel
theorem dX12_works_75 : decode cX12_works 75 = .ok (.getfield 66, 3) := by decide +kernel
theorem dX12_works_78 : decode cX12_works 78 = .ok (.iload_n 3, 1) := by decide +kernel
theorem dX12_works_79 : decode cX12_works 79 = .ok (.iconst 0, 1) := by decide +kernel
theorem dX12_works_80 : decode cX12_works 80 = .ok (.bastore, 1) := by decide +kernel
theorem dX12_works_81 : decode cX12_works 81 = .ok (.aload_n 0, 1) := by decide +kernel
theorem dX12_works_82 : decode cX12_works 82 = .ok (.getfield 63, 3) := by decide +kernel
theorem dX12_works_85 : decode cX12_works 85 = .ok (.iload_n 3, 1) := by decide +kernel
theorem dX12_works_86 : decode cX12_works 86 = .ok (.aload_n 0, 1) := by decide +kernel
theorem dX12_works_87 : decode cX12_works 87 = .ok (.getfield 36, 3) := by decide +kernel
theorem dX12_works_90 : decode cX12_works 90 = .ok (.iload 4, 2) := by decide +kernel
theorem dX12_works_92 : decode cX12_works 92 = .ok (.iaload, 1) := by decide +kernel
theorem dX12_works_93 : decode cX12_works 93 = .ok (.ifCond .ne 13, 3) := by decide +kernel
theorem dX12_works_96 : decode cX12_works 96 = .ok (.aload_n 0, 1) := by decide +kernel
theorem dX12_works_97 : decode cX12_works 97 = .ok (.getfield 39, 3) := by decide +kernel
theorem dX12_works_100 : decode cX12_works 100 = .ok (.iload 4, 2) := by decide +kernel

theorem dX12_step_299 : decode cX12_step 299 = .ok (.iastore, 1) := by decide +kernel
theorem dX12_step_300 : decode cX12_step 300 = .ok (.aload_n 0, 1) := by decide +kernel
theorem dX12_step_301 : decode cX12_step 301 = .ok (.dup, 1) := by decide +kernel
theorem dX12_step_302 : decode cX12_step 302 = .ok (.getfield 396, 3) := by decide +kernel
theorem dX12_step_305 : decode cX12_step 305 = .ok (.iconst 1, 1) := by decide +kernel
theorem dX12_step_306 : decode cX12_step 306 = .ok (.iadd, 1) := by decide +kernel
theorem dX12_step_307 : decode cX12_step 307 = .ok (.putfield 396, 3) := by decide +kernel
theorem dX12_step_310 : decode cX12_step 310 = .ok (.goto 135, 3) := by decide +kernel
theorem dX12_step_313 : decode cX12_step 313 = .ok (.iload_n 3, 1) := by decide +kernel
theorem dX12_step_314 : decode cX12_step 314 = .ok (.bipush 8, 2) := by decide +kernel
theorem dX12_step_316 : decode cX12_step 316 = .ok (.if_icmp .ne 31, 3) := by decide +kernel
theorem dX12_step_319 : decode cX12_step 319 = .ok (.aload_n 0, 1) := by decide +kernel
theorem dX12_step_320 : decode cX12_step 320 = .ok (.dup, 1) := by decide +kernel
theorem dX12_step_321 : decode cX12_step 321 = .ok (.getfield 396, 3) := by decide +kernel
theorem dX12_step_324 : decode cX12_step 324 = .ok (.iconst 1, 1) := by decide +kernel
theorem dX12_step_325 : decode cX12_step 325 = .ok (.isub, 1) := by decide +kernel
theorem dX12_step_326 : decode cX12_step 326 = .ok (.putfield 396, 3) := by decide +kernel
theorem dX12_step_329 : decode cX12_step 329 = .ok (.aload_n 0, 1) := by decide +kernel
theorem dX12_step_330 : decode cX12_step 330 = .ok (.getfield 88, 3) := by decide +kernel
theorem dX12_step_333 : decode cX12_step 333 = .ok (.aload_n 0, 1) := by decide +kernel
theorem dX12_step_334 : decode cX12_step 334 = .ok (.getfield 381, 3) := by decide +kernel
theorem dX12_step_337 : decode cX12_step 337 = .ok (.iload_n 2, 1) := by decide +kernel
theorem dX12_step_338 : decode cX12_step 338 = .ok (.iconst 1, 1) := by decide +kernel
theorem dX12_step_339 : decode cX12_step 339 = .ok (.iadd, 1) := by decide +kernel
theorem dX12_step_340 : decode cX12_step 340 = .ok (.iload 6, 2) := by decide +kernel
theorem dX12_step_342 : decode cX12_step 342 = .ok (.iadd, 1) := by decide +kernel
theorem dX12_step_343 : decode cX12_step 343 = .ok (.iastore, 1) := by decide +kernel
theorem dX12_step_344 : decode cX12_step 344 = .ok (.goto 101, 3) := by decide +kernel
theorem dX12_step_347 : decode cX12_step 347 = .ok (.iload_n 3, 1) := by decide +kernel
theorem dX12_step_348 : decode cX12_step 348 = .ok (.bipush 9, 2) := by decide +kernel
theorem dX12_step_350 : decode cX12_step 350 = .ok (.if_icmp .ne 12, 3) := by decide +kernel
theorem dX12_step_353 : decode cX12_step 353 = .ok (.aload_n 0, 1) := by decide +kernel
theorem dX12_step_354 : decode cX12_step 354 = .ok (.lload 4, 2) := by decide +kernel
theorem dX12_step_356 : decode cX12_step 356 = .ok (.invokevirtual 419, 3) := by decide +kernel
theorem dX12_step_359 : decode cX12_step 359 = .ok (.goto 86, 3) := by decide +kernel
theorem dX12_step_362 : decode cX12_step 362 = .ok (.iload 6, 2) := by decide +kernel
theorem dX12_step_364 : decode cX12_step 364 = .ok (.aload_n 0, 1) := by decide +kernel
theorem dX12_step_365 : decode cX12_step 365 = .ok (.getfield 91, 3) := by decide +kernel
theorem dX12_step_368 : decode cX12_step 368 = .ok (.aload_n 0, 1) := by decide +kernel
theorem dX12_step_369 : decode cX12_step 369 = .ok (.getfield 399, 3) := by decide +kernel
theorem dX12_step_372 : decode cX12_step 372 = .ok (.iconst 1, 1) := by decide +kernel
theorem dX12_step_373 : decode cX12_step 373 = .ok (.isub, 1) := by decide +kernel
theorem dX12_step_374 : decode cX12_step 374 = .ok (.iaload, 1) := by decide +kernel
theorem dX12_step_375 : decode cX12_step 375 = .ok (.invokestatic 350, 3) := by decide +kernel
theorem dX12_step_378 : decode cX12_step 378 = .ok (.ifCond .eq 21, 3) := by decide +kernel
theorem dX12_step_381 : decode cX12_step 381 = .ok (.aload_n 0, 1) := by decide +kernel
theorem dX12_step_382 : decode cX12_step 382 = .ok (.aload_n 0, 1) := by decide +kernel
theorem dX12_step_383 : decode cX12_step 383 = .ok (.getfield 399, 3) := by decide +kernel
theorem dX12_step_386 : decode cX12_step 386 = .ok (.iconst 2, 1) := by decide +kernel
theorem dX12_step_387 : decode cX12_step 387 = .ok (.isub, 1) := by decide +kernel
theorem dX12_step_388 : decode cX12_step 388 = .ok (.putfield 399, 3) := by decide +kernel
theorem dX12_step_391 : decode cX12_step 391 = .ok (.aload_n 0, 1) := by decide +kernel
theorem dX12_step_392 : decode cX12_step 392 = .ok (.iconst (-1), 1) := by decide +kernel
theorem dX12_step_393 : decode cX12_step 393 = .ok (.invokevirtual 407, 3) := by decide +kernel
theorem dX12_step_396 : decode cX12_step 396 = .ok (.goto 49, 3) := by decide +kernel
theorem dX12_step_399 : decode cX12_step 399 = .ok (.aload_n 0, 1) := by decide +kernel
theorem dX12_step_400 : decode cX12_step 400 = .ok (.dup, 1) := by decide +kernel
theorem dX12_step_401 : decode cX12_step 401 = .ok (.getfield 399, 3) := by decide +kernel
theorem dX12_step_404 : decode cX12_step 404 = .ok (.iconst 1, 1) := by decide +kernel
theorem dX12_step_405 : decode cX12_step 405 = .ok (.isub, 1) := by decide +kernel
theorem dX12_step_406 : decode cX12_step 406 = .ok (.putfield 399, 3) := by decide +kernel
theorem dX12_step_409 : decode cX12_step 409 = .ok (.aload_n 0, 1) := by decide +kernel
theorem dX12_step_410 : decode cX12_step 410 = .ok (.getfield 91, 3) := by decide +kernel
theorem dX12_step_413 : decode cX12_step 413 = .ok (.aload_n 0, 1) := by decide +kernel
theorem dX12_step_414 : decode cX12_step 414 = .ok (.getfield 399, 3) := by decide +kernel
theorem dX12_step_417 : decode cX12_step 417 = .ok (.iconst 1, 1) := by decide +kernel
theorem dX12_step_418 : decode cX12_step 418 = .ok (.isub, 1) := by decide +kernel
theorem dX12_step_419 : decode cX12_step 419 = .ok (.iload 6, 2) := by decide +kernel
theorem dX12_step_421 : decode cX12_step 421 = .ok (.aload_n 0, 1) := by decide +kernel
theorem dX12_step_422 : decode cX12_step 422 = .ok (.getfield 91, 3) := by decide +kernel
theorem dX12_step_425 : decode cX12_step 425 = .ok (.aload_n 0, 1) := by decide +kernel
theorem dX12_step_426 : decode cX12_step 426 = .ok (.getfield 399, 3) := by decide +kernel
theorem dX12_step_429 : decode cX12_step 429 = .ok (.iconst 1, 1) := by decide +kernel
theorem dX12_step_430 : decode cX12_step 430 = .ok (.isub, 1) := by decide +kernel
theorem dX12_step_431 : decode cX12_step 431 = .ok (.iaload, 1) := by decide +kernel
theorem dX12_step_432 : decode cX12_step 432 = .ok (.aload_n 0, 1) := by decide +kernel
theorem dX12_step_433 : decode cX12_step 433 = .ok (.getfield 91, 3) := by decide +kernel
theorem dX12_step_436 : decode cX12_step 436 = .ok (.aload_n 0, 1) := by decide +kernel
theorem dX12_step_437 : decode cX12_step 437 = .ok (.getfield 399, 3) := by decide +kernel
theorem dX12_step_440 : decode cX12_step 440 = .ok (.iaload, 1) := by decide +kernel
theorem dX12_step_441 : decode cX12_step 441 = .ok (.invokestatic 353, 3) := by decide +kernel
theorem dX12_step_444 : decode cX12_step 444 = .ok (.iastore, 1) := by decide +kernel
theorem dX12_step_445 : decode cX12_step 445 = .ok (.return_, 1) := by decide +kernel
theorem dX12_play_0 : decode cX12_play 0 = .ok (.aload_n 0, 1) := by decide +kernel
theorem dX12_play_1 : decode cX12_play 1 = .ok (.iload 5, 2) := by decide +kernel
theorem dX12_play_3 : decode cX12_play 3 = .ok (.putfield 368, 3) := by decide +kernel
theorem dX12_play_6 : decode cX12_play 6 = .ok (.aload_n 0, 1) := by decide +kernel
theorem dX12_play_7 : decode cX12_play 7 = .ok (.iconst 0, 1) := by decide +kernel
theorem dX12_play_8 : decode cX12_play 8 = .ok (.putfield 381, 3) := by decide +kernel
theorem dX12_play_11 : decode cX12_play 11 = .ok (.aload_n 0, 1) := by decide +kernel
theorem dX12_play_12 : decode cX12_play 12 = .ok (.iconst 0, 1) := by decide +kernel
theorem dX12_play_13 : decode cX12_play 13 = .ok (.putfield 384, 3) := by decide +kernel
theorem dX12_play_16 : decode cX12_play 16 = .ok (.aload_n 0, 1) := by decide +kernel
theorem dX12_play_17 : decode cX12_play 17 = .ok (.iconst 0, 1) := by decide +kernel
theorem dX12_play_18 : decode cX12_play 18 = .ok (.putfield 399, 3) := by decide +kernel
theorem dX12_play_21 : decode cX12_play 21 = .ok (.aload_n 0, 1) := by decide +kernel
theorem dX12_play_22 : decode cX12_play 22 = .ok (.iconst 0, 1) := by decide +kernel
theorem dX12_play_23 : decode cX12_play 23 = .ok (.putfield 396, 3) := by decide +kernel
theorem dX12_play_26 : decode cX12_play 26 = .ok (.aload_n 0, 1) := by decide +kernel
theorem dX12_play_27 : decode cX12_play 27 = .ok (.getfield 85, 3) := by decide +kernel
theorem dX12_play_30 : decode cX12_play 30 = .ok (.iconst 3, 1) := by decide +kernel
theorem dX12_play_31 : decode cX12_play 31 = .ok (.iload_n 2, 1) := by decide +kernel
theorem dX12_play_32 : decode cX12_play 32 = .ok (.iastore, 1) := by decide +kernel
theorem dX12_play_33 : decode cX12_play 33 = .ok (.aload_n 0, 1) := by decide +kernel
theorem dX12_play_34 : decode cX12_play 34 = .ok (.getfield 85, 3) := by decide +kernel
theorem dX12_play_37 : decode cX12_play 37 = .ok (.iconst 4, 1) := by decide +kernel
theorem dX12_play_38 : decode cX12_play 38 = .ok (.iload_n 3, 1) := by decide +kernel
theorem dX12_play_39 : decode cX12_play 39 = .ok (.iastore, 1) := by decide +kernel
theorem dX12_play_40 : decode cX12_play 40 = .ok (.aload_n 0, 1) := by decide +kernel
theorem dX12_play_41 : decode cX12_play 41 = .ok (.getfield 85, 3) := by decide +kernel
theorem dX12_play_44 : decode cX12_play 44 = .ok (.iconst 5, 1) := by decide +kernel
theorem dX12_play_45 : decode cX12_play 45 = .ok (.iload 4, 2) := by decide +kernel
theorem dX12_play_47 : decode cX12_play 47 = .ok (.iastore, 1) := by decide +kernel
theorem dX12_play_48 : decode cX12_play 48 = .ok (.aload_n 0, 1) := by decide +kernel
theorem dX12_play_49 : decode cX12_play 49 = .ok (.iload_n 1, 1) := by decide +kernel
theorem dX12_play_50 : decode cX12_play 50 = .ok (.invokevirtual 413, 3) := by decide +kernel
theorem dX12_play_53 : decode cX12_play 53 = .ok (.aload_n 0, 1) := by decide +kernel
theorem dX12_play_54 : decode cX12_play 54 = .ok (.getfield 381, 3) := by decide +kernel
theorem dX12_play_57 : decode cX12_play 57 = .ok (.ifCond .le 10, 3) := by decide +kernel
theorem dX12_play_60 : decode cX12_play 60 = .ok (.aload_n 0, 1) := by decide +kernel
theorem dX12_play_61 : decode cX12_play 61 = .ok (.invokevirtual 423, 3) := by decide +kernel
theorem dX12_play_64 : decode cX12_play 64 = .ok (.goto (-11), 3) := by decide +kernel
theorem dX12_play_67 : decode cX12_play 67 = .ok (.aload_n 0, 1) := by decide +kernel
theorem dX12_play_68 : decode cX12_play 68 = .ok (.aload_n 0, 1) := by decide +kernel
theorem dX12_play_69 : decode cX12_play 69 = .ok (.getfield 393, 3) := by decide +kernel
theorem dX12_play_72 : decode cX12_play 72 = .ok (.putfield 426, 3) := by decide +kernel
theorem dX12_play_75 : decode cX12_play 75 = .ok (.aload_n 0, 1) := by decide +kernel
theorem dX12_play_76 : decode cX12_play 76 = .ok (.getfield 390, 3) := by decide +kernel
theorem dX12_play_79 : decode cX12_play 79 = .ok (.ifCond .eq 7, 3) := by decide +kernel
theorem dX12_play_82 : decode cX12_play 82 = .ok (.iconst 1, 1) := by decide +kernel
theorem dX12_play_83 : decode cX12_play 83 = .ok (.goto 4, 3) := by decide +kernel
theorem dX12_play_86 : decode cX12_play 86 = .ok (.iconst 0, 1) := by decide +kernel
theorem dX12_play_87 : decode cX12_play 87 = .ok (.ireturn, 1) := by decide +kernel
theorem dX12_call_0 : decode cX12_call 0 = .ok (.aload_n 0, 1) := by decide +kernel
theorem dX12_call_1 : decode cX12_call 1 = .ok (.iload_n 1, 1) := by decide +kernel
theorem dX12_call_2 : decode cX12_call 2 = .ok (.ifCond .lt 11, 3) := by decide +kernel
theorem dX12_call_5 : decode cX12_call 5 = .ok (.iload_n 1, 1) := by decide +kernel
theorem dX12_call_6 : decode cX12_call 6 = .ok (.aload_n 0, 1) := by decide +kernel
theorem dX12_call_7 : decode cX12_call 7 = .ok (.getfield 260, 3) := by decide +kernel
theorem dX12_call_10 : decode cX12_call 10 = .ok (.if_icmp .lt 7, 3) := by decide +kernel
theorem dX12_call_13 : decode cX12_call 13 = .ok (.iconst 1, 1) := by decide +kernel
theorem dX12_call_14 : decode cX12_call 14 = .ok (.goto 4, 3) := by decide +kernel
theorem dX12_call_17 : decode cX12_call 17 = .ok (.iconst 0, 1) := by decide +kernel
theorem dX12_call_18 : decode cX12_call 18 = .ok (.putfield 115, 3) := by decide +kernel
theorem dX12_call_21 : decode cX12_call 21 = .ok (.aload_n 0, 1) := by decide +kernel
theorem dX12_call_22 : decode cX12_call 22 = .ok (.getfield 115, 3) := by decide +kernel
theorem dX12_call_25 : decode cX12_call 25 = .ok (.ifCond .le 7, 3) := by decide +kernel
theorem dX12_call_28 : decode cX12_call 28 = .ok (.iconst 0, 1) := by decide +kernel
theorem dX12_call_29 : decode cX12_call 29 = .ok (.goto 13, 3) := by decide +kernel
theorem dX12_call_32 : decode cX12_call 32 = .ok (.aload_n 0, 1) := by decide +kernel
theorem dX12_call_33 : decode cX12_call 33 = .ok (.iload_n 1, 1) := by decide +kernel
theorem dX12_call_34 : decode cX12_call 34 = .ok (.iload_n 2, 1) := by decide +kernel
theorem dX12_call_35 : decode cX12_call 35 = .ok (.iload_n 3, 1) := by decide +kernel
theorem dX12_call_36 : decode cX12_call 36 = .ok (.iload 4, 2) := by decide +kernel
theorem dX12_call_38 : decode cX12_call 38 = .ok (.iconst 0, 1) := by decide +kernel
theorem dX12_call_39 : decode cX12_call 39 = .ok (.invokevirtual 429, 3) := by decide +kernel
theorem dX12_call_42 : decode cX12_call 42 = .ok (.ireturn, 1) := by decide +kernel
theorem dX12_value_0 : decode cX12_value 0 = .ok (.aload_n 0, 1) := by decide +kernel
theorem dX12_value_1 : decode cX12_value 1 = .ok (.iconst 0, 1) := by decide +kernel
theorem dX12_value_2 : decode cX12_value 2 = .ok (.putfield 115, 3) := by decide +kernel
theorem dX12_value_5 : decode cX12_value 5 = .ok (.aload_n 0, 1) := by decide +kernel
theorem dX12_value_6 : decode cX12_value 6 = .ok (.getfield 426, 3) := by decide +kernel
theorem dX12_value_9 : decode cX12_value 9 = .ok (.ireturn, 1) := by decide +kernel
theorem dX12_invoked_0 : decode cX12_invoked 0 = .ok (.aload_n 0, 1) := by decide +kernel
theorem dX12_invoked_1 : decode cX12_invoked 1 = .ok (.iconst 0, 1) := by decide +kernel
theorem dX12_invoked_2 : decode cX12_invoked 2 = .ok (.putfield 115, 3) := by decide +kernel
theorem dX12_invoked_5 : decode cX12_invoked 5 = .ok (.aload_n 0, 1) := by decide +kernel
theorem dX12_invoked_6 : decode cX12_invoked 6 = .ok (.getfield 384, 3) := by decide +kernel
theorem dX12_invoked_9 : decode cX12_invoked 9 = .ok (.ireturn, 1) := by decide +kernel
theorem dX12_records_0 : decode cX12_records 0 = .ok (.aload_n 0, 1) := by decide +kernel
theorem dX12_records_1 : decode cX12_records 1 = .ok (.iconst 0, 1) := by decide +kernel
theorem dX12_records_2 : decode cX12_records 2 = .ok (.putfield 115, 3) := by decide +kernel
theorem dX12_records_5 : decode cX12_records 5 = .ok (.aload_n 0, 1) := by decide +kernel
theorem dX12_records_6 : decode cX12_records 6 = .ok (.getfield 356, 3) := by decide +kernel
theorem dX12_records_9 : decode cX12_records 9 = .ok (.ireturn, 1) := by decide +kernel
theorem dX12_record__0 : decode cX12_record_ 0 = .ok (.aload_n 0, 1) := by decide +kernel
theorem dX12_record__1 : decode cX12_record_ 1 = .ok (.iload_n 1, 1) := by decide +kernel
theorem dX12_record__2 : decode cX12_record_ 2 = .ok (.ifCond .lt 11, 3) := by decide +kernel
theorem dX12_record__5 : decode cX12_record_ 5 = .ok (.iload_n 1, 1) := by decide +kernel
theorem dX12_record__6 : decode cX12_record_ 6 = .ok (.aload_n 0, 1) := by decide +kernel
theorem dX12_record__7 : decode cX12_record_ 7 = .ok (.getfield 356, 3) := by decide +kernel
theorem dX12_record__10 : decode cX12_record_ 10 = .ok (.if_icmp .lt 7, 3) := by decide +kernel
theorem dX12_record__13 : decode cX12_record_ 13 = .ok (.iconst 1, 1) := by decide +kernel
theorem dX12_record__14 : decode cX12_record_ 14 = .ok (.goto 17, 3) := by decide +kernel
theorem dX12_record__17 : decode cX12_record_ 17 = .ok (.iload_n 2, 1) := by decide +kernel
theorem dX12_record__18 : decode cX12_record_ 18 = .ok (.ifCond .lt 8, 3) := by decide +kernel
theorem dX12_record__21 : decode cX12_record_ 21 = .ok (.iload_n 2, 1) := by decide +kernel
theorem dX12_record__22 : decode cX12_record_ 22 = .ok (.iconst 4, 1) := by decide +kernel
theorem dX12_record__23 : decode cX12_record_ 23 = .ok (.if_icmp .le 7, 3) := by decide +kernel
theorem dX12_record__26 : decode cX12_record_ 26 = .ok (.iconst 2, 1) := by decide +kernel
theorem dX12_record__27 : decode cX12_record_ 27 = .ok (.goto 4, 3) := by decide +kernel
theorem dX12_record__30 : decode cX12_record_ 30 = .ok (.iconst 0, 1) := by decide +kernel
theorem dX12_record__31 : decode cX12_record_ 31 = .ok (.putfield 115, 3) := by decide +kernel
theorem dX12_record__34 : decode cX12_record_ 34 = .ok (.aload_n 0, 1) := by decide +kernel
theorem dX12_record__35 : decode cX12_record_ 35 = .ok (.getfield 115, 3) := by decide +kernel
theorem dX12_record__38 : decode cX12_record_ 38 = .ok (.ifCond .le 7, 3) := by decide +kernel
theorem dX12_record__41 : decode cX12_record_ 41 = .ok (.iconst 0, 1) := by decide +kernel
theorem dX12_record__42 : decode cX12_record_ 42 = .ok (.goto 13, 3) := by decide +kernel
theorem dX12_record__45 : decode cX12_record_ 45 = .ok (.aload_n 0, 1) := by decide +kernel
theorem dX12_record__46 : decode cX12_record_ 46 = .ok (.getfield 76, 3) := by decide +kernel
theorem dX12_record__49 : decode cX12_record_ 49 = .ok (.iconst 5, 1) := by decide +kernel
theorem dX12_record__50 : decode cX12_record_ 50 = .ok (.iload_n 1, 1) := by decide +kernel
theorem dX12_record__51 : decode cX12_record_ 51 = .ok (.imul, 1) := by decide +kernel
theorem dX12_record__52 : decode cX12_record_ 52 = .ok (.iload_n 2, 1) := by decide +kernel
theorem dX12_record__53 : decode cX12_record_ 53 = .ok (.iadd, 1) := by decide +kernel
theorem dX12_record__54 : decode cX12_record_ 54 = .ok (.iaload, 1) := by decide +kernel
theorem dX12_record__55 : decode cX12_record_ 55 = .ok (.ireturn, 1) := by decide +kernel
theorem dX12_clear_0 : decode cX12_clear 0 = .ok (.aload_n 0, 1) := by decide +kernel
theorem dX12_clear_1 : decode cX12_clear 1 = .ok (.iconst 0, 1) := by decide +kernel
theorem dX12_clear_2 : decode cX12_clear 2 = .ok (.putfield 115, 3) := by decide +kernel
theorem dX12_clear_5 : decode cX12_clear 5 = .ok (.aload_n 0, 1) := by decide +kernel
theorem dX12_clear_6 : decode cX12_clear 6 = .ok (.getfield 356, 3) := by decide +kernel
theorem dX12_clear_9 : decode cX12_clear 9 = .ok (.istore_n 1, 1) := by decide +kernel
theorem dX12_clear_10 : decode cX12_clear 10 = .ok (.aload_n 0, 1) := by decide +kernel
theorem dX12_clear_11 : decode cX12_clear 11 = .ok (.iconst 0, 1) := by decide +kernel
theorem dX12_clear_12 : decode cX12_clear 12 = .ok (.putfield 356, 3) := by decide +kernel
theorem dX12_clear_15 : decode cX12_clear 15 = .ok (.aload_n 0, 1) := by decide +kernel
theorem dX12_clear_16 : decode cX12_clear 16 = .ok (.iconst 0, 1) := by decide +kernel
theorem dX12_clear_17 : decode cX12_clear 17 = .ok (.putfield 365, 3) := by decide +kernel
theorem dX12_clear_20 : decode cX12_clear 20 = .ok (.iload_n 1, 1) := by decide +kernel
theorem dX12_clear_21 : decode cX12_clear 21 = .ok (.ireturn, 1) := by decide +kernel
theorem dX12_job_0 : decode cX12_job 0 = .ok (.aload_n 0, 1) := by decide +kernel
theorem dX12_job_1 : decode cX12_job 1 = .ok (.iload_n 1, 1) := by decide +kernel
theorem dX12_job_2 : decode cX12_job 2 = .ok (.ifCond .lt 9, 3) := by decide +kernel
theorem dX12_job_5 : decode cX12_job 5 = .ok (.iload_n 1, 1) := by decide +kernel
theorem dX12_job_6 : decode cX12_job 6 = .ok (.bipush 8, 2) := by decide +kernel
theorem dX12_job_8 : decode cX12_job 8 = .ok (.if_icmp .lt 7, 3) := by decide +kernel
theorem dX12_job_11 : decode cX12_job 11 = .ok (.iconst 1, 1) := by decide +kernel
theorem dX12_job_12 : decode cX12_job 12 = .ok (.goto 17, 3) := by decide +kernel
theorem dX12_job_15 : decode cX12_job 15 = .ok (.iload_n 2, 1) := by decide +kernel
theorem dX12_job_16 : decode cX12_job 16 = .ok (.ifCond .lt 8, 3) := by decide +kernel
theorem dX12_job_19 : decode cX12_job 19 = .ok (.iload_n 2, 1) := by decide +kernel
theorem dX12_job_20 : decode cX12_job 20 = .ok (.iconst 1, 1) := by decide +kernel
theorem dX12_job_21 : decode cX12_job 21 = .ok (.if_icmp .le 7, 3) := by decide +kernel
theorem dX12_job_24 : decode cX12_job 24 = .ok (.iconst 2, 1) := by decide +kernel
theorem dX12_job_25 : decode cX12_job 25 = .ok (.goto 4, 3) := by decide +kernel
theorem dX12_job_28 : decode cX12_job 28 = .ok (.iconst 0, 1) := by decide +kernel
theorem dX12_job_29 : decode cX12_job 29 = .ok (.putfield 115, 3) := by decide +kernel
theorem dX12_job_32 : decode cX12_job 32 = .ok (.aload_n 0, 1) := by decide +kernel
theorem dX12_job_33 : decode cX12_job 33 = .ok (.getfield 115, 3) := by decide +kernel
theorem dX12_job_36 : decode cX12_job 36 = .ok (.ifCond .le 5, 3) := by decide +kernel
theorem dX12_job_39 : decode cX12_job 39 = .ok (.iconst 0, 1) := by decide +kernel
theorem dX12_job_40 : decode cX12_job 40 = .ok (.ireturn, 1) := by decide +kernel
theorem dX12_job_41 : decode cX12_job 41 = .ok (.iload_n 2, 1) := by decide +kernel
theorem dX12_job_42 : decode cX12_job 42 = .ok (.ifCond .ne 12, 3) := by decide +kernel
theorem dX12_job_45 : decode cX12_job 45 = .ok (.aload_n 0, 1) := by decide +kernel
theorem dX12_job_46 : decode cX12_job 46 = .ok (.getfield 48, 3) := by decide +kernel
theorem dX12_job_49 : decode cX12_job 49 = .ok (.iload_n 1, 1) := by decide +kernel
theorem dX12_job_50 : decode cX12_job 50 = .ok (.iaload, 1) := by decide +kernel
theorem dX12_job_51 : decode cX12_job 51 = .ok (.goto 30, 3) := by decide +kernel
theorem dX12_job_54 : decode cX12_job 54 = .ok (.aload_n 0, 1) := by decide +kernel
theorem dX12_job_55 : decode cX12_job 55 = .ok (.getfield 48, 3) := by decide +kernel
theorem dX12_job_58 : decode cX12_job 58 = .ok (.iload_n 1, 1) := by decide +kernel
theorem dX12_job_59 : decode cX12_job 59 = .ok (.iaload, 1) := by decide +kernel
theorem dX12_job_60 : decode cX12_job 60 = .ok (.iconst 1, 1) := by decide +kernel
theorem dX12_job_61 : decode cX12_job 61 = .ok (.if_icmp .ne 19, 3) := by decide +kernel
theorem dX12_job_64 : decode cX12_job 64 = .ok (.aload_n 0, 1) := by decide +kernel
theorem dX12_job_65 : decode cX12_job 65 = .ok (.getfield 54, 3) := by decide +kernel
theorem dX12_job_68 : decode cX12_job 68 = .ok (.iload_n 1, 1) := by decide +kernel
theorem dX12_job_69 : decode cX12_job 69 = .ok (.iaload, 1) := by decide +kernel
theorem dX12_job_70 : decode cX12_job 70 = .ok (.aload_n 0, 1) := by decide +kernel
theorem dX12_job_71 : decode cX12_job 71 = .ok (.getfield 57, 3) := by decide +kernel
theorem dX12_job_74 : decode cX12_job 74 = .ok (.iload_n 1, 1) := by decide +kernel
theorem dX12_job_75 : decode cX12_job 75 = .ok (.iaload, 1) := by decide +kernel
theorem dX12_job_76 : decode cX12_job 76 = .ok (.isub, 1) := by decide +kernel
theorem dX12_job_77 : decode cX12_job 77 = .ok (.goto 4, 3) := by decide +kernel
theorem dX12_job_80 : decode cX12_job 80 = .ok (.iconst 0, 1) := by decide +kernel
theorem dX12_job_81 : decode cX12_job 81 = .ok (.ireturn, 1) := by decide +kernel
theorem dX12_counted_0 : decode cX12_counted 0 = .ok (.iload_n 1, 1) := by decide +kernel
theorem dX12_counted_1 : decode cX12_counted 1 = .ok (.ifCond .lt 25, 3) := by decide +kernel
theorem dX12_counted_4 : decode cX12_counted 4 = .ok (.iload_n 1, 1) := by decide +kernel
theorem dX12_counted_5 : decode cX12_counted 5 = .ok (.bipush 8, 2) := by decide +kernel
theorem dX12_counted_7 : decode cX12_counted 7 = .ok (.if_icmp .ge 19, 3) := by decide +kernel
theorem dX12_counted_10 : decode cX12_counted 10 = .ok (.iload_n 2, 1) := by decide +kernel
theorem dX12_counted_11 : decode cX12_counted 11 = .ok (.ifCond .lt 15, 3) := by decide +kernel
theorem dX12_counted_14 : decode cX12_counted 14 = .ok (.iload_n 2, 1) := by decide +kernel
theorem dX12_counted_15 : decode cX12_counted 15 = .ok (.aload_n 0, 1) := by decide +kernel
theorem dX12_counted_16 : decode cX12_counted 16 = .ok (.getfield 260, 3) := by decide +kernel
theorem dX12_counted_19 : decode cX12_counted 19 = .ok (.if_icmp .ge 7, 3) := by decide +kernel
theorem dX12_counted_22 : decode cX12_counted 22 = .ok (.iconst 1, 1) := by decide +kernel
theorem dX12_counted_23 : decode cX12_counted 23 = .ok (.goto 4, 3) := by decide +kernel
theorem dX12_counted_26 : decode cX12_counted 26 = .ok (.iconst 0, 1) := by decide +kernel
theorem dX12_counted_27 : decode cX12_counted 27 = .ok (.istore 4, 2) := by decide +kernel
theorem dX12_counted_29 : decode cX12_counted 29 = .ok (.aload_n 0, 1) := by decide +kernel
theorem dX12_counted_30 : decode cX12_counted 30 = .ok (.iload 4, 2) := by decide +kernel
theorem dX12_counted_32 : decode cX12_counted 32 = .ok (.ifCond .eq 13, 3) := by decide +kernel
theorem dX12_counted_35 : decode cX12_counted 35 = .ok (.aload_n 0, 1) := by decide +kernel
theorem dX12_counted_36 : decode cX12_counted 36 = .ok (.getfield 48, 3) := by decide +kernel
theorem dX12_counted_39 : decode cX12_counted 39 = .ok (.iload_n 1, 1) := by decide +kernel
theorem dX12_counted_40 : decode cX12_counted 40 = .ok (.iaload, 1) := by decide +kernel
theorem dX12_counted_41 : decode cX12_counted 41 = .ok (.iconst 2, 1) := by decide +kernel
theorem dX12_counted_42 : decode cX12_counted 42 = .ok (.if_icmp .eq 7, 3) := by decide +kernel
theorem dX12_counted_45 : decode cX12_counted 45 = .ok (.iconst 1, 1) := by decide +kernel
theorem dX12_counted_46 : decode cX12_counted 46 = .ok (.goto 17, 3) := by decide +kernel
theorem dX12_counted_49 : decode cX12_counted 49 = .ok (.iload_n 3, 1) := by decide +kernel
theorem dX12_counted_50 : decode cX12_counted 50 = .ok (.ifCond .lt 8, 3) := by decide +kernel
theorem dX12_counted_53 : decode cX12_counted 53 = .ok (.iload_n 3, 1) := by decide +kernel
theorem dX12_counted_54 : decode cX12_counted 54 = .ok (.iconst 2, 1) := by decide +kernel
theorem dX12_counted_55 : decode cX12_counted 55 = .ok (.if_icmp .le 7, 3) := by decide +kernel
theorem dX12_counted_58 : decode cX12_counted 58 = .ok (.iconst 2, 1) := by decide +kernel
theorem dX12_counted_59 : decode cX12_counted 59 = .ok (.goto 4, 3) := by decide +kernel
theorem dX12_counted_62 : decode cX12_counted 62 = .ok (.iconst 0, 1) := by decide +kernel
theorem dX12_counted_63 : decode cX12_counted 63 = .ok (.putfield 115, 3) := by decide +kernel
theorem dX12_counted_66 : decode cX12_counted 66 = .ok (.aload_n 0, 1) := by decide +kernel
theorem dX12_counted_67 : decode cX12_counted 67 = .ok (.getfield 115, 3) := by decide +kernel
theorem dX12_counted_70 : decode cX12_counted 70 = .ok (.ifCond .le 7, 3) := by decide +kernel
theorem dX12_counted_73 : decode cX12_counted 73 = .ok (.iconst 0, 1) := by decide +kernel
theorem dX12_counted_74 : decode cX12_counted 74 = .ok (.goto 18, 3) := by decide +kernel
theorem dX12_counted_77 : decode cX12_counted 77 = .ok (.aload_n 0, 1) := by decide +kernel
theorem dX12_counted_78 : decode cX12_counted 78 = .ok (.getfield 73, 3) := by decide +kernel
theorem dX12_counted_81 : decode cX12_counted 81 = .ok (.bipush 48, 2) := by decide +kernel
theorem dX12_counted_83 : decode cX12_counted 83 = .ok (.iload_n 1, 1) := by decide +kernel
theorem dX12_counted_84 : decode cX12_counted 84 = .ok (.imul, 1) := by decide +kernel
theorem dX12_counted_85 : decode cX12_counted 85 = .ok (.iconst 3, 1) := by decide +kernel
theorem dX12_counted_86 : decode cX12_counted 86 = .ok (.iload_n 2, 1) := by decide +kernel
theorem dX12_counted_87 : decode cX12_counted 87 = .ok (.imul, 1) := by decide +kernel
theorem dX12_counted_88 : decode cX12_counted 88 = .ok (.iadd, 1) := by decide +kernel
theorem dX12_counted_89 : decode cX12_counted 89 = .ok (.iload_n 3, 1) := by decide +kernel
theorem dX12_counted_90 : decode cX12_counted 90 = .ok (.iadd, 1) := by decide +kernel
theorem dX12_counted_91 : decode cX12_counted 91 = .ok (.iaload, 1) := by decide +kernel
theorem dX12_counted_92 : decode cX12_counted 92 = .ok (.ireturn, 1) := by decide +kernel
theorem dX12_keeps_0 : decode cX12_keeps 0 = .ok (.aload_n 0, 1) := by decide +kernel
theorem dX12_keeps_1 : decode cX12_keeps 1 = .ok (.iconst 0, 1) := by decide +kernel
theorem dX12_keeps_2 : decode cX12_keeps 2 = .ok (.putfield 115, 3) := by decide +kernel
theorem dX12_keeps_5 : decode cX12_keeps 5 = .ok (.aload_n 0, 1) := by decide +kernel
theorem dX12_keeps_6 : decode cX12_keeps 6 = .ok (.getfield 365, 3) := by decide +kernel
theorem dX12_keeps_9 : decode cX12_keeps 9 = .ok (.ireturn, 1) := by decide +kernel
theorem dX12_kept_0 : decode cX12_kept 0 = .ok (.aload_n 0, 1) := by decide +kernel
theorem dX12_kept_1 : decode cX12_kept 1 = .ok (.iload_n 1, 1) := by decide +kernel
theorem dX12_kept_2 : decode cX12_kept 2 = .ok (.ifCond .lt 11, 3) := by decide +kernel
theorem dX12_kept_5 : decode cX12_kept 5 = .ok (.iload_n 1, 1) := by decide +kernel
theorem dX12_kept_6 : decode cX12_kept 6 = .ok (.aload_n 0, 1) := by decide +kernel
theorem dX12_kept_7 : decode cX12_kept 7 = .ok (.getfield 365, 3) := by decide +kernel
theorem dX12_kept_10 : decode cX12_kept 10 = .ok (.if_icmp .lt 7, 3) := by decide +kernel
theorem dX12_kept_13 : decode cX12_kept 13 = .ok (.iconst 1, 1) := by decide +kernel
theorem dX12_kept_14 : decode cX12_kept 14 = .ok (.goto 18, 3) := by decide +kernel
theorem dX12_kept_17 : decode cX12_kept 17 = .ok (.iload_n 2, 1) := by decide +kernel
theorem dX12_kept_18 : decode cX12_kept 18 = .ok (.ifCond .lt 9, 3) := by decide +kernel
theorem dX12_kept_21 : decode cX12_kept 21 = .ok (.iload_n 2, 1) := by decide +kernel
theorem dX12_kept_22 : decode cX12_kept 22 = .ok (.bipush 6, 2) := by decide +kernel
theorem dX12_kept_24 : decode cX12_kept 24 = .ok (.if_icmp .le 7, 3) := by decide +kernel
theorem dX12_kept_27 : decode cX12_kept 27 = .ok (.iconst 2, 1) := by decide +kernel
theorem dX12_kept_28 : decode cX12_kept 28 = .ok (.goto 4, 3) := by decide +kernel
theorem dX12_kept_31 : decode cX12_kept 31 = .ok (.iconst 0, 1) := by decide +kernel
theorem dX12_kept_32 : decode cX12_kept 32 = .ok (.putfield 115, 3) := by decide +kernel
theorem dX12_kept_35 : decode cX12_kept 35 = .ok (.aload_n 0, 1) := by decide +kernel
theorem dX12_kept_36 : decode cX12_kept 36 = .ok (.getfield 115, 3) := by decide +kernel
theorem dX12_kept_39 : decode cX12_kept 39 = .ok (.ifCond .le 7, 3) := by decide +kernel
theorem dX12_kept_42 : decode cX12_kept 42 = .ok (.iconst 0, 1) := by decide +kernel
theorem dX12_kept_43 : decode cX12_kept 43 = .ok (.goto 14, 3) := by decide +kernel
theorem dX12_kept_46 : decode cX12_kept 46 = .ok (.aload_n 0, 1) := by decide +kernel
theorem dX12_kept_47 : decode cX12_kept 47 = .ok (.getfield 79, 3) := by decide +kernel
theorem dX12_kept_50 : decode cX12_kept 50 = .ok (.bipush 7, 2) := by decide +kernel
theorem dX12_kept_52 : decode cX12_kept 52 = .ok (.iload_n 1, 1) := by decide +kernel
theorem dX12_kept_53 : decode cX12_kept 53 = .ok (.imul, 1) := by decide +kernel
theorem dX12_kept_54 : decode cX12_kept 54 = .ok (.iload_n 2, 1) := by decide +kernel
theorem dX12_kept_55 : decode cX12_kept 55 = .ok (.iadd, 1) := by decide +kernel
theorem dX12_kept_56 : decode cX12_kept 56 = .ok (.iaload, 1) := by decide +kernel
theorem dX12_kept_57 : decode cX12_kept 57 = .ok (.ireturn, 1) := by decide +kernel
theorem dX12_replay_0 : decode cX12_replay 0 = .ok (.aload_n 0, 1) := by decide +kernel
theorem dX12_replay_1 : decode cX12_replay 1 = .ok (.iload_n 1, 1) := by decide +kernel
theorem dX12_replay_2 : decode cX12_replay 2 = .ok (.ifCond .lt 11, 3) := by decide +kernel
theorem dX12_replay_5 : decode cX12_replay 5 = .ok (.iload_n 1, 1) := by decide +kernel
theorem dX12_replay_6 : decode cX12_replay 6 = .ok (.aload_n 0, 1) := by decide +kernel
theorem dX12_replay_7 : decode cX12_replay 7 = .ok (.getfield 365, 3) := by decide +kernel
theorem dX12_replay_10 : decode cX12_replay 10 = .ok (.if_icmp .lt 7, 3) := by decide +kernel
theorem dX12_replay_13 : decode cX12_replay 13 = .ok (.iconst 1, 1) := by decide +kernel
theorem dX12_replay_14 : decode cX12_replay 14 = .ok (.goto 4, 3) := by decide +kernel
theorem dX12_replay_17 : decode cX12_replay 17 = .ok (.iconst 0, 1) := by decide +kernel
theorem dX12_replay_18 : decode cX12_replay 18 = .ok (.putfield 115, 3) := by decide +kernel
theorem dX12_replay_21 : decode cX12_replay 21 = .ok (.aload_n 0, 1) := by decide +kernel
theorem dX12_replay_22 : decode cX12_replay 22 = .ok (.getfield 115, 3) := by decide +kernel
theorem dX12_replay_25 : decode cX12_replay 25 = .ok (.ifCond .le 7, 3) := by decide +kernel
theorem dX12_replay_28 : decode cX12_replay 28 = .ok (.iconst 0, 1) := by decide +kernel
theorem dX12_replay_29 : decode cX12_replay 29 = .ok (.goto 52, 3) := by decide +kernel
theorem dX12_replay_32 : decode cX12_replay 32 = .ok (.aload_n 0, 1) := by decide +kernel
theorem dX12_replay_33 : decode cX12_replay 33 = .ok (.aload_n 0, 1) := by decide +kernel
theorem dX12_replay_34 : decode cX12_replay 34 = .ok (.getfield 79, 3) := by decide +kernel
theorem dX12_replay_37 : decode cX12_replay 37 = .ok (.bipush 7, 2) := by decide +kernel
theorem dX12_replay_39 : decode cX12_replay 39 = .ok (.iload_n 1, 1) := by decide +kernel
theorem dX12_replay_40 : decode cX12_replay 40 = .ok (.imul, 1) := by decide +kernel
theorem dX12_replay_41 : decode cX12_replay 41 = .ok (.iconst 1, 1) := by decide +kernel
theorem dX12_replay_42 : decode cX12_replay 42 = .ok (.iadd, 1) := by decide +kernel
theorem dX12_replay_43 : decode cX12_replay 43 = .ok (.iaload, 1) := by decide +kernel
theorem dX12_replay_44 : decode cX12_replay 44 = .ok (.aload_n 0, 1) := by decide +kernel
theorem dX12_replay_45 : decode cX12_replay 45 = .ok (.getfield 79, 3) := by decide +kernel
theorem dX12_replay_48 : decode cX12_replay 48 = .ok (.bipush 7, 2) := by decide +kernel
theorem dX12_replay_50 : decode cX12_replay 50 = .ok (.iload_n 1, 1) := by decide +kernel
theorem dX12_replay_51 : decode cX12_replay 51 = .ok (.imul, 1) := by decide +kernel
theorem dX12_replay_52 : decode cX12_replay 52 = .ok (.iconst 2, 1) := by decide +kernel
theorem dX12_replay_53 : decode cX12_replay 53 = .ok (.iadd, 1) := by decide +kernel
theorem dX12_replay_54 : decode cX12_replay 54 = .ok (.iaload, 1) := by decide +kernel
theorem dX12_replay_55 : decode cX12_replay 55 = .ok (.aload_n 0, 1) := by decide +kernel
theorem dX12_replay_56 : decode cX12_replay 56 = .ok (.getfield 79, 3) := by decide +kernel
theorem dX12_replay_59 : decode cX12_replay 59 = .ok (.bipush 7, 2) := by decide +kernel
theorem dX12_replay_61 : decode cX12_replay 61 = .ok (.iload_n 1, 1) := by decide +kernel
theorem dX12_replay_62 : decode cX12_replay 62 = .ok (.imul, 1) := by decide +kernel
theorem dX12_replay_63 : decode cX12_replay 63 = .ok (.iconst 3, 1) := by decide +kernel
theorem dX12_replay_64 : decode cX12_replay 64 = .ok (.iadd, 1) := by decide +kernel
theorem dX12_replay_65 : decode cX12_replay 65 = .ok (.iaload, 1) := by decide +kernel
theorem dX12_replay_66 : decode cX12_replay 66 = .ok (.aload_n 0, 1) := by decide +kernel
theorem dX12_replay_67 : decode cX12_replay 67 = .ok (.getfield 79, 3) := by decide +kernel
theorem dX12_replay_70 : decode cX12_replay 70 = .ok (.bipush 7, 2) := by decide +kernel
theorem dX12_replay_72 : decode cX12_replay 72 = .ok (.iload_n 1, 1) := by decide +kernel
theorem dX12_replay_73 : decode cX12_replay 73 = .ok (.imul, 1) := by decide +kernel
theorem dX12_replay_74 : decode cX12_replay 74 = .ok (.iconst 4, 1) := by decide +kernel
theorem dX12_replay_75 : decode cX12_replay 75 = .ok (.iadd, 1) := by decide +kernel
theorem dX12_replay_76 : decode cX12_replay 76 = .ok (.iaload, 1) := by decide +kernel
theorem dX12_replay_77 : decode cX12_replay 77 = .ok (.iconst 1, 1) := by decide +kernel
theorem dX12_replay_78 : decode cX12_replay 78 = .ok (.invokevirtual 429, 3) := by decide +kernel
theorem dX12_replay_81 : decode cX12_replay 81 = .ok (.ireturn, 1) := by decide +kernel


set_option maxRecDepth 100000 in
theorem kL_39 : li_ RL 39 yX11_init cX11_init 1 0 := ⟨gw_t 28 rfl rfl, gw_t 29 rfl rfl, in11_, gw_t 30 rfl rfl, rfl, ⟨nhc0_.1, nhc0_.2, pdc0_⟩, by decide⟩
set_option maxRecDepth 100000 in
theorem k11_9 : li_ RX11 9 yX9_init cX9_init 1 0 := ⟨gw_t 36 rfl rfl, gw_t 37 rfl rfl, in9_, gw_t 38 rfl rfl, rfl, ⟨nhc1_.1, nhc1_.2, pdc0_⟩, by decide⟩
set_option maxRecDepth 100000 in
theorem k11_18 : li_ RX11 18 yX7_init cX7_init 2 1 := ⟨gw_t 52 rfl rfl, gw_t 53 rfl rfl, in7_, gw_t 54 rfl rfl, rfl, ⟨nhc2_.1, nhc2_.2, pdc1_⟩, by decide⟩
set_option maxRecDepth 100000 in
theorem k11_27 : li_ RX11 27 yX10_init cX10_init 2 1 := ⟨gw_t 87 rfl rfl, gw_t 88 rfl rfl, in10_, gw_t 89 rfl rfl, rfl, ⟨nhc3_.1, nhc3_.2, pdc2_⟩, by decide⟩
set_option maxRecDepth 100000 in
theorem k10_17 : li_ RX10 17 yX0_init cX0_init 1 0 := ⟨gw_t 95 rfl rfl, gw_t 96 rfl rfl, in0_, gw_t 97 rfl rfl, rfl, ⟨nhc4_.1, nhc4_.2, pdc0_⟩, by decide⟩
set_option maxRecDepth 100000 in
theorem k10_18 : li_ RX10 18 yX1_init cX1_init 3 2 := ⟨gw_t 124 rfl rfl, gw_t 125 rfl rfl, in1_, gw_t 126 rfl rfl, rfl, ⟨nhc5_.1, nhc5_.2, pdc3_⟩, by decide⟩
set_option maxRecDepth 100000 in
theorem k11_36 : li_ RX11 36 yX5_init cX5_init 2 0 := ⟨gw_t 163 rfl rfl, gw_t 164 rfl rfl, in5_, gw_t 165 rfl rfl, rfl, ⟨nhc6_.1, nhc6_.2, pdc0_⟩, by decide⟩
set_option maxRecDepth 100000 in
theorem k5_21 : li_ RX5 21 yX0_init cX0_init 1 0 := ⟨gw_t 169 rfl rfl, gw_t 96 rfl rfl, in0_, gw_t 97 rfl rfl, rfl, ⟨nhc4_.1, nhc4_.2, pdc0_⟩, by decide⟩
set_option maxRecDepth 100000 in
theorem k11_43 : li_ RX11 43 yX3_init cX3_init 2 0 := ⟨gw_t 182 rfl rfl, gw_t 183 rfl rfl, in3_, gw_t 184 rfl rfl, rfl, ⟨nhc7_.1, nhc7_.2, pdc0_⟩, by decide⟩
set_option maxRecDepth 100000 in
theorem k3_17 : li_ RX3 17 yX2_init cX2_init 1 0 := ⟨gw_t 189 rfl rfl, gw_t 190 rfl rfl, in2_, gw_t 191 rfl rfl, rfl, ⟨nhc8_.1, nhc8_.2, pdc0_⟩, by decide⟩
set_option maxRecDepth 100000 in
theorem k2_9 : li_ RX2 9 yX0_init cX0_init 1 0 := ⟨gw_t 194 rfl rfl, gw_t 96 rfl rfl, in0_, gw_t 97 rfl rfl, rfl, ⟨nhc4_.1, nhc4_.2, pdc0_⟩, by decide⟩
set_option maxRecDepth 100000 in
theorem k11_50 : li_ RX11 50 yX8_init cX8_init 3 2 := ⟨gw_t 252 rfl rfl, gw_t 253 rfl rfl, in8_, gw_t 254 rfl rfl, rfl, ⟨nhc9_.1, nhc9_.2, pdc4_⟩, by decide⟩
set_option maxRecDepth 100000 in
theorem k11_62 : li_ RX11 62 yX4_init cX4_init 5 4 := ⟨gw_t 272 rfl rfl, gw_t 273 rfl rfl, in4_, gw_t 274 rfl rfl, rfl, ⟨nhc10_.1, nhc10_.2, pdc5_⟩, by decide⟩
set_option maxRecDepth 100000 in
theorem kL_51 : lk_ RL 51 yX11_wipe cX11_wipe 2 (some .int) 0 := ⟨gw_t 345 rfl rfl, gw_t 346 rfl rfl, gw_t 347 rfl rfl, in11_, gw_t 348 rfl rfl, ⟨nhc0_.1, nhc0_.2, pdc6_⟩, by decide⟩
set_option maxRecDepth 100000 in
theorem kL_56 : lk_ RL 56 yX11_method cX11_method 4 (some .int) 0 := ⟨gw_t 349 rfl rfl, gw_t 350 rfl rfl, gw_t 351 rfl rfl, in11_, gw_t 352 rfl rfl, ⟨nhc0_.1, nhc0_.2, pdc6_⟩, by decide⟩
set_option maxRecDepth 100000 in
theorem k11_80 : lk_ RX11 80 yX5_spareBody cX5_spareBody 1 (some (.object "ProbeConsole$Code")) 0 := ⟨gw_t 353 rfl rfl, gw_t 354 rfl rfl, gw_t 355 rfl rfl, in5_, gw_t 356 rfl rfl, ⟨nhc6_.1, nhc6_.2, pdc7_⟩, by decide⟩
set_option maxRecDepth 100000 in
theorem k11_84 : lk_ RX11 84 yX10_readMethod cX10_readMethod 5 (some .long) 1 := ⟨gw_t 357 rfl rfl, gw_t 358 rfl rfl, gw_t 359 rfl rfl, in10_, gw_t 360 rfl rfl, ⟨nhc3_.1, nhc3_.2, pdc8_⟩, by decide⟩
set_option maxRecDepth 100000 in
theorem k10_25 : lk_ RX10 25 yX7_begin cX7_begin 1 none 0 := ⟨gw_t 361 rfl rfl, gw_t 362 rfl rfl, gw_t 363 rfl rfl, in7_, gw_t 364 rfl rfl, ⟨nhc2_.1, nhc2_.2, pdc0_⟩, by decide⟩
set_option maxRecDepth 100000 in
theorem k10_30 : lk_ RX10 30 yX7_scanRow cX7_scanRow 4 none 0 := ⟨gw_t 365 rfl rfl, gw_t 366 rfl rfl, gw_t 367 rfl rfl, in7_, gw_t 368 rfl rfl, ⟨nhc2_.1, nhc2_.2, pdc0_⟩, by decide⟩
set_option maxRecDepth 100000 in
theorem k7_25 : lk_ RX7 25 yX9_at cX9_at 2 (some .int) 1 := ⟨gw_t 369 rfl rfl, gw_t 370 rfl rfl, gw_t 371 rfl rfl, in9_, gw_t 372 rfl rfl, ⟨nhc1_.1, nhc1_.2, pdc9_⟩, by decide⟩
set_option maxRecDepth 100000 in
theorem k7_62 : ls_ RX7 62 yX7_isRowByte cX7_isRowByte 1 (some .boolean) 1 := ⟨gw_t 373 rfl rfl, gw_t 374 rfl rfl, in7_, gw_t 375 rfl rfl, ⟨nhc2_.1, nhc2_.2, pdc10_⟩, by decide⟩
set_option maxRecDepth 100000 in
theorem k7_67 : ls_ RX7 67 yX6_sign cX6_sign 1 (some .int) 1 := ⟨gw_t 376 rfl rfl, gw_t 377 rfl rfl, in6_, gw_t 378 rfl rfl, ⟨nhc11_.1, nhc11_.2, pdc9_⟩, by decide⟩
set_option maxRecDepth 100000 in
theorem k7_70 : ls_ RX7 70 yX6_with cX6_with 4 (some .long) 3 := ⟨gw_t 379 rfl rfl, gw_t 380 rfl rfl, in6_, gw_t 381 rfl rfl, ⟨nhc11_.1, nhc11_.2, pdc11_⟩, by decide⟩
set_option maxRecDepth 100000 in
theorem k10_33 : lk_ RX10 33 yX7_takeName cX7_takeName 1 (some .long) 0 := ⟨gw_t 382 rfl rfl, gw_t 383 rfl rfl, gw_t 384 rfl rfl, in7_, gw_t 385 rfl rfl, ⟨nhc2_.1, nhc2_.2, pdc12_⟩, by decide⟩
set_option maxRecDepth 100000 in
theorem k7_34 : lk_ RX7 34 yX7_fail cX7_fail 3 none 2 := ⟨gw_t 386 rfl rfl, gw_t 387 rfl rfl, gw_t 388 rfl rfl, in7_, gw_t 389 rfl rfl, ⟨nhc2_.1, nhc2_.2, pdc4_⟩, by decide⟩
set_option maxRecDepth 100000 in
theorem k10_37 : lk_ RX10 37 yX7_expect cX7_expect 2 none 1 := ⟨gw_t 390 rfl rfl, gw_t 391 rfl rfl, gw_t 392 rfl rfl, in7_, gw_t 393 rfl rfl, ⟨nhc2_.1, nhc2_.2, pdc13_⟩, by decide⟩
set_option maxRecDepth 100000 in
theorem k7_38 : lk_ RX7 38 yX7_peek cX7_peek 1 (some .int) 0 := ⟨gw_t 394 rfl rfl, gw_t 395 rfl rfl, gw_t 396 rfl rfl, in7_, gw_t 397 rfl rfl, ⟨nhc2_.1, nhc2_.2, pdc6_⟩, by decide⟩
set_option maxRecDepth 100000 in
theorem k10_41 : lk_ RX10 41 yX10_parameters cX10_parameters 2 (some .int) 0 := ⟨gw_t 398 rfl rfl, gw_t 400 rfl rfl, (gw_s (⟨"ProbeConsole$Texts", "parameters", "()I"⟩, 3) 0 rfl rfl), in10_, gw_t 401 rfl rfl, ⟨nhc3_.1, nhc3_.2, pdc6_⟩, by decide⟩
set_option maxRecDepth 100000 in
theorem k10_58 : lk_ RX10 58 yX7_peek cX7_peek 1 (some .int) 0 := ⟨gw_t 402 rfl rfl, gw_t 395 rfl rfl, gw_t 396 rfl rfl, in7_, gw_t 397 rfl rfl, ⟨nhc2_.1, nhc2_.2, pdc6_⟩, by decide⟩
set_option maxRecDepth 100000 in
theorem k10_65 : lk_ RX10 65 yX7_fail cX7_fail 3 none 2 := ⟨gw_t 403 rfl rfl, gw_t 387 rfl rfl, gw_t 388 rfl rfl, in7_, gw_t 389 rfl rfl, ⟨nhc2_.1, nhc2_.2, pdc4_⟩, by decide⟩
set_option maxRecDepth 100000 in
theorem k10_45 : lk_ RX10 45 yX1_read cX1_read 4 none 3 := ⟨gw_t 404 rfl rfl, gw_t 405 rfl rfl, gw_t 406 rfl rfl, in1_, gw_t 407 rfl rfl, ⟨nhc5_.1, nhc5_.2, pdc14_⟩, by decide⟩
set_option maxRecDepth 100000 in
theorem k1_34 : lk_ RX1 34 yX0_empty cX0_empty 1 none 0 := ⟨gw_t 408 rfl rfl, gw_t 409 rfl rfl, gw_t 410 rfl rfl, in0_, gw_t 411 rfl rfl, ⟨nhc4_.1, nhc4_.2, pdc0_⟩, by decide⟩
set_option maxRecDepth 100000 in
theorem k1_39 : lk_ RX1 39 yX1_expression cX1_expression 4 none 0 := ⟨gw_t 412 rfl rfl, gw_t 414 rfl rfl, (gw_s (⟨"ProbeConsole$Expressions", "expression", "()V"⟩, 7) 1 rfl rfl), in1_, gw_t 415 rfl rfl, ⟨nhc5_.1, nhc5_.2, pdc0_⟩, by decide⟩
set_option maxRecDepth 100000 in
theorem k1_45 : lk_ RX1 45 yX1_choice cX1_choice 3 none 0 := ⟨gw_t 416 rfl rfl, gw_t 418 rfl rfl, (gw_s (⟨"ProbeConsole$Expressions", "choice", "()V"⟩, 7) 2 rfl rfl), in1_, gw_t 419 rfl rfl, ⟨nhc5_.1, nhc5_.2, pdc0_⟩, by decide⟩
set_option maxRecDepth 100000 in
theorem k1_65 : lk_ RX1 65 yX1_joined cX1_joined 5 none 1 := ⟨gw_t 420 rfl rfl, gw_t 422 rfl rfl, (gw_s (⟨"ProbeConsole$Expressions", "joined", "(I)V"⟩, 7) 3 rfl rfl), in1_, gw_t 423 rfl rfl, ⟨nhc5_.1, nhc5_.2, pdc13_⟩, by decide⟩
set_option maxRecDepth 100000 in
theorem k1_75 : lk_ RX1 75 yX1_signed cX1_signed 2 none 0 := ⟨gw_t 424 rfl rfl, gw_t 426 rfl rfl, (gw_s (⟨"ProbeConsole$Expressions", "signed", "()V"⟩, 7) 4 rfl rfl), in1_, gw_t 427 rfl rfl, ⟨nhc5_.1, nhc5_.2, pdc0_⟩, by decide⟩
set_option maxRecDepth 100000 in
theorem k1_48 : lk_ RX1 48 yX7_peek cX7_peek 1 (some .int) 0 := ⟨gw_t 428 rfl rfl, gw_t 395 rfl rfl, gw_t 396 rfl rfl, in7_, gw_t 397 rfl rfl, ⟨nhc2_.1, nhc2_.2, pdc6_⟩, by decide⟩
set_option maxRecDepth 100000 in
theorem k1_81 : lk_ RX1 81 yX1_operand cX1_operand 3 none 0 := ⟨gw_t 429 rfl rfl, gw_t 431 rfl rfl, (gw_s (⟨"ProbeConsole$Expressions", "operand", "()V"⟩, 7) 5 rfl rfl), in1_, gw_t 432 rfl rfl, ⟨nhc5_.1, nhc5_.2, pdc0_⟩, by decide⟩
set_option maxRecDepth 100000 in
theorem k1_87 : ls_ RX1 87 yX7_isFigure cX7_isFigure 1 (some .boolean) 1 := ⟨gw_t 433 rfl rfl, gw_t 434 rfl rfl, in7_, gw_t 435 rfl rfl, ⟨nhc2_.1, nhc2_.2, pdc10_⟩, by decide⟩
set_option maxRecDepth 100000 in
theorem k1_94 : lk_ RX1 94 yX7_number cX7_number 6 (some .int) 1 := ⟨gw_t 437 rfl rfl, gw_t 438 rfl rfl, gw_t 439 rfl rfl, in7_, gw_t 440 rfl rfl, ⟨nhc2_.1, nhc2_.2, pdc9_⟩, by decide⟩
set_option maxRecDepth 100000 in
theorem k7_42 : ls_ RX7 42 yX7_isFigure cX7_isFigure 1 (some .boolean) 1 := ⟨gw_t 441 rfl rfl, gw_t 434 rfl rfl, in7_, gw_t 435 rfl rfl, ⟨nhc2_.1, nhc2_.2, pdc10_⟩, by decide⟩
set_option maxRecDepth 100000 in
theorem k1_97 : lk_ RX1 97 yX1_countNode cX1_countNode 2 none 1 := ⟨gw_t 448 rfl rfl, gw_t 450 rfl rfl, (gw_s (⟨"ProbeConsole$Expressions", "countNode", "(I)V"⟩, 7) 6 rfl rfl), in1_, gw_t 451 rfl rfl, ⟨nhc5_.1, nhc5_.2, pdc13_⟩, by decide⟩
set_option maxRecDepth 100000 in
theorem k1_125 : lk_ RX1 125 yX7_fail cX7_fail 3 none 2 := ⟨gw_t 452 rfl rfl, gw_t 387 rfl rfl, gw_t 388 rfl rfl, in7_, gw_t 389 rfl rfl, ⟨nhc2_.1, nhc2_.2, pdc4_⟩, by decide⟩
set_option maxRecDepth 100000 in
theorem k1_68 : lk_ RX1 68 yX0_add cX0_add 5 (some .int) 2 := ⟨gw_t 453 rfl rfl, gw_t 454 rfl rfl, gw_t 455 rfl rfl, in0_, gw_t 456 rfl rfl, ⟨nhc4_.1, nhc4_.2, pdc15_⟩, by decide⟩
set_option maxRecDepth 100000 in
theorem k0_30 : ls_ RX0 30 yX0_rise cX0_rise 1 (some .int) 1 := ⟨gw_t 457 rfl rfl, gw_t 458 rfl rfl, in0_, gw_t 459 rfl rfl, ⟨nhc4_.1, nhc4_.2, pdc9_⟩, by decide⟩
set_option maxRecDepth 100000 in
theorem k1_100 : ls_ RX1 100 yX7_isRowByte cX7_isRowByte 1 (some .boolean) 1 := ⟨gw_t 460 rfl rfl, gw_t 374 rfl rfl, in7_, gw_t 375 rfl rfl, ⟨nhc2_.1, nhc2_.2, pdc10_⟩, by decide⟩
set_option maxRecDepth 100000 in
theorem k1_103 : lk_ RX1 103 yX1_word cX1_word 1 none 0 := ⟨gw_t 461 rfl rfl, gw_t 463 rfl rfl, (gw_s (⟨"ProbeConsole$Expressions", "word", "()V"⟩, 7) 7 rfl rfl), in1_, gw_t 464 rfl rfl, ⟨nhc5_.1, nhc5_.2, pdc0_⟩, by decide⟩
set_option maxRecDepth 100000 in
theorem k1_110 : lk_ RX1 110 yX7_scanRow cX7_scanRow 4 none 0 := ⟨gw_t 465 rfl rfl, gw_t 366 rfl rfl, gw_t 367 rfl rfl, in7_, gw_t 368 rfl rfl, ⟨nhc2_.1, nhc2_.2, pdc0_⟩, by decide⟩
set_option maxRecDepth 100000 in
theorem k1_116 : lk_ RX1 116 yX1_invocation cX1_invocation 4 none 0 := ⟨gw_t 466 rfl rfl, gw_t 468 rfl rfl, (gw_s (⟨"ProbeConsole$Expressions", "invocation", "()V"⟩, 7) 8 rfl rfl), in1_, gw_t 469 rfl rfl, ⟨nhc5_.1, nhc5_.2, pdc0_⟩, by decide⟩
set_option maxRecDepth 100000 in
theorem k1_136 : lk_ RX1 136 yX7_takeName cX7_takeName 1 (some .long) 0 := ⟨gw_t 470 rfl rfl, gw_t 383 rfl rfl, gw_t 384 rfl rfl, in7_, gw_t 385 rfl rfl, ⟨nhc2_.1, nhc2_.2, pdc12_⟩, by decide⟩
set_option maxRecDepth 100000 in
theorem k1_106 : lk_ RX1 106 yX1_takeOpen cX1_takeOpen 1 (some .boolean) 0 := ⟨gw_t 471 rfl rfl, gw_t 473 rfl rfl, (gw_s (⟨"ProbeConsole$Expressions", "takeOpen", "()Z"⟩, 7) 9 rfl rfl), in1_, gw_t 474 rfl rfl, ⟨nhc5_.1, nhc5_.2, pdc16_⟩, by decide⟩
set_option maxRecDepth 100000 in
theorem k1_140 : lk_ RX1 140 yX1_arguments cX1_arguments 2 (some .int) 0 := ⟨gw_t 475 rfl rfl, gw_t 477 rfl rfl, (gw_s (⟨"ProbeConsole$Expressions", "arguments", "()I"⟩, 7) 10 rfl rfl), in1_, gw_t 478 rfl rfl, ⟨nhc5_.1, nhc5_.2, pdc6_⟩, by decide⟩
set_option maxRecDepth 100000 in
theorem k1_72 : lk_ RX1 72 yX7_expect cX7_expect 2 none 1 := ⟨gw_t 482 rfl rfl, gw_t 391 rfl rfl, gw_t 392 rfl rfl, in7_, gw_t 393 rfl rfl, ⟨nhc2_.1, nhc2_.2, pdc13_⟩, by decide⟩
set_option maxRecDepth 100000 in
theorem k1_143 : ls_ RX1 143 yX6_key cX6_key 3 (some .long) 2 := ⟨gw_t 483 rfl rfl, gw_t 484 rfl rfl, in6_, gw_t 485 rfl rfl, ⟨nhc11_.1, nhc11_.2, pdc17_⟩, by decide⟩
set_option maxRecDepth 100000 in
theorem k1_149 : lk_ RX1 149 yX0_addInvocation cX0_addInvocation 4 none 2 := ⟨gw_t 486 rfl rfl, gw_t 487 rfl rfl, gw_t 488 rfl rfl, in0_, gw_t 489 rfl rfl, ⟨nhc4_.1, nhc4_.2, pdc18_⟩, by decide⟩
set_option maxRecDepth 100000 in
theorem k0_34 : lk_ RX0 34 yX0_add cX0_add 5 (some .int) 2 := ⟨gw_t 490 rfl rfl, gw_t 454 rfl rfl, gw_t 455 rfl rfl, in0_, gw_t 456 rfl rfl, ⟨nhc4_.1, nhc4_.2, pdc15_⟩, by decide⟩
set_option maxRecDepth 100000 in
theorem k1_122 : lk_ RX1 122 yX1_variable cX1_variable 2 none 0 := ⟨gw_t 491 rfl rfl, gw_t 493 rfl rfl, (gw_s (⟨"ProbeConsole$Expressions", "variable", "()V"⟩, 7) 11 rfl rfl), in1_, gw_t 494 rfl rfl, ⟨nhc5_.1, nhc5_.2, pdc0_⟩, by decide⟩
set_option maxRecDepth 100000 in
theorem k1_131 : lk_ RX1 131 yJ0_indexOf_0f7a4 cJ0_indexOf_0f7a4 2 (some .int) 1 := ⟨gw_t 496 rfl rfl, gw_t 497 rfl rfl, gw_t 498 rfl rfl, gw_t 19 rfl rfl, gw_t 499 rfl rfl, ⟨nhc12_.1, nhc12_.2, pdc9_⟩, by decide⟩
set_option maxRecDepth 100000 in
theorem k1_54 : lk_ RX1 54 yX1_takeSign cX1_takeSign 2 (some .int) 0 := ⟨gw_t 580 rfl rfl, gw_t 582 rfl rfl, (gw_s (⟨"ProbeConsole$Expressions", "takeSign", "()I"⟩, 7) 12 rfl rfl), in1_, gw_t 583 rfl rfl, ⟨nhc5_.1, nhc5_.2, pdc6_⟩, by decide⟩
set_option maxRecDepth 100000 in
theorem k1_78 : ls_ RX1 78 yX1_kindOf cX1_kindOf 1 (some .int) 1 := ⟨gw_t 584 rfl rfl, gw_t 585 rfl rfl, in1_, gw_t 586 rfl rfl, ⟨nhc5_.1, nhc5_.2, pdc9_⟩, by decide⟩
set_option maxRecDepth 100000 in
theorem k1_61 : lk_ RX1 61 yX0_leadHere cX0_leadHere 2 none 1 := ⟨gw_t 587 rfl rfl, gw_t 588 rfl rfl, gw_t 589 rfl rfl, in0_, gw_t 590 rfl rfl, ⟨nhc4_.1, nhc4_.2, pdc13_⟩, by decide⟩
set_option maxRecDepth 100000 in
theorem k1_57 : lk_ RX1 57 yX0_addOrElse cX0_addOrElse 3 (some .int) 1 := ⟨gw_t 591 rfl rfl, gw_t 592 rfl rfl, gw_t 593 rfl rfl, in0_, gw_t 594 rfl rfl, ⟨nhc4_.1, nhc4_.2, pdc9_⟩, by decide⟩
set_option maxRecDepth 100000 in
theorem k10_49 : lk_ RX10 49 yX10_expectEnd cX10_expectEnd 1 none 0 := ⟨gw_t 595 rfl rfl, gw_t 597 rfl rfl, (gw_s (⟨"ProbeConsole$Texts", "expectEnd", "()V"⟩, 3) 13 rfl rfl), in10_, gw_t 598 rfl rfl, ⟨nhc3_.1, nhc3_.2, pdc0_⟩, by decide⟩
set_option maxRecDepth 100000 in
theorem k10_52 : ls_ RX10 52 yX6_key cX6_key 3 (some .long) 2 := ⟨gw_t 599 rfl rfl, gw_t 484 rfl rfl, in6_, gw_t 485 rfl rfl, ⟨nhc11_.1, nhc11_.2, pdc17_⟩, by decide⟩
set_option maxRecDepth 100000 in
theorem k11_88 : lk_ RX11 88 yX5_isFull cX5_isFull 1 (some .boolean) 0 := ⟨gw_t 600 rfl rfl, gw_t 601 rfl rfl, gw_t 602 rfl rfl, in5_, gw_t 603 rfl rfl, ⟨nhc6_.1, nhc6_.2, pdc16_⟩, by decide⟩
set_option maxRecDepth 100000 in
theorem k11_92 : lk_ RX11 92 yX5_find cX5_find 4 (some .int) 1 := ⟨gw_t 604 rfl rfl, gw_t 605 rfl rfl, gw_t 606 rfl rfl, in5_, gw_t 607 rfl rfl, ⟨nhc6_.1, nhc6_.2, pdc19_⟩, by decide⟩
set_option maxRecDepth 100000 in
theorem k11_96 : lk_ RX11 96 yX7_failAtEnd cX7_failAtEnd 1 none 0 := ⟨gw_t 608 rfl rfl, gw_t 609 rfl rfl, gw_t 610 rfl rfl, in7_, gw_t 611 rfl rfl, ⟨nhc2_.1, nhc2_.2, pdc0_⟩, by decide⟩
set_option maxRecDepth 100000 in
theorem k11_102 : lk_ RX11 102 yX5_add cX5_add 3 (some .int) 1 := ⟨gw_t 612 rfl rfl, gw_t 613 rfl rfl, gw_t 614 rfl rfl, in5_, gw_t 615 rfl rfl, ⟨nhc6_.1, nhc6_.2, pdc19_⟩, by decide⟩
set_option maxRecDepth 100000 in
theorem k5_40 : lk_ RX5 40 yX5_isFull cX5_isFull 1 (some .boolean) 0 := ⟨gw_t 616 rfl rfl, gw_t 601 rfl rfl, gw_t 602 rfl rfl, in5_, gw_t 603 rfl rfl, ⟨nhc6_.1, nhc6_.2, pdc16_⟩, by decide⟩
set_option maxRecDepth 100000 in
theorem k11_105 : lk_ RX11 105 yX3_meet cX3_meet 5 none 2 := ⟨gw_t 617 rfl rfl, gw_t 618 rfl rfl, gw_t 619 rfl rfl, in3_, gw_t 620 rfl rfl, ⟨nhc7_.1, nhc7_.2, pdc20_⟩, by decide⟩
set_option maxRecDepth 100000 in
theorem k3_36 : lk_ RX3 36 yX2_meet cX2_meet 4 none 2 := ⟨gw_t 621 rfl rfl, gw_t 622 rfl rfl, gw_t 623 rfl rfl, in2_, gw_t 624 rfl rfl, ⟨nhc8_.1, nhc8_.2, pdc20_⟩, by decide⟩
set_option maxRecDepth 100000 in
theorem k2_52 : ls_ RX2 52 yX6_fits cX6_fits 8 (some .boolean) 2 := ⟨gw_t 625 rfl rfl, gw_t 626 rfl rfl, in6_, gw_t 627 rfl rfl, ⟨nhc11_.1, nhc11_.2, pdc21_⟩, by decide⟩
set_option maxRecDepth 100000 in
theorem k6_9 : ls_ RX6 9 yX6_pastStars cX6_pastStars 5 (some .int) 2 := ⟨gw_t 628 rfl rfl, gw_t 629 rfl rfl, in6_, gw_t 630 rfl rfl, ⟨nhc11_.1, nhc11_.2, pdc22_⟩, by decide⟩
set_option maxRecDepth 100000 in
theorem k6_13 : ls_ RX6 13 yX6_signAt cX6_signAt 3 (some .int) 2 := ⟨gw_t 631 rfl rfl, gw_t 632 rfl rfl, in6_, gw_t 633 rfl rfl, ⟨nhc11_.1, nhc11_.2, pdc22_⟩, by decide⟩
set_option maxRecDepth 100000 in
theorem k6_16 : ls_ RX6 16 yX6_pastSign cX6_pastSign 7 (some .int) 3 := ⟨gw_t 634 rfl rfl, gw_t 635 rfl rfl, in6_, gw_t 636 rfl rfl, ⟨nhc11_.1, nhc11_.2, pdc23_⟩, by decide⟩
set_option maxRecDepth 100000 in
theorem kL_60 : lk_ RL 60 yX11_command cX11_command 3 (some .int) 0 := ⟨gw_t 638 rfl rfl, gw_t 639 rfl rfl, gw_t 640 rfl rfl, in11_, gw_t 641 rfl rfl, ⟨nhc0_.1, nhc0_.2, pdc6_⟩, by decide⟩
set_option maxRecDepth 100000 in
theorem k11_113 : lk_ RX11 113 yX10_readCommand cX10_readCommand 3 (some .int) 1 := ⟨gw_t 642 rfl rfl, gw_t 643 rfl rfl, gw_t 644 rfl rfl, in10_, gw_t 645 rfl rfl, ⟨nhc3_.1, nhc3_.2, pdc24_⟩, by decide⟩
set_option maxRecDepth 100000 in
theorem k10_69 : lk_ RX10 69 yX7_skipBlanks cX7_skipBlanks 2 none 0 := ⟨gw_t 646 rfl rfl, gw_t 647 rfl rfl, gw_t 648 rfl rfl, in7_, gw_t 649 rfl rfl, ⟨nhc2_.1, nhc2_.2, pdc0_⟩, by decide⟩
set_option maxRecDepth 100000 in
theorem k7_89 : ls_ RX7 89 yX7_isBlank cX7_isBlank 1 (some .boolean) 1 := ⟨gw_t 650 rfl rfl, gw_t 651 rfl rfl, in7_, gw_t 652 rfl rfl, ⟨nhc2_.1, nhc2_.2, pdc10_⟩, by decide⟩
set_option maxRecDepth 100000 in
theorem k10_72 : lk_ RX10 72 yX2_renew cX2_renew 1 none 0 := ⟨gw_t 653 rfl rfl, gw_t 654 rfl rfl, gw_t 655 rfl rfl, in2_, gw_t 656 rfl rfl, ⟨nhc8_.1, nhc8_.2, pdc0_⟩, by decide⟩
set_option maxRecDepth 100000 in
theorem k2_42 : ls_ RX2 42 yJ7_fill_53178 cJ7_fill_53178 4 none 2 := ⟨gw_t 657 rfl rfl, gw_t 658 rfl rfl, gw_t 24 rfl rfl, gw_t 659 rfl rfl, ⟨nhc13_.1, nhc13_.2, pdc25_⟩, by decide⟩
set_option maxRecDepth 100000 in
theorem k10_77 : lk_ RX10 77 yX10_verb cX10_verb 1 (some .int) 0 := ⟨gw_t 660 rfl rfl, gw_t 662 rfl rfl, (gw_s (⟨"ProbeConsole$Texts", "verb", "()I"⟩, 3) 14 rfl rfl), in10_, gw_t 663 rfl rfl, ⟨nhc3_.1, nhc3_.2, pdc6_⟩, by decide⟩
set_option maxRecDepth 100000 in
theorem k10_104 : lk_ RX10 104 yX7_takes cX7_takes 3 (some .boolean) 1 := ⟨gw_t 665 rfl rfl, gw_t 666 rfl rfl, gw_t 667 rfl rfl, in7_, gw_t 668 rfl rfl, ⟨nhc2_.1, nhc2_.2, pdc26_⟩, by decide⟩
set_option maxRecDepth 100000 in
theorem k7_81 : lk_ RX7 81 yJ0_length_8abf5 cJ0_length_8abf5 1 (some .int) 0 := ⟨gw_t 669 rfl rfl, gw_t 511 rfl rfl, gw_t 512 rfl rfl, gw_t 19 rfl rfl, gw_t 513 rfl rfl, ⟨nhc12_.1, nhc12_.2, pdc6_⟩, by decide⟩
set_option maxRecDepth 100000 in
theorem k7_85 : lk_ RX7 85 yJ0_charAt_5068e cJ0_charAt_5068e 2 (some .char) 1 := ⟨gw_t 670 rfl rfl, gw_t 671 rfl rfl, gw_t 672 rfl rfl, gw_t 19 rfl rfl, gw_t 673 rfl rfl, ⟨nhc12_.1, nhc12_.2, pdc27_⟩, by decide⟩
set_option maxRecDepth 100000 in
theorem k7_92 : lk_ RX7 92 yX7_skipBlanks cX7_skipBlanks 2 none 0 := ⟨gw_t 690 rfl rfl, gw_t 647 rfl rfl, gw_t 648 rfl rfl, in7_, gw_t 649 rfl rfl, ⟨nhc2_.1, nhc2_.2, pdc0_⟩, by decide⟩
set_option maxRecDepth 100000 in
theorem k10_80 : lk_ RX10 80 yX7_number cX7_number 6 (some .int) 1 := ⟨gw_t 695 rfl rfl, gw_t 438 rfl rfl, gw_t 439 rfl rfl, in7_, gw_t 440 rfl rfl, ⟨nhc2_.1, nhc2_.2, pdc9_⟩, by decide⟩
set_option maxRecDepth 100000 in
theorem k10_86 : lk_ RX10 86 yX7_endWord cX7_endWord 1 none 0 := ⟨gw_t 696 rfl rfl, gw_t 697 rfl rfl, gw_t 698 rfl rfl, in7_, gw_t 699 rfl rfl, ⟨nhc2_.1, nhc2_.2, pdc0_⟩, by decide⟩
set_option maxRecDepth 100000 in
theorem k10_89 : lk_ RX10 89 yX10_readWatch cX10_readWatch 2 none 1 := ⟨gw_t 700 rfl rfl, gw_t 702 rfl rfl, (gw_s (⟨"ProbeConsole$Texts", "readWatch", "(LProbeConsole$Job;)V"⟩, 3) 15 rfl rfl), in10_, gw_t 703 rfl rfl, ⟨nhc3_.1, nhc3_.2, pdc28_⟩, by decide⟩
set_option maxRecDepth 100000 in
theorem k10_116 : lk_ RX10 116 yX10_point cX10_point 1 (some .int) 0 := ⟨gw_t 704 rfl rfl, gw_t 706 rfl rfl, (gw_s (⟨"ProbeConsole$Texts", "point", "()I"⟩, 3) 16 rfl rfl), in10_, gw_t 707 rfl rfl, ⟨nhc3_.1, nhc3_.2, pdc6_⟩, by decide⟩
set_option maxRecDepth 100000 in
theorem k10_93 : lk_ RX10 93 yX10_pattern cX10_pattern 4 (some .long) 0 := ⟨gw_t 711 rfl rfl, gw_t 713 rfl rfl, (gw_s (⟨"ProbeConsole$Texts", "pattern", "()J"⟩, 3) 17 rfl rfl), in10_, gw_t 714 rfl rfl, ⟨nhc3_.1, nhc3_.2, pdc12_⟩, by decide⟩
set_option maxRecDepth 100000 in
theorem k10_152 : ls_ RX10 152 yX6_sign cX6_sign 1 (some .int) 1 := ⟨gw_t 715 rfl rfl, gw_t 377 rfl rfl, in6_, gw_t 378 rfl rfl, ⟨nhc11_.1, nhc11_.2, pdc9_⟩, by decide⟩
set_option maxRecDepth 100000 in
theorem k10_155 : ls_ RX10 155 yX6_with cX6_with 4 (some .long) 3 := ⟨gw_t 716 rfl rfl, gw_t 380 rfl rfl, in6_, gw_t 381 rfl rfl, ⟨nhc11_.1, nhc11_.2, pdc11_⟩, by decide⟩
set_option maxRecDepth 100000 in
theorem k10_127 : lk_ RX10 127 yJ0_length_8abf5 cJ0_length_8abf5 1 (some .int) 0 := ⟨gw_t 718 rfl rfl, gw_t 511 rfl rfl, gw_t 512 rfl rfl, gw_t 19 rfl rfl, gw_t 513 rfl rfl, ⟨nhc12_.1, nhc12_.2, pdc6_⟩, by decide⟩
set_option maxRecDepth 100000 in
theorem k10_141 : lk_ RX10 141 yX10_limit cX10_limit 3 (some .int) 0 := ⟨gw_t 719 rfl rfl, gw_t 721 rfl rfl, (gw_s (⟨"ProbeConsole$Texts", "limit", "()I"⟩, 3) 18 rfl rfl), in10_, gw_t 722 rfl rfl, ⟨nhc3_.1, nhc3_.2, pdc6_⟩, by decide⟩
set_option maxRecDepth 100000 in
theorem k11_117 : lk_ RX11 117 yX3_endAll cX3_endAll 3 (some .int) 0 := ⟨gw_t 723 rfl rfl, gw_t 724 rfl rfl, gw_t 725 rfl rfl, in3_, gw_t 726 rfl rfl, ⟨nhc7_.1, nhc7_.2, pdc6_⟩, by decide⟩
set_option maxRecDepth 100000 in
theorem k11_124 : lk_ RX11 124 yX3_ended cX3_ended 2 (some .int) 1 := ⟨gw_t 727 rfl rfl, gw_t 728 rfl rfl, gw_t 729 rfl rfl, in3_, gw_t 730 rfl rfl, ⟨nhc7_.1, nhc7_.2, pdc9_⟩, by decide⟩
set_option maxRecDepth 100000 in
theorem k3_40 : lk_ RX3 40 yX3_has cX3_has 2 (some .boolean) 1 := ⟨gw_t 731 rfl rfl, gw_t 732 rfl rfl, gw_t 733 rfl rfl, in3_, gw_t 734 rfl rfl, ⟨nhc7_.1, nhc7_.2, pdc10_⟩, by decide⟩
set_option maxRecDepth 100000 in
theorem k11_128 : lk_ RX11 128 yX3_begun cX3_begun 5 (some .int) 1 := ⟨gw_t 735 rfl rfl, gw_t 736 rfl rfl, gw_t 737 rfl rfl, in3_, gw_t 738 rfl rfl, ⟨nhc7_.1, nhc7_.2, pdc29_⟩, by decide⟩
set_option maxRecDepth 100000 in
theorem k3_26 : lk_ RX3 26 yX5_size cX5_size 1 (some .int) 0 := ⟨gw_t 739 rfl rfl, gw_t 740 rfl rfl, gw_t 741 rfl rfl, in5_, gw_t 742 rfl rfl, ⟨nhc6_.1, nhc6_.2, pdc6_⟩, by decide⟩
set_option maxRecDepth 100000 in
theorem k3_32 : lk_ RX3 32 yX5_keyOf cX5_keyOf 2 (some .long) 1 := ⟨gw_t 743 rfl rfl, gw_t 744 rfl rfl, gw_t 745 rfl rfl, in5_, gw_t 746 rfl rfl, ⟨nhc6_.1, nhc6_.2, pdc30_⟩, by decide⟩
set_option maxRecDepth 100000 in
theorem k5_26 : lk_ RX5 26 yX5_has cX5_has 2 (some .boolean) 1 := ⟨gw_t 747 rfl rfl, gw_t 748 rfl rfl, gw_t 749 rfl rfl, in5_, gw_t 750 rfl rfl, ⟨nhc6_.1, nhc6_.2, pdc10_⟩, by decide⟩
set_option maxRecDepth 100000 in
theorem kL_64 : lk_ RL 64 yX11_fault cX11_fault 1 (some .int) 0 := ⟨gw_t 751 rfl rfl, gw_t 752 rfl rfl, gw_t 753 rfl rfl, in11_, gw_t 754 rfl rfl, ⟨nhc0_.1, nhc0_.2, pdc6_⟩, by decide⟩
set_option maxRecDepth 100000 in
theorem kL_68 : lk_ RL 68 yX11_place cX11_place 1 (some .int) 0 := ⟨gw_t 755 rfl rfl, gw_t 756 rfl rfl, gw_t 757 rfl rfl, in11_, gw_t 758 rfl rfl, ⟨nhc0_.1, nhc0_.2, pdc6_⟩, by decide⟩
set_option maxRecDepth 100000 in
theorem kL_76 : lk_ RL 76 yX11_value cX11_value 1 (some .int) 0 := ⟨gw_t 759 rfl rfl, gw_t 760 rfl rfl, gw_t 761 rfl rfl, in11_, gw_t 762 rfl rfl, ⟨nhc0_.1, nhc0_.2, pdc6_⟩, by decide⟩
set_option maxRecDepth 100000 in
theorem kL_80 : lk_ RL 80 yX11_invoked cX11_invoked 1 (some .int) 0 := ⟨gw_t 763 rfl rfl, gw_t 764 rfl rfl, gw_t 765 rfl rfl, in11_, gw_t 766 rfl rfl, ⟨nhc0_.1, nhc0_.2, pdc6_⟩, by decide⟩
set_option maxRecDepth 100000 in
theorem kL_84 : lk_ RL 84 yX11_records cX11_records 1 (some .int) 0 := ⟨gw_t 767 rfl rfl, gw_t 768 rfl rfl, gw_t 769 rfl rfl, in11_, gw_t 770 rfl rfl, ⟨nhc0_.1, nhc0_.2, pdc6_⟩, by decide⟩
set_option maxRecDepth 100000 in
theorem kL_92 : lk_ RL 92 yX11_clear cX11_clear 2 (some .int) 0 := ⟨gw_t 771 rfl rfl, gw_t 772 rfl rfl, gw_t 773 rfl rfl, in11_, gw_t 774 rfl rfl, ⟨nhc0_.1, nhc0_.2, pdc6_⟩, by decide⟩
set_option maxRecDepth 100000 in
theorem kL_103 : lk_ RL 103 yX11_keeps cX11_keeps 1 (some .int) 0 := ⟨gw_t 775 rfl rfl, gw_t 776 rfl rfl, gw_t 777 rfl rfl, in11_, gw_t 778 rfl rfl, ⟨nhc0_.1, nhc0_.2, pdc6_⟩, by decide⟩
set_option maxRecDepth 100000 in
theorem kL_7 : lk_ RL 7 yX11_feed cX11_feed 5 (some .int) 2 := ⟨gw_t 783 rfl rfl, gw_t 784 rfl rfl, gw_t 785 rfl rfl, in11_, gw_t 786 rfl rfl, ⟨nhc0_.1, nhc0_.2, pdc15_⟩, by decide⟩
set_option maxRecDepth 100000 in
theorem k11_76 : lk_ RX11 76 yX9_append cX9_append 2 none 1 := ⟨gw_t 849 rfl rfl, gw_t 850 rfl rfl, gw_t 851 rfl rfl, in9_, gw_t 852 rfl rfl, ⟨nhc1_.1, nhc1_.2, pdc13_⟩, by decide⟩
set_option maxRecDepth 100000 in
theorem kL_15 : lk_ RL 15 yX11_call cX11_call 5 (some .int) 4 := ⟨gw_t 857 rfl rfl, gw_t 858 rfl rfl, gw_t 859 rfl rfl, in11_, gw_t 860 rfl rfl, ⟨nhc0_.1, nhc0_.2, pdc31_⟩, by decide⟩
set_option maxRecDepth 100000 in
theorem k11_135 : lk_ RX11 135 yX5_has cX5_has 2 (some .boolean) 1 := ⟨gw_t 861 rfl rfl, gw_t 748 rfl rfl, gw_t 749 rfl rfl, in5_, gw_t 750 rfl rfl, ⟨nhc6_.1, nhc6_.2, pdc10_⟩, by decide⟩
set_option maxRecDepth 100000 in
theorem k11_142 : lk_ RX11 142 yX5_parametersOf cX5_parametersOf 2 (some .int) 1 := ⟨gw_t 877 rfl rfl, gw_t 878 rfl rfl, gw_t 879 rfl rfl, in5_, gw_t 880 rfl rfl, ⟨nhc6_.1, nhc6_.2, pdc9_⟩, by decide⟩
set_option maxRecDepth 100000 in
theorem k5_30 : lk_ RX5 30 yX5_keyOf cX5_keyOf 2 (some .long) 1 := ⟨gw_t 881 rfl rfl, gw_t 744 rfl rfl, gw_t 745 rfl rfl, in5_, gw_t 746 rfl rfl, ⟨nhc6_.1, nhc6_.2, pdc30_⟩, by decide⟩
set_option maxRecDepth 100000 in
theorem k5_34 : ls_ RX5 34 yX6_parametersOf cX6_parametersOf 2 (some .int) 1 := ⟨gw_t 882 rfl rfl, gw_t 883 rfl rfl, in6_, gw_t 884 rfl rfl, ⟨nhc11_.1, nhc11_.2, pdc19_⟩, by decide⟩
set_option maxRecDepth 100000 in
theorem k11_145 : lk_ RX11 145 yX4_setParameters cX4_setParameters 6 none 4 := ⟨gw_t 885 rfl rfl, gw_t 886 rfl rfl, gw_t 887 rfl rfl, in4_, gw_t 888 rfl rfl, ⟨nhc10_.1, nhc10_.2, pdc32_⟩, by decide⟩
set_option maxRecDepth 100000 in
theorem k11_149 : lk_ RX11 149 yX4_start cX4_start 3 (some .int) 2 := ⟨gw_t 889 rfl rfl, gw_t 890 rfl rfl, gw_t 891 rfl rfl, in4_, gw_t 892 rfl rfl, ⟨nhc10_.1, nhc10_.2, pdc33_⟩, by decide⟩
set_option maxRecDepth 100000 in
theorem k4_51 : lk_ RX4 51 yX4_invoke cX4_invoke 6 (some .int) 2 := ⟨gw_t 893 rfl rfl, gw_t 895 rfl rfl, (gw_s (⟨"ProbeConsole$Machine", "invoke", "(II)I"⟩, 13) 20 rfl rfl), in4_, gw_t 896 rfl rfl, ⟨nhc10_.1, nhc10_.2, pdc34_⟩, by decide⟩
set_option maxRecDepth 100000 in
theorem k4_63 : lk_ RX4 63 yX4_probe cX4_probe 6 none 3 := ⟨gw_t 897 rfl rfl, gw_t 899 rfl rfl, (gw_s (⟨"ProbeConsole$Machine", "probe", "(II[I)V"⟩, 13) 21 rfl rfl), in4_, gw_t 900 rfl rfl, ⟨nhc10_.1, nhc10_.2, pdc35_⟩, by decide⟩
set_option maxRecDepth 100000 in
theorem k4_141 : lk_ RX4 141 yX3_at cX3_at 2 (some (.object "ProbeConsole$Job")) 1 := ⟨gw_t 901 rfl rfl, gw_t 902 rfl rfl, gw_t 903 rfl rfl, in3_, gw_t 904 rfl rfl, ⟨nhc7_.1, nhc7_.2, pdc36_⟩, by decide⟩
set_option maxRecDepth 100000 in
theorem k4_145 : lk_ RX4 145 yX2_sees cX2_sees 2 (some .boolean) 1 := ⟨gw_t 905 rfl rfl, gw_t 906 rfl rfl, gw_t 907 rfl rfl, in2_, gw_t 908 rfl rfl, ⟨nhc8_.1, nhc8_.2, pdc10_⟩, by decide⟩
set_option maxRecDepth 100000 in
theorem k4_155 : lk_ RX4 155 yX4_keep cX4_keep 6 none 4 := ⟨gw_t 909 rfl rfl, gw_t 911 rfl rfl, (gw_s (⟨"ProbeConsole$Machine", "keep", "(III[I)V"⟩, 13) 22 rfl rfl), in4_, gw_t 912 rfl rfl, ⟨nhc10_.1, nhc10_.2, pdc37_⟩, by decide⟩
set_option maxRecDepth 100000 in
theorem k4_181 : lk_ RX4 181 yX8_isFull cX8_isFull 1 (some .boolean) 0 := ⟨gw_t 913 rfl rfl, gw_t 914 rfl rfl, gw_t 915 rfl rfl, in8_, gw_t 916 rfl rfl, ⟨nhc9_.1, nhc9_.2, pdc16_⟩, by decide⟩
set_option maxRecDepth 100000 in
theorem k4_187 : lk_ RX4 187 yX8_put cX8_put 4 none 2 := ⟨gw_t 917 rfl rfl, gw_t 918 rfl rfl, gw_t 919 rfl rfl, in8_, gw_t 920 rfl rfl, ⟨nhc9_.1, nhc9_.2, pdc4_⟩, by decide⟩
set_option maxRecDepth 100000 in
theorem k4_191 : lk_ RX4 191 yX8_endRow cX8_endRow 1 none 0 := ⟨gw_t 921 rfl rfl, gw_t 922 rfl rfl, gw_t 923 rfl rfl, in8_, gw_t 924 rfl rfl, ⟨nhc9_.1, nhc9_.2, pdc0_⟩, by decide⟩
set_option maxRecDepth 100000 in
theorem k4_162 : lk_ RX4 162 yX4_watch cX4_watch 6 none 3 := ⟨gw_t 925 rfl rfl, gw_t 927 rfl rfl, (gw_s (⟨"ProbeConsole$Machine", "watch", "(II[I)V"⟩, 13) 23 rfl rfl), in4_, gw_t 928 rfl rfl, ⟨nhc10_.1, nhc10_.2, pdc35_⟩, by decide⟩
set_option maxRecDepth 100000 in
theorem k4_73 : lk_ RX4 73 yX4_run cX4_run 7 (some .int) 2 := ⟨gw_t 929 rfl rfl, gw_t 931 rfl rfl, (gw_s (⟨"ProbeConsole$Machine", "run", "(LProbeConsole$Code;[I)I"⟩, 13) 24 rfl rfl), in4_, gw_t 932 rfl rfl, ⟨nhc10_.1, nhc10_.2, pdc38_⟩, by decide⟩
set_option maxRecDepth 100000 in
theorem k4_80 : lk_ RX4 80 yX4_step cX4_step 9 (some .int) 3 := ⟨gw_t 933 rfl rfl, gw_t 935 rfl rfl, (gw_s (⟨"ProbeConsole$Machine", "step", "(LProbeConsole$Code;I[I)I"⟩, 13) 25 rfl rfl), in4_, gw_t 936 rfl rfl, ⟨nhc10_.1, nhc10_.2, pdc39_⟩, by decide⟩
set_option maxRecDepth 100000 in
theorem k4_102 : lk_ RX4 102 yX4_push cX4_push 2 none 1 := ⟨gw_t 937 rfl rfl, gw_t 939 rfl rfl, (gw_s (⟨"ProbeConsole$Machine", "push", "(I)V"⟩, 13) 26 rfl rfl), in4_, gw_t 940 rfl rfl, ⟨nhc10_.1, nhc10_.2, pdc13_⟩, by decide⟩
set_option maxRecDepth 100000 in
theorem k4_91 : lk_ RX4 91 yX4_pop cX4_pop 1 (some .int) 0 := ⟨gw_t 942 rfl rfl, gw_t 944 rfl rfl, (gw_s (⟨"ProbeConsole$Machine", "pop", "()I"⟩, 13) 27 rfl rfl), in4_, gw_t 945 rfl rfl, ⟨nhc10_.1, nhc10_.2, pdc6_⟩, by decide⟩
set_option maxRecDepth 100000 in
theorem k4_108 : lk_ RX4 108 yX4_fail cX4_fail 2 none 1 := ⟨gw_t 946 rfl rfl, gw_t 948 rfl rfl, (gw_s (⟨"ProbeConsole$Machine", "fail", "(I)V"⟩, 13) 28 rfl rfl), in4_, gw_t 949 rfl rfl, ⟨nhc10_.1, nhc10_.2, pdc13_⟩, by decide⟩
set_option maxRecDepth 100000 in
theorem k4_111 : lk_ RX4 111 yX4_invokeNamed cX4_invokeNamed 8 none 2 := ⟨gw_t 950 rfl rfl, gw_t 952 rfl rfl, (gw_s (⟨"ProbeConsole$Machine", "invokeNamed", "(JI)V"⟩, 13) 29 rfl rfl), in4_, gw_t 953 rfl rfl, ⟨nhc10_.1, nhc10_.2, pdc18_⟩, by decide⟩
set_option maxRecDepth 100000 in
theorem k4_130 : ls_ RX4 130 yX6_parametersOf cX6_parametersOf 2 (some .int) 1 := ⟨gw_t 955 rfl rfl, gw_t 883 rfl rfl, in6_, gw_t 884 rfl rfl, ⟨nhc11_.1, nhc11_.2, pdc19_⟩, by decide⟩
set_option maxRecDepth 100000 in
theorem k4_136 : lk_ RX4 136 yX5_find cX5_find 4 (some .int) 1 := ⟨gw_t 956 rfl rfl, gw_t 605 rfl rfl, gw_t 606 rfl rfl, in5_, gw_t 607 rfl rfl, ⟨nhc6_.1, nhc6_.2, pdc19_⟩, by decide⟩
set_option maxRecDepth 100000 in
theorem k4_115 : ls_ RX4 115 yX4_joined cX4_joined 3 (some .int) 3 := ⟨gw_t 957 rfl rfl, gw_t 958 rfl rfl, in4_, gw_t 959 rfl rfl, ⟨nhc10_.1, nhc10_.2, pdc40_⟩, by decide⟩
set_option maxRecDepth 100000 in
theorem k4_84 : lk_ RX4 84 yX4_behindThrow cX4_behindThrow 6 (some .int) 3 := ⟨gw_t 960 rfl rfl, gw_t 962 rfl rfl, (gw_s (⟨"ProbeConsole$Machine", "behindThrow", "(LProbeConsole$Code;II)I"⟩, 13) 30 rfl rfl), in4_, gw_t 963 rfl rfl, ⟨nhc10_.1, nhc10_.2, pdc41_⟩, by decide⟩
set_option maxRecDepth 100000 in
theorem k4_119 : lk_ RX4 119 yX0_behindThrow cX0_behindThrow 3 (some .int) 1 := ⟨gw_t 964 rfl rfl, gw_t 965 rfl rfl, gw_t 966 rfl rfl, in0_, gw_t 967 rfl rfl, ⟨nhc4_.1, nhc4_.2, pdc9_⟩, by decide⟩
set_option maxRecDepth 100000 in
theorem k4_178 : lk_ RX4 178 yX2_countRecord cX2_countRecord 1 none 0 := ⟨gw_t 968 rfl rfl, gw_t 969 rfl rfl, gw_t 970 rfl rfl, in2_, gw_t 971 rfl rfl, ⟨nhc8_.1, nhc8_.2, pdc0_⟩, by decide⟩
set_option maxRecDepth 100000 in
theorem k4_67 : lk_ RX4 67 yX5_body cX5_body 2 (some (.object "ProbeConsole$Code")) 1 := ⟨gw_t 972 rfl rfl, gw_t 973 rfl rfl, gw_t 974 rfl rfl, in5_, gw_t 975 rfl rfl, ⟨nhc6_.1, nhc6_.2, pdc42_⟩, by decide⟩
set_option maxRecDepth 100000 in
theorem kL_21 : lk_ RL 21 yX11_record cX11_record 3 (some .int) 2 := ⟨gw_t 979 rfl rfl, gw_t 980 rfl rfl, gw_t 981 rfl rfl, in11_, gw_t 982 rfl rfl, ⟨nhc0_.1, nhc0_.2, pdc34_⟩, by decide⟩
set_option maxRecDepth 100000 in
theorem k11_162 : lk_ RX11 162 yX8_has cX8_has 2 (some .boolean) 1 := ⟨gw_t 983 rfl rfl, gw_t 984 rfl rfl, gw_t 985 rfl rfl, in8_, gw_t 986 rfl rfl, ⟨nhc9_.1, nhc9_.2, pdc10_⟩, by decide⟩
set_option maxRecDepth 100000 in
theorem k11_163 : lk_ RX11 163 yX8_cell cX8_cell 4 (some .int) 2 := ⟨gw_t 987 rfl rfl, gw_t 988 rfl rfl, gw_t 989 rfl rfl, in8_, gw_t 990 rfl rfl, ⟨nhc9_.1, nhc9_.2, pdc34_⟩, by decide⟩
set_option maxRecDepth 100000 in
theorem kL_25 : lk_ RL 25 yX11_job cX11_job 3 (some .int) 2 := ⟨gw_t 994 rfl rfl, gw_t 995 rfl rfl, gw_t 996 rfl rfl, in11_, gw_t 997 rfl rfl, ⟨nhc0_.1, nhc0_.2, pdc34_⟩, by decide⟩
set_option maxRecDepth 100000 in
theorem k11_167 : lk_ RX11 167 yX3_at cX3_at 2 (some (.object "ProbeConsole$Job")) 1 := ⟨gw_t 998 rfl rfl, gw_t 902 rfl rfl, gw_t 903 rfl rfl, in3_, gw_t 904 rfl rfl, ⟨nhc7_.1, nhc7_.2, pdc36_⟩, by decide⟩
set_option maxRecDepth 100000 in
theorem k11_176 : lk_ RX11 176 yX2_left cX2_left 1 (some .int) 0 := ⟨gw_t 999 rfl rfl, gw_t 1000 rfl rfl, gw_t 1001 rfl rfl, in2_, gw_t 1002 rfl rfl, ⟨nhc8_.1, nhc8_.2, pdc6_⟩, by decide⟩
set_option maxRecDepth 100000 in
theorem kL_28 : lk_ RL 28 yX11_counted cX11_counted 4 (some .int) 3 := ⟨gw_t 1006 rfl rfl, gw_t 1007 rfl rfl, gw_t 1008 rfl rfl, in11_, gw_t 1009 rfl rfl, ⟨nhc0_.1, nhc0_.2, pdc40_⟩, by decide⟩
set_option maxRecDepth 100000 in
theorem k11_179 : lk_ RX11 179 yX3_has cX3_has 2 (some .boolean) 1 := ⟨gw_t 1010 rfl rfl, gw_t 732 rfl rfl, gw_t 733 rfl rfl, in3_, gw_t 734 rfl rfl, ⟨nhc7_.1, nhc7_.2, pdc10_⟩, by decide⟩
set_option maxRecDepth 100000 in
theorem kL_32 : lk_ RL 32 yX11_kept cX11_kept 3 (some .int) 2 := ⟨gw_t 1014 rfl rfl, gw_t 1015 rfl rfl, gw_t 1016 rfl rfl, in11_, gw_t 1017 rfl rfl, ⟨nhc0_.1, nhc0_.2, pdc34_⟩, by decide⟩
set_option maxRecDepth 100000 in
theorem kL_35 : lk_ RL 35 yX11_replay cX11_replay 3 (some .int) 1 := ⟨gw_t 1021 rfl rfl, gw_t 1022 rfl rfl, gw_t 1023 rfl rfl, in11_, gw_t 1024 rfl rfl, ⟨nhc0_.1, nhc0_.2, pdc9_⟩, by decide⟩
set_option maxRecDepth 100000 in
theorem kL_42 : li_ RL 42 yX12_init cX12_init 1 0 := ⟨gw_t 1027 rfl rfl, gw_t 1028 rfl rfl, in12_, gw_t 1029 rfl rfl, rfl, ⟨nhc14_.1, nhc14_.2, pdc0_⟩, by decide⟩
set_option maxRecDepth 100000 in
theorem kL_114 : lk_ RL 114 yX12_thrown cX12_thrown 1 (some .int) 0 := ⟨gw_t 1213 rfl rfl, gw_t 1214 rfl rfl, gw_t 1215 rfl rfl, in12_, gw_t 1216 rfl rfl, ⟨nhc14_.1, nhc14_.2, pdc6_⟩, by decide⟩
set_option maxRecDepth 100000 in
theorem kL_50 : lk_ RL 50 yX12_feed cX12_feed 5 (some .int) 2 := ⟨gw_t 1217 rfl rfl, gw_t 1218 rfl rfl, gw_t 1219 rfl rfl, in12_, gw_t 1220 rfl rfl, ⟨nhc14_.1, nhc14_.2, pdc15_⟩, by decide⟩
set_option maxRecDepth 100000 in
theorem kL_55 : lk_ RL 55 yX12_wipe cX12_wipe 2 (some .int) 0 := ⟨gw_t 1222 rfl rfl, gw_t 1223 rfl rfl, gw_t 1224 rfl rfl, in12_, gw_t 1225 rfl rfl, ⟨nhc14_.1, nhc14_.2, pdc6_⟩, by decide⟩
set_option maxRecDepth 100000 in
theorem kL_59 : lk_ RL 59 yX12_method cX12_method 5 (some .int) 0 := ⟨gw_t 1226 rfl rfl, gw_t 1227 rfl rfl, gw_t 1228 rfl rfl, in12_, gw_t 1229 rfl rfl, ⟨nhc14_.1, nhc14_.2, pdc6_⟩, by decide⟩
set_option maxRecDepth 100000 in
theorem kL_63 : lk_ RL 63 yX12_command cX12_command 16 (some .int) 0 := ⟨gw_t 1366 rfl rfl, gw_t 1367 rfl rfl, gw_t 1368 rfl rfl, in12_, gw_t 1369 rfl rfl, ⟨nhc14_.1, nhc14_.2, pdc6_⟩, by decide⟩
set_option maxRecDepth 100000 in
theorem kL_67 : lk_ RL 67 yX12_fault cX12_fault 1 (some .int) 0 := ⟨gw_t 1430 rfl rfl, gw_t 1431 rfl rfl, gw_t 1432 rfl rfl, in12_, gw_t 1433 rfl rfl, ⟨nhc14_.1, nhc14_.2, pdc6_⟩, by decide⟩
set_option maxRecDepth 100000 in
theorem kL_71 : lk_ RL 71 yX12_place cX12_place 1 (some .int) 0 := ⟨gw_t 1434 rfl rfl, gw_t 1435 rfl rfl, gw_t 1436 rfl rfl, in12_, gw_t 1437 rfl rfl, ⟨nhc14_.1, nhc14_.2, pdc6_⟩, by decide⟩
set_option maxRecDepth 100000 in
theorem kL_75 : lk_ RL 75 yX12_call cX12_call 5 (some .int) 4 := ⟨gw_t 1438 rfl rfl, gw_t 1439 rfl rfl, gw_t 1440 rfl rfl, in12_, gw_t 1441 rfl rfl, ⟨nhc14_.1, nhc14_.2, pdc31_⟩, by decide⟩
set_option maxRecDepth 100000 in
theorem kL_79 : lk_ RL 79 yX12_value cX12_value 1 (some .int) 0 := ⟨gw_t 1518 rfl rfl, gw_t 1519 rfl rfl, gw_t 1520 rfl rfl, in12_, gw_t 1521 rfl rfl, ⟨nhc14_.1, nhc14_.2, pdc6_⟩, by decide⟩
set_option maxRecDepth 100000 in
theorem kL_83 : lk_ RL 83 yX12_invoked cX12_invoked 1 (some .int) 0 := ⟨gw_t 1522 rfl rfl, gw_t 1523 rfl rfl, gw_t 1524 rfl rfl, in12_, gw_t 1525 rfl rfl, ⟨nhc14_.1, nhc14_.2, pdc6_⟩, by decide⟩
set_option maxRecDepth 100000 in
theorem kL_87 : lk_ RL 87 yX12_records cX12_records 1 (some .int) 0 := ⟨gw_t 1526 rfl rfl, gw_t 1527 rfl rfl, gw_t 1528 rfl rfl, in12_, gw_t 1529 rfl rfl, ⟨nhc14_.1, nhc14_.2, pdc6_⟩, by decide⟩
set_option maxRecDepth 100000 in
theorem kL_91 : lk_ RL 91 yX12_record_ cX12_record_ 3 (some .int) 2 := ⟨gw_t 1530 rfl rfl, gw_t 1531 rfl rfl, gw_t 1532 rfl rfl, in12_, gw_t 1533 rfl rfl, ⟨nhc14_.1, nhc14_.2, pdc34_⟩, by decide⟩
set_option maxRecDepth 100000 in
theorem kL_95 : lk_ RL 95 yX12_clear cX12_clear 2 (some .int) 0 := ⟨gw_t 1534 rfl rfl, gw_t 1535 rfl rfl, gw_t 1536 rfl rfl, in12_, gw_t 1537 rfl rfl, ⟨nhc14_.1, nhc14_.2, pdc6_⟩, by decide⟩
set_option maxRecDepth 100000 in
theorem kL_98 : lk_ RL 98 yX12_job cX12_job 3 (some .int) 2 := ⟨gw_t 1538 rfl rfl, gw_t 1539 rfl rfl, gw_t 1540 rfl rfl, in12_, gw_t 1541 rfl rfl, ⟨nhc14_.1, nhc14_.2, pdc34_⟩, by decide⟩
set_option maxRecDepth 100000 in
theorem kL_102 : lk_ RL 102 yX12_counted cX12_counted 5 (some .int) 3 := ⟨gw_t 1542 rfl rfl, gw_t 1543 rfl rfl, gw_t 1544 rfl rfl, in12_, gw_t 1545 rfl rfl, ⟨nhc14_.1, nhc14_.2, pdc40_⟩, by decide⟩
set_option maxRecDepth 100000 in
theorem kL_106 : lk_ RL 106 yX12_keeps cX12_keeps 1 (some .int) 0 := ⟨gw_t 1546 rfl rfl, gw_t 1547 rfl rfl, gw_t 1548 rfl rfl, in12_, gw_t 1549 rfl rfl, ⟨nhc14_.1, nhc14_.2, pdc6_⟩, by decide⟩
set_option maxRecDepth 100000 in
theorem kL_109 : lk_ RL 109 yX12_kept cX12_kept 3 (some .int) 2 := ⟨gw_t 1550 rfl rfl, gw_t 1551 rfl rfl, gw_t 1552 rfl rfl, in12_, gw_t 1553 rfl rfl, ⟨nhc14_.1, nhc14_.2, pdc34_⟩, by decide⟩
set_option maxRecDepth 100000 in
theorem kL_113 : lk_ RL 113 yX12_replay cX12_replay 2 (some .int) 1 := ⟨gw_t 1554 rfl rfl, gw_t 1555 rfl rfl, gw_t 1556 rfl rfl, in12_, gw_t 1557 rfl rfl, ⟨nhc14_.1, nhc14_.2, pdc9_⟩, by decide⟩


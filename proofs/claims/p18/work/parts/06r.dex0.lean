theorem dX0_init_0 : decode cX0_init 0 = .ok (.aload_n 0, 1) := by decide +kernel
theorem dX0_init_1 : decode cX0_init 1 = .ok (.invokespecial 3, 3) := by decide +kernel
theorem dX0_init_4 : decode cX0_init 4 = .ok (.aload_n 0, 1) := by decide +kernel
theorem dX0_init_5 : decode cX0_init 5 = .ok (.bipush 26, 2) := by decide +kernel
theorem dX0_init_7 : decode cX0_init 7 = .ok (.newarray .int, 2) := by decide +kernel
theorem dX0_init_9 : decode cX0_init 9 = .ok (.putfield 9, 3) := by decide +kernel
theorem dX0_init_12 : decode cX0_init 12 = .ok (.aload_n 0, 1) := by decide +kernel
theorem dX0_init_13 : decode cX0_init 13 = .ok (.bipush 26, 2) := by decide +kernel
theorem dX0_init_15 : decode cX0_init 15 = .ok (.newarray .long, 2) := by decide +kernel
theorem dX0_init_17 : decode cX0_init 17 = .ok (.putfield 13, 3) := by decide +kernel
theorem dX0_init_20 : decode cX0_init 20 = .ok (.aload_n 0, 1) := by decide +kernel
theorem dX0_init_21 : decode cX0_init 21 = .ok (.bipush 26, 2) := by decide +kernel
theorem dX0_init_23 : decode cX0_init 23 = .ok (.newarray .int, 2) := by decide +kernel
theorem dX0_init_25 : decode cX0_init 25 = .ok (.putfield 17, 3) := by decide +kernel
theorem dX0_init_28 : decode cX0_init 28 = .ok (.aload_n 0, 1) := by decide +kernel
theorem dX0_init_29 : decode cX0_init 29 = .ok (.bipush 26, 2) := by decide +kernel
theorem dX0_init_31 : decode cX0_init 31 = .ok (.newarray .int, 2) := by decide +kernel
theorem dX0_init_33 : decode cX0_init 33 = .ok (.putfield 20, 3) := by decide +kernel
theorem dX0_init_36 : decode cX0_init 36 = .ok (.return_, 1) := by decide +kernel
theorem dX0_empty_0 : decode cX0_empty 0 = .ok (.aload_n 0, 1) := by decide +kernel
theorem dX0_empty_1 : decode cX0_empty 1 = .ok (.iconst 0, 1) := by decide +kernel
theorem dX0_empty_2 : decode cX0_empty 2 = .ok (.putfield 23, 3) := by decide +kernel
theorem dX0_empty_5 : decode cX0_empty 5 = .ok (.aload_n 0, 1) := by decide +kernel
theorem dX0_empty_6 : decode cX0_empty 6 = .ok (.iconst 0, 1) := by decide +kernel
theorem dX0_empty_7 : decode cX0_empty 7 = .ok (.putfield 27, 3) := by decide +kernel
theorem dX0_empty_10 : decode cX0_empty 10 = .ok (.return_, 1) := by decide +kernel
theorem dX0_add_0 : decode cX0_add 0 = .ok (.aload_n 0, 1) := by decide +kernel
theorem dX0_add_1 : decode cX0_add 1 = .ok (.getfield 23, 3) := by decide +kernel
theorem dX0_add_4 : decode cX0_add 4 = .ok (.istore 4, 2) := by decide +kernel
theorem dX0_add_6 : decode cX0_add 6 = .ok (.aload_n 0, 1) := by decide +kernel
theorem dX0_add_7 : decode cX0_add 7 = .ok (.dup, 1) := by decide +kernel
theorem dX0_add_8 : decode cX0_add 8 = .ok (.getfield 27, 3) := by decide +kernel
theorem dX0_add_11 : decode cX0_add 11 = .ok (.iload_n 1, 1) := by decide +kernel
theorem dX0_add_12 : decode cX0_add 12 = .ok (.invokestatic 30, 3) := by decide +kernel
theorem dX0_add_15 : decode cX0_add 15 = .ok (.iadd, 1) := by decide +kernel
theorem dX0_add_16 : decode cX0_add 16 = .ok (.putfield 27, 3) := by decide +kernel
theorem dX0_add_19 : decode cX0_add 19 = .ok (.iload 4, 2) := by decide +kernel
theorem dX0_add_21 : decode cX0_add 21 = .ok (.bipush 26, 2) := by decide +kernel
theorem dX0_add_23 : decode cX0_add 23 = .ok (.if_icmp .ge 40, 3) := by decide +kernel
theorem dX0_add_26 : decode cX0_add 26 = .ok (.aload_n 0, 1) := by decide +kernel
theorem dX0_add_27 : decode cX0_add 27 = .ok (.getfield 9, 3) := by decide +kernel
theorem dX0_add_30 : decode cX0_add 30 = .ok (.iload 4, 2) := by decide +kernel
theorem dX0_add_32 : decode cX0_add 32 = .ok (.iload_n 1, 1) := by decide +kernel
theorem dX0_add_33 : decode cX0_add 33 = .ok (.iastore, 1) := by decide +kernel
theorem dX0_add_34 : decode cX0_add 34 = .ok (.aload_n 0, 1) := by decide +kernel
theorem dX0_add_35 : decode cX0_add 35 = .ok (.getfield 13, 3) := by decide +kernel
theorem dX0_add_38 : decode cX0_add 38 = .ok (.iload 4, 2) := by decide +kernel
theorem dX0_add_40 : decode cX0_add 40 = .ok (.lload_n 2, 1) := by decide +kernel
theorem dX0_add_41 : decode cX0_add 41 = .ok (.lastore, 1) := by decide +kernel
theorem dX0_add_42 : decode cX0_add 42 = .ok (.aload_n 0, 1) := by decide +kernel
theorem dX0_add_43 : decode cX0_add 43 = .ok (.getfield 20, 3) := by decide +kernel
theorem dX0_add_46 : decode cX0_add 46 = .ok (.iload 4, 2) := by decide +kernel
theorem dX0_add_48 : decode cX0_add 48 = .ok (.aload_n 0, 1) := by decide +kernel
theorem dX0_add_49 : decode cX0_add 49 = .ok (.getfield 27, 3) := by decide +kernel
theorem dX0_add_52 : decode cX0_add 52 = .ok (.iastore, 1) := by decide +kernel
theorem dX0_add_53 : decode cX0_add 53 = .ok (.aload_n 0, 1) := by decide +kernel
theorem dX0_add_54 : decode cX0_add 54 = .ok (.dup, 1) := by decide +kernel
theorem dX0_add_55 : decode cX0_add 55 = .ok (.getfield 23, 3) := by decide +kernel
theorem dX0_add_58 : decode cX0_add 58 = .ok (.iconst 1, 1) := by decide +kernel
theorem dX0_add_59 : decode cX0_add 59 = .ok (.iadd, 1) := by decide +kernel
theorem dX0_add_60 : decode cX0_add 60 = .ok (.putfield 23, 3) := by decide +kernel
theorem dX0_add_63 : decode cX0_add 63 = .ok (.iload 4, 2) := by decide +kernel
theorem dX0_add_65 : decode cX0_add 65 = .ok (.ireturn, 1) := by decide +kernel
theorem dX0_addInvocation_0 : decode cX0_addInvocation 0 = .ok (.aload_n 0, 1) := by decide +kernel
theorem dX0_addInvocation_1 : decode cX0_addInvocation 1 = .ok (.dup, 1) := by decide +kernel
theorem dX0_addInvocation_2 : decode cX0_addInvocation 2 = .ok (.getfield 27, 3) := by decide +kernel
theorem dX0_addInvocation_5 : decode cX0_addInvocation 5 = .ok (.iload_n 3, 1) := by decide +kernel
theorem dX0_addInvocation_6 : decode cX0_addInvocation 6 = .ok (.isub, 1) := by decide +kernel
theorem dX0_addInvocation_7 : decode cX0_addInvocation 7 = .ok (.putfield 27, 3) := by decide +kernel
theorem dX0_addInvocation_10 : decode cX0_addInvocation 10 = .ok (.aload_n 0, 1) := by decide +kernel
theorem dX0_addInvocation_11 : decode cX0_addInvocation 11 = .ok (.bipush 7, 2) := by decide +kernel
theorem dX0_addInvocation_13 : decode cX0_addInvocation 13 = .ok (.lload_n 1, 1) := by decide +kernel
theorem dX0_addInvocation_14 : decode cX0_addInvocation 14 = .ok (.invokevirtual 34, 3) := by decide +kernel
theorem dX0_addInvocation_17 : decode cX0_addInvocation 17 = .ok (.pop, 1) := by decide +kernel
theorem dX0_addInvocation_18 : decode cX0_addInvocation 18 = .ok (.return_, 1) := by decide +kernel
theorem dX0_addOrElse_0 : decode cX0_addOrElse 0 = .ok (.aload_n 0, 1) := by decide +kernel
theorem dX0_addOrElse_1 : decode cX0_addOrElse 1 = .ok (.bipush 6, 2) := by decide +kernel
theorem dX0_addOrElse_3 : decode cX0_addOrElse 3 = .ok (.lconst 0, 1) := by decide +kernel
theorem dX0_addOrElse_4 : decode cX0_addOrElse 4 = .ok (.invokevirtual 34, 3) := by decide +kernel
theorem dX0_addOrElse_7 : decode cX0_addOrElse 7 = .ok (.istore_n 2, 1) := by decide +kernel
theorem dX0_addOrElse_8 : decode cX0_addOrElse 8 = .ok (.iload_n 2, 1) := by decide +kernel
theorem dX0_addOrElse_9 : decode cX0_addOrElse 9 = .ok (.bipush 26, 2) := by decide +kernel
theorem dX0_addOrElse_11 : decode cX0_addOrElse 11 = .ok (.if_icmp .ge 10, 3) := by decide +kernel
theorem dX0_addOrElse_14 : decode cX0_addOrElse 14 = .ok (.aload_n 0, 1) := by decide +kernel
theorem dX0_addOrElse_15 : decode cX0_addOrElse 15 = .ok (.getfield 17, 3) := by decide +kernel
theorem dX0_addOrElse_18 : decode cX0_addOrElse 18 = .ok (.iload_n 2, 1) := by decide +kernel
theorem dX0_addOrElse_19 : decode cX0_addOrElse 19 = .ok (.iload_n 1, 1) := by decide +kernel
theorem dX0_addOrElse_20 : decode cX0_addOrElse 20 = .ok (.iastore, 1) := by decide +kernel
theorem dX0_addOrElse_21 : decode cX0_addOrElse 21 = .ok (.iload_n 2, 1) := by decide +kernel
theorem dX0_addOrElse_22 : decode cX0_addOrElse 22 = .ok (.ireturn, 1) := by decide +kernel
theorem dX0_leadHere_0 : decode cX0_leadHere 0 = .ok (.iload_n 1, 1) := by decide +kernel
theorem dX0_leadHere_1 : decode cX0_leadHere 1 = .ok (.bipush 26, 2) := by decide +kernel
theorem dX0_leadHere_3 : decode cX0_leadHere 3 = .ok (.if_icmp .ge 14, 3) := by decide +kernel
theorem dX0_leadHere_6 : decode cX0_leadHere 6 = .ok (.aload_n 0, 1) := by decide +kernel
theorem dX0_leadHere_7 : decode cX0_leadHere 7 = .ok (.getfield 13, 3) := by decide +kernel
theorem dX0_leadHere_10 : decode cX0_leadHere 10 = .ok (.iload_n 1, 1) := by decide +kernel
theorem dX0_leadHere_11 : decode cX0_leadHere 11 = .ok (.aload_n 0, 1) := by decide +kernel
theorem dX0_leadHere_12 : decode cX0_leadHere 12 = .ok (.getfield 23, 3) := by decide +kernel
theorem dX0_leadHere_15 : decode cX0_leadHere 15 = .ok (.i2l, 1) := by decide +kernel
theorem dX0_leadHere_16 : decode cX0_leadHere 16 = .ok (.lastore, 1) := by decide +kernel
theorem dX0_leadHere_17 : decode cX0_leadHere 17 = .ok (.return_, 1) := by decide +kernel
theorem dX0_behindThrow_0 : decode cX0_behindThrow 0 = .ok (.iload_n 1, 1) := by decide +kernel
theorem dX0_behindThrow_1 : decode cX0_behindThrow 1 = .ok (.iconst 1, 1) := by decide +kernel
theorem dX0_behindThrow_2 : decode cX0_behindThrow 2 = .ok (.iadd, 1) := by decide +kernel
theorem dX0_behindThrow_3 : decode cX0_behindThrow 3 = .ok (.istore_n 2, 1) := by decide +kernel
theorem dX0_behindThrow_4 : decode cX0_behindThrow 4 = .ok (.iload_n 2, 1) := by decide +kernel
theorem dX0_behindThrow_5 : decode cX0_behindThrow 5 = .ok (.aload_n 0, 1) := by decide +kernel
theorem dX0_behindThrow_6 : decode cX0_behindThrow 6 = .ok (.getfield 23, 3) := by decide +kernel
theorem dX0_behindThrow_9 : decode cX0_behindThrow 9 = .ok (.if_icmp .ge 34, 3) := by decide +kernel
theorem dX0_behindThrow_12 : decode cX0_behindThrow 12 = .ok (.aload_n 0, 1) := by decide +kernel
theorem dX0_behindThrow_13 : decode cX0_behindThrow 13 = .ok (.getfield 9, 3) := by decide +kernel
theorem dX0_behindThrow_16 : decode cX0_behindThrow 16 = .ok (.iload_n 2, 1) := by decide +kernel
theorem dX0_behindThrow_17 : decode cX0_behindThrow 17 = .ok (.iaload, 1) := by decide +kernel
theorem dX0_behindThrow_18 : decode cX0_behindThrow 18 = .ok (.bipush 6, 2) := by decide +kernel
theorem dX0_behindThrow_20 : decode cX0_behindThrow 20 = .ok (.if_icmp .ne 17, 3) := by decide +kernel
theorem dX0_behindThrow_23 : decode cX0_behindThrow 23 = .ok (.aload_n 0, 1) := by decide +kernel
theorem dX0_behindThrow_24 : decode cX0_behindThrow 24 = .ok (.getfield 17, 3) := by decide +kernel
theorem dX0_behindThrow_27 : decode cX0_behindThrow 27 = .ok (.iload_n 2, 1) := by decide +kernel
theorem dX0_behindThrow_28 : decode cX0_behindThrow 28 = .ok (.iaload, 1) := by decide +kernel
theorem dX0_behindThrow_29 : decode cX0_behindThrow 29 = .ok (.iload_n 1, 1) := by decide +kernel
theorem dX0_behindThrow_30 : decode cX0_behindThrow 30 = .ok (.if_icmp .gt 7, 3) := by decide +kernel
theorem dX0_behindThrow_33 : decode cX0_behindThrow 33 = .ok (.iload_n 2, 1) := by decide +kernel
theorem dX0_behindThrow_34 : decode cX0_behindThrow 34 = .ok (.iconst 1, 1) := by decide +kernel
theorem dX0_behindThrow_35 : decode cX0_behindThrow 35 = .ok (.iadd, 1) := by decide +kernel
theorem dX0_behindThrow_36 : decode cX0_behindThrow 36 = .ok (.ireturn, 1) := by decide +kernel
theorem dX0_behindThrow_37 : decode cX0_behindThrow 37 = .ok (.iinc 2 1, 3) := by decide +kernel
theorem dX0_behindThrow_40 : decode cX0_behindThrow 40 = .ok (.goto (-36), 3) := by decide +kernel
theorem dX0_behindThrow_43 : decode cX0_behindThrow 43 = .ok (.aload_n 0, 1) := by decide +kernel
theorem dX0_behindThrow_44 : decode cX0_behindThrow 44 = .ok (.getfield 23, 3) := by decide +kernel
theorem dX0_behindThrow_47 : decode cX0_behindThrow 47 = .ok (.ireturn, 1) := by decide +kernel
theorem dX0_rise_0 : decode cX0_rise 0 = .ok (.iload_n 0, 1) := by decide +kernel
theorem dX0_rise_1 : decode cX0_rise 1 = .ok (.tableswitch 51 0 7 #[47, 47, 49, 49, 51, 51, 51, 47], 47) := by decide +kernel
theorem dX0_rise_48 : decode cX0_rise 48 = .ok (.iconst 1, 1) := by decide +kernel
theorem dX0_rise_49 : decode cX0_rise 49 = .ok (.ireturn, 1) := by decide +kernel
theorem dX0_rise_50 : decode cX0_rise 50 = .ok (.iconst 0, 1) := by decide +kernel
theorem dX0_rise_51 : decode cX0_rise 51 = .ok (.ireturn, 1) := by decide +kernel
theorem dX0_rise_52 : decode cX0_rise 52 = .ok (.iconst (-1), 1) := by decide +kernel
theorem dX0_rise_53 : decode cX0_rise 53 = .ok (.ireturn, 1) := by decide +kernel
theorem dX1_init_0 : decode cX1_init 0 = .ok (.aload_n 0, 1) := by decide +kernel
theorem dX1_init_1 : decode cX1_init 1 = .ok (.invokespecial 1, 3) := by decide +kernel
theorem dX1_init_4 : decode cX1_init 4 = .ok (.aload_n 0, 1) := by decide +kernel
theorem dX1_init_5 : decode cX1_init 5 = .ok (.aload_n 1, 1) := by decide +kernel
theorem dX1_init_6 : decode cX1_init 6 = .ok (.putfield 7, 3) := by decide +kernel
theorem dX1_init_9 : decode cX1_init 9 = .ok (.aload_n 0, 1) := by decide +kernel
theorem dX1_init_10 : decode cX1_init 10 = .ok (.aload_n 2, 1) := by decide +kernel
theorem dX1_init_11 : decode cX1_init 11 = .ok (.putfield 13, 3) := by decide +kernel
theorem dX1_init_14 : decode cX1_init 14 = .ok (.return_, 1) := by decide +kernel
theorem dX1_read_0 : decode cX1_read 0 = .ok (.aload_n 0, 1) := by decide +kernel
theorem dX1_read_1 : decode cX1_read 1 = .ok (.aload_n 1, 1) := by decide +kernel
theorem dX1_read_2 : decode cX1_read 2 = .ok (.putfield 13, 3) := by decide +kernel
theorem dX1_read_5 : decode cX1_read 5 = .ok (.aload_n 0, 1) := by decide +kernel
theorem dX1_read_6 : decode cX1_read 6 = .ok (.iload_n 2, 1) := by decide +kernel
theorem dX1_read_7 : decode cX1_read 7 = .ok (.putfield 17, 3) := by decide +kernel
theorem dX1_read_10 : decode cX1_read 10 = .ok (.aload_n 0, 1) := by decide +kernel
theorem dX1_read_11 : decode cX1_read 11 = .ok (.iload_n 3, 1) := by decide +kernel
theorem dX1_read_12 : decode cX1_read 12 = .ok (.putfield 21, 3) := by decide +kernel
theorem dX1_read_15 : decode cX1_read 15 = .ok (.aload_n 0, 1) := by decide +kernel
theorem dX1_read_16 : decode cX1_read 16 = .ok (.iconst 0, 1) := by decide +kernel
theorem dX1_read_17 : decode cX1_read 17 = .ok (.putfield 25, 3) := by decide +kernel
theorem dX1_read_20 : decode cX1_read 20 = .ok (.aload_n 0, 1) := by decide +kernel
theorem dX1_read_21 : decode cX1_read 21 = .ok (.iconst 0, 1) := by decide +kernel
theorem dX1_read_22 : decode cX1_read 22 = .ok (.putfield 28, 3) := by decide +kernel
theorem dX1_read_25 : decode cX1_read 25 = .ok (.aload_n 0, 1) := by decide +kernel
theorem dX1_read_26 : decode cX1_read 26 = .ok (.iconst 0, 1) := by decide +kernel
theorem dX1_read_27 : decode cX1_read 27 = .ok (.putfield 31, 3) := by decide +kernel
theorem dX1_read_30 : decode cX1_read 30 = .ok (.aload_n 0, 1) := by decide +kernel
theorem dX1_read_31 : decode cX1_read 31 = .ok (.getfield 13, 3) := by decide +kernel
theorem dX1_read_34 : decode cX1_read 34 = .ok (.invokevirtual 34, 3) := by decide +kernel
theorem dX1_read_37 : decode cX1_read 37 = .ok (.aload_n 0, 1) := by decide +kernel
theorem dX1_read_38 : decode cX1_read 38 = .ok (.invokevirtual 39, 3) := by decide +kernel
theorem dX1_read_41 : decode cX1_read 41 = .ok (.return_, 1) := by decide +kernel
theorem dX1_expression_0 : decode cX1_expression 0 = .ok (.aload_n 0, 1) := by decide +kernel
theorem dX1_expression_1 : decode cX1_expression 1 = .ok (.getfield 13, 3) := by decide +kernel
theorem dX1_expression_4 : decode cX1_expression 4 = .ok (.getfield 42, 3) := by decide +kernel
theorem dX1_expression_7 : decode cX1_expression 7 = .ok (.istore_n 1, 1) := by decide +kernel
theorem dX1_expression_8 : decode cX1_expression 8 = .ok (.aload_n 0, 1) := by decide +kernel
theorem dX1_expression_9 : decode cX1_expression 9 = .ok (.invokevirtual 45, 3) := by decide +kernel
theorem dX1_expression_12 : decode cX1_expression 12 = .ok (.iconst 0, 1) := by decide +kernel
theorem dX1_expression_13 : decode cX1_expression 13 = .ok (.istore_n 2, 1) := by decide +kernel
theorem dX1_expression_14 : decode cX1_expression 14 = .ok (.iload_n 2, 1) := by decide +kernel
theorem dX1_expression_15 : decode cX1_expression 15 = .ok (.bipush 20, 2) := by decide +kernel
theorem dX1_expression_17 : decode cX1_expression 17 = .ok (.if_icmp .ge 47, 3) := by decide +kernel
theorem dX1_expression_20 : decode cX1_expression 20 = .ok (.aload_n 0, 1) := by decide +kernel
theorem dX1_expression_21 : decode cX1_expression 21 = .ok (.getfield 7, 3) := by decide +kernel
theorem dX1_expression_24 : decode cX1_expression 24 = .ok (.invokevirtual 48, 3) := by decide +kernel
theorem dX1_expression_27 : decode cX1_expression 27 = .ok (.bipush 35, 2) := by decide +kernel
theorem dX1_expression_29 : decode cX1_expression 29 = .ok (.if_icmp .ne 35, 3) := by decide +kernel
theorem dX1_expression_32 : decode cX1_expression 32 = .ok (.aload_n 0, 1) := by decide +kernel
theorem dX1_expression_33 : decode cX1_expression 33 = .ok (.invokevirtual 54, 3) := by decide +kernel
theorem dX1_expression_36 : decode cX1_expression 36 = .ok (.pop, 1) := by decide +kernel
theorem dX1_expression_37 : decode cX1_expression 37 = .ok (.aload_n 0, 1) := by decide +kernel
theorem dX1_expression_38 : decode cX1_expression 38 = .ok (.getfield 13, 3) := by decide +kernel
theorem dX1_expression_41 : decode cX1_expression 41 = .ok (.iload_n 1, 1) := by decide +kernel
theorem dX1_expression_42 : decode cX1_expression 42 = .ok (.invokevirtual 57, 3) := by decide +kernel
theorem dX1_expression_45 : decode cX1_expression 45 = .ok (.istore_n 3, 1) := by decide +kernel
theorem dX1_expression_46 : decode cX1_expression 46 = .ok (.aload_n 0, 1) := by decide +kernel
theorem dX1_expression_47 : decode cX1_expression 47 = .ok (.invokevirtual 45, 3) := by decide +kernel
theorem dX1_expression_50 : decode cX1_expression 50 = .ok (.aload_n 0, 1) := by decide +kernel
theorem dX1_expression_51 : decode cX1_expression 51 = .ok (.getfield 13, 3) := by decide +kernel
theorem dX1_expression_54 : decode cX1_expression 54 = .ok (.iload_n 3, 1) := by decide +kernel
theorem dX1_expression_55 : decode cX1_expression 55 = .ok (.invokevirtual 61, 3) := by decide +kernel
theorem dX1_expression_58 : decode cX1_expression 58 = .ok (.iinc 2 1, 3) := by decide +kernel
theorem dX1_expression_61 : decode cX1_expression 61 = .ok (.goto (-47), 3) := by decide +kernel
theorem dX1_expression_64 : decode cX1_expression 64 = .ok (.return_, 1) := by decide +kernel
theorem dX1_choice_0 : decode cX1_choice 0 = .ok (.aload_n 0, 1) := by decide +kernel
theorem dX1_choice_1 : decode cX1_choice 1 = .ok (.iconst 3, 1) := by decide +kernel
theorem dX1_choice_2 : decode cX1_choice 2 = .ok (.invokevirtual 65, 3) := by decide +kernel
theorem dX1_choice_5 : decode cX1_choice 5 = .ok (.aload_n 0, 1) := by decide +kernel
theorem dX1_choice_6 : decode cX1_choice 6 = .ok (.getfield 7, 3) := by decide +kernel
theorem dX1_choice_9 : decode cX1_choice 9 = .ok (.invokevirtual 48, 3) := by decide +kernel
theorem dX1_choice_12 : decode cX1_choice 12 = .ok (.bipush 63, 2) := by decide +kernel
theorem dX1_choice_14 : decode cX1_choice 14 = .ok (.if_icmp .eq 4, 3) := by decide +kernel
theorem dX1_choice_17 : decode cX1_choice 17 = .ok (.return_, 1) := by decide +kernel
theorem dX1_choice_18 : decode cX1_choice 18 = .ok (.aload_n 0, 1) := by decide +kernel
theorem dX1_choice_19 : decode cX1_choice 19 = .ok (.invokevirtual 54, 3) := by decide +kernel
theorem dX1_choice_22 : decode cX1_choice 22 = .ok (.pop, 1) := by decide +kernel
theorem dX1_choice_23 : decode cX1_choice 23 = .ok (.aload_n 0, 1) := by decide +kernel
theorem dX1_choice_24 : decode cX1_choice 24 = .ok (.getfield 13, 3) := by decide +kernel
theorem dX1_choice_27 : decode cX1_choice 27 = .ok (.iconst 4, 1) := by decide +kernel
theorem dX1_choice_28 : decode cX1_choice 28 = .ok (.lconst 0, 1) := by decide +kernel
theorem dX1_choice_29 : decode cX1_choice 29 = .ok (.invokevirtual 68, 3) := by decide +kernel
theorem dX1_choice_32 : decode cX1_choice 32 = .ok (.istore_n 1, 1) := by decide +kernel
theorem dX1_choice_33 : decode cX1_choice 33 = .ok (.aload_n 0, 1) := by decide +kernel
theorem dX1_choice_34 : decode cX1_choice 34 = .ok (.invokevirtual 39, 3) := by decide +kernel
theorem dX1_choice_37 : decode cX1_choice 37 = .ok (.aload_n 0, 1) := by decide +kernel
theorem dX1_choice_38 : decode cX1_choice 38 = .ok (.getfield 7, 3) := by decide +kernel
theorem dX1_choice_41 : decode cX1_choice 41 = .ok (.bipush 58, 2) := by decide +kernel
theorem dX1_choice_43 : decode cX1_choice 43 = .ok (.invokevirtual 72, 3) := by decide +kernel
theorem dX1_choice_46 : decode cX1_choice 46 = .ok (.aload_n 0, 1) := by decide +kernel
theorem dX1_choice_47 : decode cX1_choice 47 = .ok (.getfield 13, 3) := by decide +kernel
theorem dX1_choice_50 : decode cX1_choice 50 = .ok (.iconst 5, 1) := by decide +kernel
theorem dX1_choice_51 : decode cX1_choice 51 = .ok (.lconst 0, 1) := by decide +kernel
theorem dX1_choice_52 : decode cX1_choice 52 = .ok (.invokevirtual 68, 3) := by decide +kernel
theorem dX1_choice_55 : decode cX1_choice 55 = .ok (.istore_n 2, 1) := by decide +kernel
theorem dX1_choice_56 : decode cX1_choice 56 = .ok (.aload_n 0, 1) := by decide +kernel
theorem dX1_choice_57 : decode cX1_choice 57 = .ok (.getfield 13, 3) := by decide +kernel
theorem dX1_choice_60 : decode cX1_choice 60 = .ok (.iload_n 1, 1) := by decide +kernel
theorem dX1_choice_61 : decode cX1_choice 61 = .ok (.invokevirtual 61, 3) := by decide +kernel
theorem dX1_choice_64 : decode cX1_choice 64 = .ok (.aload_n 0, 1) := by decide +kernel
theorem dX1_choice_65 : decode cX1_choice 65 = .ok (.invokevirtual 45, 3) := by decide +kernel
theorem dX1_choice_68 : decode cX1_choice 68 = .ok (.aload_n 0, 1) := by decide +kernel
theorem dX1_choice_69 : decode cX1_choice 69 = .ok (.getfield 13, 3) := by decide +kernel
theorem dX1_choice_72 : decode cX1_choice 72 = .ok (.iload_n 2, 1) := by decide +kernel
theorem dX1_choice_73 : decode cX1_choice 73 = .ok (.invokevirtual 61, 3) := by decide +kernel
theorem dX1_choice_76 : decode cX1_choice 76 = .ok (.return_, 1) := by decide +kernel
theorem dX1_joined_0 : decode cX1_joined 0 = .ok (.iload_n 1, 1) := by decide +kernel
theorem dX1_joined_1 : decode cX1_joined 1 = .ok (.bipush 6, 2) := by decide +kernel
theorem dX1_joined_3 : decode cX1_joined 3 = .ok (.if_icmp .lt 8, 3) := by decide +kernel
theorem dX1_joined_6 : decode cX1_joined 6 = .ok (.aload_n 0, 1) := by decide +kernel
theorem dX1_joined_7 : decode cX1_joined 7 = .ok (.invokevirtual 75, 3) := by decide +kernel
theorem dX1_joined_10 : decode cX1_joined 10 = .ok (.return_, 1) := by decide +kernel
theorem dX1_joined_11 : decode cX1_joined 11 = .ok (.aload_n 0, 1) := by decide +kernel
theorem dX1_joined_12 : decode cX1_joined 12 = .ok (.iload_n 1, 1) := by decide +kernel
theorem dX1_joined_13 : decode cX1_joined 13 = .ok (.iconst 1, 1) := by decide +kernel
theorem dX1_joined_14 : decode cX1_joined 14 = .ok (.iadd, 1) := by decide +kernel
theorem dX1_joined_15 : decode cX1_joined 15 = .ok (.invokevirtual 65, 3) := by decide +kernel
theorem dX1_joined_18 : decode cX1_joined 18 = .ok (.iload_n 1, 1) := by decide +kernel
theorem dX1_joined_19 : decode cX1_joined 19 = .ok (.iconst 3, 1) := by decide +kernel
theorem dX1_joined_20 : decode cX1_joined 20 = .ok (.if_icmp .ne 7, 3) := by decide +kernel
theorem dX1_joined_23 : decode cX1_joined 23 = .ok (.iconst 1, 1) := by decide +kernel
theorem dX1_joined_24 : decode cX1_joined 24 = .ok (.goto 5, 3) := by decide +kernel
theorem dX1_joined_27 : decode cX1_joined 27 = .ok (.bipush 20, 2) := by decide +kernel
theorem dX1_joined_29 : decode cX1_joined 29 = .ok (.istore_n 2, 1) := by decide +kernel
theorem dX1_joined_30 : decode cX1_joined 30 = .ok (.iconst 0, 1) := by decide +kernel
theorem dX1_joined_31 : decode cX1_joined 31 = .ok (.istore_n 3, 1) := by decide +kernel
theorem dX1_joined_32 : decode cX1_joined 32 = .ok (.iload_n 3, 1) := by decide +kernel
theorem dX1_joined_33 : decode cX1_joined 33 = .ok (.iload_n 2, 1) := by decide +kernel
theorem dX1_joined_34 : decode cX1_joined 34 = .ok (.if_icmp .ge 47, 3) := by decide +kernel
theorem dX1_joined_37 : decode cX1_joined 37 = .ok (.aload_n 0, 1) := by decide +kernel
theorem dX1_joined_38 : decode cX1_joined 38 = .ok (.getfield 7, 3) := by decide +kernel
theorem dX1_joined_41 : decode cX1_joined 41 = .ok (.invokevirtual 48, 3) := by decide +kernel
theorem dX1_joined_44 : decode cX1_joined 44 = .ok (.invokestatic 78, 3) := by decide +kernel
theorem dX1_joined_47 : decode cX1_joined 47 = .ok (.iload_n 1, 1) := by decide +kernel
theorem dX1_joined_48 : decode cX1_joined 48 = .ok (.if_icmp .ne 33, 3) := by decide +kernel
theorem dX1_joined_51 : decode cX1_joined 51 = .ok (.aload_n 0, 1) := by decide +kernel
theorem dX1_joined_52 : decode cX1_joined 52 = .ok (.invokevirtual 54, 3) := by decide +kernel
theorem dX1_joined_55 : decode cX1_joined 55 = .ok (.istore 4, 2) := by decide +kernel
theorem dX1_joined_57 : decode cX1_joined 57 = .ok (.aload_n 0, 1) := by decide +kernel
theorem dX1_joined_58 : decode cX1_joined 58 = .ok (.iload_n 1, 1) := by decide +kernel
theorem dX1_joined_59 : decode cX1_joined 59 = .ok (.iconst 1, 1) := by decide +kernel
theorem dX1_joined_60 : decode cX1_joined 60 = .ok (.iadd, 1) := by decide +kernel
theorem dX1_joined_61 : decode cX1_joined 61 = .ok (.invokevirtual 65, 3) := by decide +kernel
theorem dX1_joined_64 : decode cX1_joined 64 = .ok (.aload_n 0, 1) := by decide +kernel
theorem dX1_joined_65 : decode cX1_joined 65 = .ok (.getfield 13, 3) := by decide +kernel
theorem dX1_joined_68 : decode cX1_joined 68 = .ok (.iload 4, 2) := by decide +kernel
theorem dX1_joined_70 : decode cX1_joined 70 = .ok (.lconst 0, 1) := by decide +kernel
theorem dX1_joined_71 : decode cX1_joined 71 = .ok (.invokevirtual 68, 3) := by decide +kernel
theorem dX1_joined_74 : decode cX1_joined 74 = .ok (.pop, 1) := by decide +kernel
theorem dX1_joined_75 : decode cX1_joined 75 = .ok (.iinc 3 1, 3) := by decide +kernel
theorem dX1_joined_78 : decode cX1_joined 78 = .ok (.goto (-46), 3) := by decide +kernel
theorem dX1_joined_81 : decode cX1_joined 81 = .ok (.return_, 1) := by decide +kernel
theorem dX1_kindOf_0 : decode cX1_kindOf 0 = .ok (.iload_n 0, 1) := by decide +kernel
theorem dX1_kindOf_1 : decode cX1_kindOf 1 = .ok (.tableswitch 125 37 62 #[123, 125, 125, 125, 125, 123, 121, 125, 121, 125, 123, 125, 125, 125, 125, 125, 125, 125, 125, 125, 125, 125, 125, 119, 119, 119], 119) := by decide +kernel
theorem dX1_kindOf_120 : decode cX1_kindOf 120 = .ok (.iconst 3, 1) := by decide +kernel
theorem dX1_kindOf_121 : decode cX1_kindOf 121 = .ok (.ireturn, 1) := by decide +kernel
theorem dX1_kindOf_122 : decode cX1_kindOf 122 = .ok (.iconst 4, 1) := by decide +kernel
theorem dX1_kindOf_123 : decode cX1_kindOf 123 = .ok (.ireturn, 1) := by decide +kernel
theorem dX1_kindOf_124 : decode cX1_kindOf 124 = .ok (.iconst 5, 1) := by decide +kernel
theorem dX1_kindOf_125 : decode cX1_kindOf 125 = .ok (.ireturn, 1) := by decide +kernel
theorem dX1_kindOf_126 : decode cX1_kindOf 126 = .ok (.iconst 0, 1) := by decide +kernel
theorem dX1_kindOf_127 : decode cX1_kindOf 127 = .ok (.ireturn, 1) := by decide +kernel
theorem dX1_signed_0 : decode cX1_signed 0 = .ok (.aload_n 0, 1) := by decide +kernel
theorem dX1_signed_1 : decode cX1_signed 1 = .ok (.getfield 7, 3) := by decide +kernel
theorem dX1_signed_4 : decode cX1_signed 4 = .ok (.invokevirtual 48, 3) := by decide +kernel
theorem dX1_signed_7 : decode cX1_signed 7 = .ok (.bipush 45, 2) := by decide +kernel
theorem dX1_signed_9 : decode cX1_signed 9 = .ok (.if_icmp .eq 20, 3) := by decide +kernel
theorem dX1_signed_12 : decode cX1_signed 12 = .ok (.aload_n 0, 1) := by decide +kernel
theorem dX1_signed_13 : decode cX1_signed 13 = .ok (.getfield 7, 3) := by decide +kernel
theorem dX1_signed_16 : decode cX1_signed 16 = .ok (.invokevirtual 48, 3) := by decide +kernel
theorem dX1_signed_19 : decode cX1_signed 19 = .ok (.bipush 33, 2) := by decide +kernel
theorem dX1_signed_21 : decode cX1_signed 21 = .ok (.if_icmp .eq 8, 3) := by decide +kernel
theorem dX1_signed_24 : decode cX1_signed 24 = .ok (.aload_n 0, 1) := by decide +kernel
theorem dX1_signed_25 : decode cX1_signed 25 = .ok (.invokevirtual 81, 3) := by decide +kernel
theorem dX1_signed_28 : decode cX1_signed 28 = .ok (.return_, 1) := by decide +kernel
theorem dX1_signed_29 : decode cX1_signed 29 = .ok (.aload_n 0, 1) := by decide +kernel
theorem dX1_signed_30 : decode cX1_signed 30 = .ok (.invokevirtual 54, 3) := by decide +kernel
theorem dX1_signed_33 : decode cX1_signed 33 = .ok (.bipush 45, 2) := by decide +kernel
theorem dX1_signed_35 : decode cX1_signed 35 = .ok (.if_icmp .ne 7, 3) := by decide +kernel
theorem dX1_signed_38 : decode cX1_signed 38 = .ok (.iconst 2, 1) := by decide +kernel
theorem dX1_signed_39 : decode cX1_signed 39 = .ok (.goto 4, 3) := by decide +kernel
theorem dX1_signed_42 : decode cX1_signed 42 = .ok (.iconst 3, 1) := by decide +kernel
theorem dX1_signed_43 : decode cX1_signed 43 = .ok (.istore_n 1, 1) := by decide +kernel
theorem dX1_signed_44 : decode cX1_signed 44 = .ok (.aload_n 0, 1) := by decide +kernel
theorem dX1_signed_45 : decode cX1_signed 45 = .ok (.invokevirtual 75, 3) := by decide +kernel
theorem dX1_signed_48 : decode cX1_signed 48 = .ok (.aload_n 0, 1) := by decide +kernel
theorem dX1_signed_49 : decode cX1_signed 49 = .ok (.getfield 13, 3) := by decide +kernel
theorem dX1_signed_52 : decode cX1_signed 52 = .ok (.iload_n 1, 1) := by decide +kernel
theorem dX1_signed_53 : decode cX1_signed 53 = .ok (.lconst 0, 1) := by decide +kernel
theorem dX1_signed_54 : decode cX1_signed 54 = .ok (.invokevirtual 68, 3) := by decide +kernel
theorem dX1_signed_57 : decode cX1_signed 57 = .ok (.pop, 1) := by decide +kernel
theorem dX1_signed_58 : decode cX1_signed 58 = .ok (.return_, 1) := by decide +kernel
theorem dX1_operand_0 : decode cX1_operand 0 = .ok (.aload_n 0, 1) := by decide +kernel
theorem dX1_operand_1 : decode cX1_operand 1 = .ok (.getfield 7, 3) := by decide +kernel
theorem dX1_operand_4 : decode cX1_operand 4 = .ok (.getfield 84, 3) := by decide +kernel
theorem dX1_operand_7 : decode cX1_operand 7 = .ok (.istore_n 1, 1) := by decide +kernel
theorem dX1_operand_8 : decode cX1_operand 8 = .ok (.aload_n 0, 1) := by decide +kernel
theorem dX1_operand_9 : decode cX1_operand 9 = .ok (.getfield 7, 3) := by decide +kernel
theorem dX1_operand_12 : decode cX1_operand 12 = .ok (.invokevirtual 48, 3) := by decide +kernel
theorem dX1_operand_15 : decode cX1_operand 15 = .ok (.invokestatic 87, 3) := by decide +kernel
theorem dX1_operand_18 : decode cX1_operand 18 = .ok (.ifCond .eq 32, 3) := by decide +kernel
theorem dX1_operand_21 : decode cX1_operand 21 = .ok (.aload_n 0, 1) := by decide +kernel
theorem dX1_operand_22 : decode cX1_operand 22 = .ok (.getfield 7, 3) := by decide +kernel
theorem dX1_operand_25 : decode cX1_operand 25 = .ok (.ldc 93, 2) := by decide +kernel
theorem dX1_operand_27 : decode cX1_operand 27 = .ok (.invokevirtual 94, 3) := by decide +kernel
theorem dX1_operand_30 : decode cX1_operand 30 = .ok (.istore_n 2, 1) := by decide +kernel
theorem dX1_operand_31 : decode cX1_operand 31 = .ok (.aload_n 0, 1) := by decide +kernel
theorem dX1_operand_32 : decode cX1_operand 32 = .ok (.iload_n 1, 1) := by decide +kernel
theorem dX1_operand_33 : decode cX1_operand 33 = .ok (.invokevirtual 97, 3) := by decide +kernel
theorem dX1_operand_36 : decode cX1_operand 36 = .ok (.aload_n 0, 1) := by decide +kernel
theorem dX1_operand_37 : decode cX1_operand 37 = .ok (.getfield 13, 3) := by decide +kernel
theorem dX1_operand_40 : decode cX1_operand 40 = .ok (.iconst 0, 1) := by decide +kernel
theorem dX1_operand_41 : decode cX1_operand 41 = .ok (.iload_n 2, 1) := by decide +kernel
theorem dX1_operand_42 : decode cX1_operand 42 = .ok (.i2l, 1) := by decide +kernel
theorem dX1_operand_43 : decode cX1_operand 43 = .ok (.invokevirtual 68, 3) := by decide +kernel
theorem dX1_operand_46 : decode cX1_operand 46 = .ok (.pop, 1) := by decide +kernel
theorem dX1_operand_47 : decode cX1_operand 47 = .ok (.goto 53, 3) := by decide +kernel
theorem dX1_operand_50 : decode cX1_operand 50 = .ok (.aload_n 0, 1) := by decide +kernel
theorem dX1_operand_51 : decode cX1_operand 51 = .ok (.getfield 7, 3) := by decide +kernel
theorem dX1_operand_54 : decode cX1_operand 54 = .ok (.invokevirtual 48, 3) := by decide +kernel
theorem dX1_operand_57 : decode cX1_operand 57 = .ok (.invokestatic 100, 3) := by decide +kernel
theorem dX1_operand_60 : decode cX1_operand 60 = .ok (.ifCond .eq 10, 3) := by decide +kernel
theorem dX1_operand_63 : decode cX1_operand 63 = .ok (.aload_n 0, 1) := by decide +kernel
theorem dX1_operand_64 : decode cX1_operand 64 = .ok (.invokevirtual 103, 3) := by decide +kernel
theorem dX1_operand_67 : decode cX1_operand 67 = .ok (.goto 33, 3) := by decide +kernel
theorem dX1_operand_70 : decode cX1_operand 70 = .ok (.aload_n 0, 1) := by decide +kernel
theorem dX1_operand_71 : decode cX1_operand 71 = .ok (.invokevirtual 106, 3) := by decide +kernel
theorem dX1_operand_74 : decode cX1_operand 74 = .ok (.ifCond .eq 26, 3) := by decide +kernel
theorem dX1_operand_77 : decode cX1_operand 77 = .ok (.aload_n 0, 1) := by decide +kernel
theorem dX1_operand_78 : decode cX1_operand 78 = .ok (.invokevirtual 39, 3) := by decide +kernel
theorem dX1_operand_81 : decode cX1_operand 81 = .ok (.aload_n 0, 1) := by decide +kernel
theorem dX1_operand_82 : decode cX1_operand 82 = .ok (.getfield 7, 3) := by decide +kernel
theorem dX1_operand_85 : decode cX1_operand 85 = .ok (.bipush 41, 2) := by decide +kernel
theorem dX1_operand_87 : decode cX1_operand 87 = .ok (.invokevirtual 72, 3) := by decide +kernel
theorem dX1_operand_90 : decode cX1_operand 90 = .ok (.aload_n 0, 1) := by decide +kernel
theorem dX1_operand_91 : decode cX1_operand 91 = .ok (.dup, 1) := by decide +kernel
theorem dX1_operand_92 : decode cX1_operand 92 = .ok (.getfield 28, 3) := by decide +kernel
theorem dX1_operand_95 : decode cX1_operand 95 = .ok (.iconst 1, 1) := by decide +kernel
theorem dX1_operand_96 : decode cX1_operand 96 = .ok (.isub, 1) := by decide +kernel
theorem dX1_operand_97 : decode cX1_operand 97 = .ok (.putfield 28, 3) := by decide +kernel
theorem dX1_operand_100 : decode cX1_operand 100 = .ok (.return_, 1) := by decide +kernel
theorem dX1_word_0 : decode cX1_word 0 = .ok (.aload_n 0, 1) := by decide +kernel
theorem dX1_word_1 : decode cX1_word 1 = .ok (.getfield 7, 3) := by decide +kernel
theorem dX1_word_4 : decode cX1_word 4 = .ok (.invokevirtual 110, 3) := by decide +kernel
theorem dX1_word_7 : decode cX1_word 7 = .ok (.aload_n 0, 1) := by decide +kernel
theorem dX1_word_8 : decode cX1_word 8 = .ok (.getfield 7, 3) := by decide +kernel
theorem dX1_word_11 : decode cX1_word 11 = .ok (.getfield 113, 3) := by decide +kernel
theorem dX1_word_14 : decode cX1_word 14 = .ok (.ifCond .eq 10, 3) := by decide +kernel
theorem dX1_word_17 : decode cX1_word 17 = .ok (.aload_n 0, 1) := by decide +kernel
theorem dX1_word_18 : decode cX1_word 18 = .ok (.invokevirtual 116, 3) := by decide +kernel
theorem dX1_word_21 : decode cX1_word 21 = .ok (.goto 48, 3) := by decide +kernel
theorem dX1_word_24 : decode cX1_word 24 = .ok (.aload_n 0, 1) := by decide +kernel
theorem dX1_word_25 : decode cX1_word 25 = .ok (.getfield 7, 3) := by decide +kernel
theorem dX1_word_28 : decode cX1_word 28 = .ok (.getfield 119, 3) := by decide +kernel
theorem dX1_word_31 : decode cX1_word 31 = .ok (.iconst 1, 1) := by decide +kernel
theorem dX1_word_32 : decode cX1_word 32 = .ok (.if_icmp .ne 22, 3) := by decide +kernel
theorem dX1_word_35 : decode cX1_word 35 = .ok (.aload_n 0, 1) := by decide +kernel
theorem dX1_word_36 : decode cX1_word 36 = .ok (.getfield 7, 3) := by decide +kernel
theorem dX1_word_39 : decode cX1_word 39 = .ok (.invokevirtual 48, 3) := by decide +kernel
theorem dX1_word_42 : decode cX1_word 42 = .ok (.bipush 46, 2) := by decide +kernel
theorem dX1_word_44 : decode cX1_word 44 = .ok (.if_icmp .eq 10, 3) := by decide +kernel
theorem dX1_word_47 : decode cX1_word 47 = .ok (.aload_n 0, 1) := by decide +kernel
theorem dX1_word_48 : decode cX1_word 48 = .ok (.invokevirtual 122, 3) := by decide +kernel
theorem dX1_word_51 : decode cX1_word 51 = .ok (.goto 18, 3) := by decide +kernel
theorem dX1_word_54 : decode cX1_word 54 = .ok (.aload_n 0, 1) := by decide +kernel
theorem dX1_word_55 : decode cX1_word 55 = .ok (.getfield 7, 3) := by decide +kernel
theorem dX1_word_58 : decode cX1_word 58 = .ok (.iconst 1, 1) := by decide +kernel
theorem dX1_word_59 : decode cX1_word 59 = .ok (.aload_n 0, 1) := by decide +kernel
theorem dX1_word_60 : decode cX1_word 60 = .ok (.getfield 7, 3) := by decide +kernel
theorem dX1_word_63 : decode cX1_word 63 = .ok (.getfield 84, 3) := by decide +kernel
theorem dX1_word_66 : decode cX1_word 66 = .ok (.invokevirtual 125, 3) := by decide +kernel
theorem dX1_word_69 : decode cX1_word 69 = .ok (.return_, 1) := by decide +kernel
theorem dX1_variable_0 : decode cX1_variable 0 = .ok (.ldc 129, 2) := by decide +kernel
theorem dX1_variable_2 : decode cX1_variable 2 = .ok (.aload_n 0, 1) := by decide +kernel
theorem dX1_variable_3 : decode cX1_variable 3 = .ok (.getfield 7, 3) := by decide +kernel
theorem dX1_variable_6 : decode cX1_variable 6 = .ok (.invokevirtual 48, 3) := by decide +kernel
theorem dX1_variable_9 : decode cX1_variable 9 = .ok (.i2c, 1) := by decide +kernel
theorem dX1_variable_10 : decode cX1_variable 10 = .ok (.invokevirtual 131, 3) := by decide +kernel
theorem dX1_variable_13 : decode cX1_variable 13 = .ok (.istore_n 1, 1) := by decide +kernel
theorem dX1_variable_14 : decode cX1_variable 14 = .ok (.aload_n 0, 1) := by decide +kernel
theorem dX1_variable_15 : decode cX1_variable 15 = .ok (.aload_n 0, 1) := by decide +kernel
theorem dX1_variable_16 : decode cX1_variable 16 = .ok (.getfield 7, 3) := by decide +kernel
theorem dX1_variable_19 : decode cX1_variable 19 = .ok (.getfield 84, 3) := by decide +kernel
theorem dX1_variable_22 : decode cX1_variable 22 = .ok (.invokevirtual 97, 3) := by decide +kernel
theorem dX1_variable_25 : decode cX1_variable 25 = .ok (.iload_n 1, 1) := by decide +kernel
theorem dX1_variable_26 : decode cX1_variable 26 = .ok (.ifCond .lt 11, 3) := by decide +kernel
theorem dX1_variable_29 : decode cX1_variable 29 = .ok (.iload_n 1, 1) := by decide +kernel
theorem dX1_variable_30 : decode cX1_variable 30 = .ok (.aload_n 0, 1) := by decide +kernel
theorem dX1_variable_31 : decode cX1_variable 31 = .ok (.getfield 17, 3) := by decide +kernel
theorem dX1_variable_34 : decode cX1_variable 34 = .ok (.if_icmp .lt 18, 3) := by decide +kernel
theorem dX1_variable_37 : decode cX1_variable 37 = .ok (.aload_n 0, 1) := by decide +kernel
theorem dX1_variable_38 : decode cX1_variable 38 = .ok (.getfield 7, 3) := by decide +kernel
theorem dX1_variable_41 : decode cX1_variable 41 = .ok (.iconst 4, 1) := by decide +kernel
theorem dX1_variable_42 : decode cX1_variable 42 = .ok (.aload_n 0, 1) := by decide +kernel
theorem dX1_variable_43 : decode cX1_variable 43 = .ok (.getfield 7, 3) := by decide +kernel
theorem dX1_variable_46 : decode cX1_variable 46 = .ok (.getfield 84, 3) := by decide +kernel
theorem dX1_variable_49 : decode cX1_variable 49 = .ok (.invokevirtual 125, 3) := by decide +kernel
theorem dX1_variable_52 : decode cX1_variable 52 = .ok (.aload_n 0, 1) := by decide +kernel
theorem dX1_variable_53 : decode cX1_variable 53 = .ok (.getfield 7, 3) := by decide +kernel
theorem dX1_variable_56 : decode cX1_variable 56 = .ok (.dup, 1) := by decide +kernel
theorem dX1_variable_57 : decode cX1_variable 57 = .ok (.getfield 84, 3) := by decide +kernel
theorem dX1_variable_60 : decode cX1_variable 60 = .ok (.iconst 1, 1) := by decide +kernel
theorem dX1_variable_61 : decode cX1_variable 61 = .ok (.iadd, 1) := by decide +kernel
theorem dX1_variable_62 : decode cX1_variable 62 = .ok (.putfield 84, 3) := by decide +kernel
theorem dX1_variable_65 : decode cX1_variable 65 = .ok (.aload_n 0, 1) := by decide +kernel
theorem dX1_variable_66 : decode cX1_variable 66 = .ok (.getfield 13, 3) := by decide +kernel
theorem dX1_variable_69 : decode cX1_variable 69 = .ok (.iconst 1, 1) := by decide +kernel
theorem dX1_variable_70 : decode cX1_variable 70 = .ok (.iload_n 1, 1) := by decide +kernel
theorem dX1_variable_71 : decode cX1_variable 71 = .ok (.i2l, 1) := by decide +kernel
theorem dX1_variable_72 : decode cX1_variable 72 = .ok (.invokevirtual 68, 3) := by decide +kernel
theorem dX1_variable_75 : decode cX1_variable 75 = .ok (.pop, 1) := by decide +kernel
theorem dX1_variable_76 : decode cX1_variable 76 = .ok (.return_, 1) := by decide +kernel
theorem dX1_invocation_0 : decode cX1_invocation 0 = .ok (.aload_n 0, 1) := by decide +kernel
theorem dX1_invocation_1 : decode cX1_invocation 1 = .ok (.aload_n 0, 1) := by decide +kernel
theorem dX1_invocation_2 : decode cX1_invocation 2 = .ok (.getfield 7, 3) := by decide +kernel
theorem dX1_invocation_5 : decode cX1_invocation 5 = .ok (.getfield 84, 3) := by decide +kernel
theorem dX1_invocation_8 : decode cX1_invocation 8 = .ok (.invokevirtual 97, 3) := by decide +kernel
theorem dX1_invocation_11 : decode cX1_invocation 11 = .ok (.aload_n 0, 1) := by decide +kernel
theorem dX1_invocation_12 : decode cX1_invocation 12 = .ok (.getfield 21, 3) := by decide +kernel
theorem dX1_invocation_15 : decode cX1_invocation 15 = .ok (.ifCond .ne 18, 3) := by decide +kernel
theorem dX1_invocation_18 : decode cX1_invocation 18 = .ok (.aload_n 0, 1) := by decide +kernel
theorem dX1_invocation_19 : decode cX1_invocation 19 = .ok (.getfield 7, 3) := by decide +kernel
theorem dX1_invocation_22 : decode cX1_invocation 22 = .ok (.iconst 4, 1) := by decide +kernel
theorem dX1_invocation_23 : decode cX1_invocation 23 = .ok (.aload_n 0, 1) := by decide +kernel
theorem dX1_invocation_24 : decode cX1_invocation 24 = .ok (.getfield 7, 3) := by decide +kernel
theorem dX1_invocation_27 : decode cX1_invocation 27 = .ok (.getfield 84, 3) := by decide +kernel
theorem dX1_invocation_30 : decode cX1_invocation 30 = .ok (.invokevirtual 125, 3) := by decide +kernel
theorem dX1_invocation_33 : decode cX1_invocation 33 = .ok (.aload_n 0, 1) := by decide +kernel
theorem dX1_invocation_34 : decode cX1_invocation 34 = .ok (.getfield 7, 3) := by decide +kernel
theorem dX1_invocation_37 : decode cX1_invocation 37 = .ok (.invokevirtual 136, 3) := by decide +kernel
theorem dX1_invocation_40 : decode cX1_invocation 40 = .ok (.lstore_n 1, 1) := by decide +kernel
theorem dX1_invocation_41 : decode cX1_invocation 41 = .ok (.aload_n 0, 1) := by decide +kernel
theorem dX1_invocation_42 : decode cX1_invocation 42 = .ok (.invokevirtual 106, 3) := by decide +kernel
theorem dX1_invocation_45 : decode cX1_invocation 45 = .ok (.ifCond .eq 56, 3) := by decide +kernel
theorem dX1_invocation_48 : decode cX1_invocation 48 = .ok (.aload_n 0, 1) := by decide +kernel
theorem dX1_invocation_49 : decode cX1_invocation 49 = .ok (.getfield 7, 3) := by decide +kernel
theorem dX1_invocation_52 : decode cX1_invocation 52 = .ok (.invokevirtual 48, 3) := by decide +kernel
theorem dX1_invocation_55 : decode cX1_invocation 55 = .ok (.bipush 41, 2) := by decide +kernel
theorem dX1_invocation_57 : decode cX1_invocation 57 = .ok (.if_icmp .ne 7, 3) := by decide +kernel
theorem dX1_invocation_60 : decode cX1_invocation 60 = .ok (.iconst 0, 1) := by decide +kernel
theorem dX1_invocation_61 : decode cX1_invocation 61 = .ok (.goto 7, 3) := by decide +kernel
theorem dX1_invocation_64 : decode cX1_invocation 64 = .ok (.aload_n 0, 1) := by decide +kernel
theorem dX1_invocation_65 : decode cX1_invocation 65 = .ok (.invokevirtual 140, 3) := by decide +kernel
theorem dX1_invocation_68 : decode cX1_invocation 68 = .ok (.istore_n 3, 1) := by decide +kernel
theorem dX1_invocation_69 : decode cX1_invocation 69 = .ok (.aload_n 0, 1) := by decide +kernel
theorem dX1_invocation_70 : decode cX1_invocation 70 = .ok (.getfield 7, 3) := by decide +kernel
theorem dX1_invocation_73 : decode cX1_invocation 73 = .ok (.bipush 41, 2) := by decide +kernel
theorem dX1_invocation_75 : decode cX1_invocation 75 = .ok (.invokevirtual 72, 3) := by decide +kernel
theorem dX1_invocation_78 : decode cX1_invocation 78 = .ok (.aload_n 0, 1) := by decide +kernel
theorem dX1_invocation_79 : decode cX1_invocation 79 = .ok (.dup, 1) := by decide +kernel
theorem dX1_invocation_80 : decode cX1_invocation 80 = .ok (.getfield 28, 3) := by decide +kernel
theorem dX1_invocation_83 : decode cX1_invocation 83 = .ok (.iconst 1, 1) := by decide +kernel
theorem dX1_invocation_84 : decode cX1_invocation 84 = .ok (.isub, 1) := by decide +kernel
theorem dX1_invocation_85 : decode cX1_invocation 85 = .ok (.putfield 28, 3) := by decide +kernel
theorem dX1_invocation_88 : decode cX1_invocation 88 = .ok (.aload_n 0, 1) := by decide +kernel
theorem dX1_invocation_89 : decode cX1_invocation 89 = .ok (.getfield 13, 3) := by decide +kernel
theorem dX1_invocation_92 : decode cX1_invocation 92 = .ok (.lload_n 1, 1) := by decide +kernel
theorem dX1_invocation_93 : decode cX1_invocation 93 = .ok (.iload_n 3, 1) := by decide +kernel
theorem dX1_invocation_94 : decode cX1_invocation 94 = .ok (.invokestatic 143, 3) := by decide +kernel
theorem dX1_invocation_97 : decode cX1_invocation 97 = .ok (.iload_n 3, 1) := by decide +kernel
theorem dX1_invocation_98 : decode cX1_invocation 98 = .ok (.invokevirtual 149, 3) := by decide +kernel
theorem dX1_invocation_101 : decode cX1_invocation 101 = .ok (.return_, 1) := by decide +kernel
theorem dX1_arguments_0 : decode cX1_arguments 0 = .ok (.aload_n 0, 1) := by decide +kernel
theorem dX1_arguments_1 : decode cX1_arguments 1 = .ok (.invokevirtual 39, 3) := by decide +kernel
theorem dX1_arguments_4 : decode cX1_arguments 4 = .ok (.iconst 1, 1) := by decide +kernel
theorem dX1_arguments_5 : decode cX1_arguments 5 = .ok (.istore_n 1, 1) := by decide +kernel
theorem dX1_arguments_6 : decode cX1_arguments 6 = .ok (.iload_n 1, 1) := by decide +kernel
theorem dX1_arguments_7 : decode cX1_arguments 7 = .ok (.iconst 3, 1) := by decide +kernel
theorem dX1_arguments_8 : decode cX1_arguments 8 = .ok (.if_icmp .gt 52, 3) := by decide +kernel
theorem dX1_arguments_11 : decode cX1_arguments 11 = .ok (.aload_n 0, 1) := by decide +kernel
theorem dX1_arguments_12 : decode cX1_arguments 12 = .ok (.getfield 7, 3) := by decide +kernel
theorem dX1_arguments_15 : decode cX1_arguments 15 = .ok (.invokevirtual 48, 3) := by decide +kernel
theorem dX1_arguments_18 : decode cX1_arguments 18 = .ok (.bipush 44, 2) := by decide +kernel
theorem dX1_arguments_20 : decode cX1_arguments 20 = .ok (.if_icmp .ne 40, 3) := by decide +kernel
theorem dX1_arguments_23 : decode cX1_arguments 23 = .ok (.aload_n 0, 1) := by decide +kernel
theorem dX1_arguments_24 : decode cX1_arguments 24 = .ok (.getfield 7, 3) := by decide +kernel
theorem dX1_arguments_27 : decode cX1_arguments 27 = .ok (.dup, 1) := by decide +kernel
theorem dX1_arguments_28 : decode cX1_arguments 28 = .ok (.getfield 84, 3) := by decide +kernel
theorem dX1_arguments_31 : decode cX1_arguments 31 = .ok (.iconst 1, 1) := by decide +kernel
theorem dX1_arguments_32 : decode cX1_arguments 32 = .ok (.iadd, 1) := by decide +kernel
theorem dX1_arguments_33 : decode cX1_arguments 33 = .ok (.putfield 84, 3) := by decide +kernel
theorem dX1_arguments_36 : decode cX1_arguments 36 = .ok (.aload_n 0, 1) := by decide +kernel
theorem dX1_arguments_37 : decode cX1_arguments 37 = .ok (.iload_n 1, 1) := by decide +kernel
theorem dX1_arguments_38 : decode cX1_arguments 38 = .ok (.iconst 3, 1) := by decide +kernel
theorem dX1_arguments_39 : decode cX1_arguments 39 = .ok (.if_icmp .ne 7, 3) := by decide +kernel
theorem dX1_arguments_42 : decode cX1_arguments 42 = .ok (.iconst 1, 1) := by decide +kernel
theorem dX1_arguments_43 : decode cX1_arguments 43 = .ok (.goto 4, 3) := by decide +kernel
theorem dX1_arguments_46 : decode cX1_arguments 46 = .ok (.iconst 0, 1) := by decide +kernel
theorem dX1_arguments_47 : decode cX1_arguments 47 = .ok (.putfield 31, 3) := by decide +kernel
theorem dX1_arguments_50 : decode cX1_arguments 50 = .ok (.aload_n 0, 1) := by decide +kernel
theorem dX1_arguments_51 : decode cX1_arguments 51 = .ok (.invokevirtual 39, 3) := by decide +kernel
theorem dX1_arguments_54 : decode cX1_arguments 54 = .ok (.iinc 1 1, 3) := by decide +kernel
theorem dX1_arguments_57 : decode cX1_arguments 57 = .ok (.goto (-51), 3) := by decide +kernel
theorem dX1_arguments_60 : decode cX1_arguments 60 = .ok (.iload_n 1, 1) := by decide +kernel
theorem dX1_arguments_61 : decode cX1_arguments 61 = .ok (.iconst 3, 1) := by decide +kernel
theorem dX1_arguments_62 : decode cX1_arguments 62 = .ok (.invokestatic 153, 3) := by decide +kernel
theorem dX1_arguments_65 : decode cX1_arguments 65 = .ok (.ireturn, 1) := by decide +kernel
theorem dX1_takeSign_0 : decode cX1_takeSign 0 = .ok (.aload_n 0, 1) := by decide +kernel
theorem dX1_takeSign_1 : decode cX1_takeSign 1 = .ok (.getfield 7, 3) := by decide +kernel
theorem dX1_takeSign_4 : decode cX1_takeSign 4 = .ok (.invokevirtual 48, 3) := by decide +kernel
theorem dX1_takeSign_7 : decode cX1_takeSign 7 = .ok (.istore_n 1, 1) := by decide +kernel
theorem dX1_takeSign_8 : decode cX1_takeSign 8 = .ok (.aload_n 0, 1) := by decide +kernel
theorem dX1_takeSign_9 : decode cX1_takeSign 9 = .ok (.aload_n 0, 1) := by decide +kernel
theorem dX1_takeSign_10 : decode cX1_takeSign 10 = .ok (.getfield 7, 3) := by decide +kernel
theorem dX1_takeSign_13 : decode cX1_takeSign 13 = .ok (.getfield 84, 3) := by decide +kernel
theorem dX1_takeSign_16 : decode cX1_takeSign 16 = .ok (.invokevirtual 97, 3) := by decide +kernel
theorem dX1_takeSign_19 : decode cX1_takeSign 19 = .ok (.aload_n 0, 1) := by decide +kernel
theorem dX1_takeSign_20 : decode cX1_takeSign 20 = .ok (.getfield 7, 3) := by decide +kernel
theorem dX1_takeSign_23 : decode cX1_takeSign 23 = .ok (.dup, 1) := by decide +kernel
theorem dX1_takeSign_24 : decode cX1_takeSign 24 = .ok (.getfield 84, 3) := by decide +kernel
theorem dX1_takeSign_27 : decode cX1_takeSign 27 = .ok (.iconst 1, 1) := by decide +kernel
theorem dX1_takeSign_28 : decode cX1_takeSign 28 = .ok (.iadd, 1) := by decide +kernel
theorem dX1_takeSign_29 : decode cX1_takeSign 29 = .ok (.putfield 84, 3) := by decide +kernel
theorem dX1_takeSign_32 : decode cX1_takeSign 32 = .ok (.iload_n 1, 1) := by decide +kernel
theorem dX1_takeSign_33 : decode cX1_takeSign 33 = .ok (.ireturn, 1) := by decide +kernel
theorem dX1_countNode_0 : decode cX1_countNode 0 = .ok (.aload_n 0, 1) := by decide +kernel
theorem dX1_countNode_1 : decode cX1_countNode 1 = .ok (.getfield 25, 3) := by decide +kernel
theorem dX1_countNode_4 : decode cX1_countNode 4 = .ok (.bipush 20, 2) := by decide +kernel
theorem dX1_countNode_6 : decode cX1_countNode 6 = .ok (.if_icmp .ge 10, 3) := by decide +kernel
theorem dX1_countNode_9 : decode cX1_countNode 9 = .ok (.aload_n 0, 1) := by decide +kernel
theorem dX1_countNode_10 : decode cX1_countNode 10 = .ok (.getfield 31, 3) := by decide +kernel
theorem dX1_countNode_13 : decode cX1_countNode 13 = .ok (.ifCond .eq 12, 3) := by decide +kernel
theorem dX1_countNode_16 : decode cX1_countNode 16 = .ok (.aload_n 0, 1) := by decide +kernel
theorem dX1_countNode_17 : decode cX1_countNode 17 = .ok (.getfield 7, 3) := by decide +kernel
theorem dX1_countNode_20 : decode cX1_countNode 20 = .ok (.iconst 3, 1) := by decide +kernel
theorem dX1_countNode_21 : decode cX1_countNode 21 = .ok (.iload_n 1, 1) := by decide +kernel
theorem dX1_countNode_22 : decode cX1_countNode 22 = .ok (.invokevirtual 125, 3) := by decide +kernel
theorem dX1_countNode_25 : decode cX1_countNode 25 = .ok (.aload_n 0, 1) := by decide +kernel
theorem dX1_countNode_26 : decode cX1_countNode 26 = .ok (.dup, 1) := by decide +kernel
theorem dX1_countNode_27 : decode cX1_countNode 27 = .ok (.getfield 25, 3) := by decide +kernel
theorem dX1_countNode_30 : decode cX1_countNode 30 = .ok (.iconst 1, 1) := by decide +kernel
theorem dX1_countNode_31 : decode cX1_countNode 31 = .ok (.iadd, 1) := by decide +kernel
theorem dX1_countNode_32 : decode cX1_countNode 32 = .ok (.putfield 25, 3) := by decide +kernel
theorem dX1_countNode_35 : decode cX1_countNode 35 = .ok (.return_, 1) := by decide +kernel
theorem dX1_takeOpen_0 : decode cX1_takeOpen 0 = .ok (.aload_n 0, 1) := by decide +kernel
theorem dX1_takeOpen_1 : decode cX1_takeOpen 1 = .ok (.getfield 7, 3) := by decide +kernel
theorem dX1_takeOpen_4 : decode cX1_takeOpen 4 = .ok (.invokevirtual 48, 3) := by decide +kernel
theorem dX1_takeOpen_7 : decode cX1_takeOpen 7 = .ok (.bipush 40, 2) := by decide +kernel
theorem dX1_takeOpen_9 : decode cX1_takeOpen 9 = .ok (.if_icmp .eq 21, 3) := by decide +kernel
theorem dX1_takeOpen_12 : decode cX1_takeOpen 12 = .ok (.aload_n 0, 1) := by decide +kernel
theorem dX1_takeOpen_13 : decode cX1_takeOpen 13 = .ok (.getfield 7, 3) := by decide +kernel
theorem dX1_takeOpen_16 : decode cX1_takeOpen 16 = .ok (.iconst 1, 1) := by decide +kernel
theorem dX1_takeOpen_17 : decode cX1_takeOpen 17 = .ok (.aload_n 0, 1) := by decide +kernel
theorem dX1_takeOpen_18 : decode cX1_takeOpen 18 = .ok (.getfield 7, 3) := by decide +kernel
theorem dX1_takeOpen_21 : decode cX1_takeOpen 21 = .ok (.getfield 84, 3) := by decide +kernel
theorem dX1_takeOpen_24 : decode cX1_takeOpen 24 = .ok (.invokevirtual 125, 3) := by decide +kernel
theorem dX1_takeOpen_27 : decode cX1_takeOpen 27 = .ok (.goto 34, 3) := by decide +kernel
theorem dX1_takeOpen_30 : decode cX1_takeOpen 30 = .ok (.aload_n 0, 1) := by decide +kernel
theorem dX1_takeOpen_31 : decode cX1_takeOpen 31 = .ok (.getfield 28, 3) := by decide +kernel
theorem dX1_takeOpen_34 : decode cX1_takeOpen 34 = .ok (.bipush 12, 2) := by decide +kernel
theorem dX1_takeOpen_36 : decode cX1_takeOpen 36 = .ok (.if_icmp .ge 10, 3) := by decide +kernel
theorem dX1_takeOpen_39 : decode cX1_takeOpen 39 = .ok (.aload_n 0, 1) := by decide +kernel
theorem dX1_takeOpen_40 : decode cX1_takeOpen 40 = .ok (.getfield 31, 3) := by decide +kernel
theorem dX1_takeOpen_43 : decode cX1_takeOpen 43 = .ok (.ifCond .eq 18, 3) := by decide +kernel
theorem dX1_takeOpen_46 : decode cX1_takeOpen 46 = .ok (.aload_n 0, 1) := by decide +kernel
theorem dX1_takeOpen_47 : decode cX1_takeOpen 47 = .ok (.getfield 7, 3) := by decide +kernel
theorem dX1_takeOpen_50 : decode cX1_takeOpen 50 = .ok (.iconst 3, 1) := by decide +kernel
theorem dX1_takeOpen_51 : decode cX1_takeOpen 51 = .ok (.aload_n 0, 1) := by decide +kernel
theorem dX1_takeOpen_52 : decode cX1_takeOpen 52 = .ok (.getfield 7, 3) := by decide +kernel
theorem dX1_takeOpen_55 : decode cX1_takeOpen 55 = .ok (.getfield 84, 3) := by decide +kernel
theorem dX1_takeOpen_58 : decode cX1_takeOpen 58 = .ok (.invokevirtual 125, 3) := by decide +kernel
theorem dX1_takeOpen_61 : decode cX1_takeOpen 61 = .ok (.aload_n 0, 1) := by decide +kernel
theorem dX1_takeOpen_62 : decode cX1_takeOpen 62 = .ok (.getfield 7, 3) := by decide +kernel
theorem dX1_takeOpen_65 : decode cX1_takeOpen 65 = .ok (.dup, 1) := by decide +kernel
theorem dX1_takeOpen_66 : decode cX1_takeOpen 66 = .ok (.getfield 84, 3) := by decide +kernel
theorem dX1_takeOpen_69 : decode cX1_takeOpen 69 = .ok (.iconst 1, 1) := by decide +kernel
theorem dX1_takeOpen_70 : decode cX1_takeOpen 70 = .ok (.iadd, 1) := by decide +kernel
theorem dX1_takeOpen_71 : decode cX1_takeOpen 71 = .ok (.putfield 84, 3) := by decide +kernel
theorem dX1_takeOpen_74 : decode cX1_takeOpen 74 = .ok (.aload_n 0, 1) := by decide +kernel
theorem dX1_takeOpen_75 : decode cX1_takeOpen 75 = .ok (.dup, 1) := by decide +kernel
theorem dX1_takeOpen_76 : decode cX1_takeOpen 76 = .ok (.getfield 28, 3) := by decide +kernel
theorem dX1_takeOpen_79 : decode cX1_takeOpen 79 = .ok (.iconst 1, 1) := by decide +kernel
theorem dX1_takeOpen_80 : decode cX1_takeOpen 80 = .ok (.iadd, 1) := by decide +kernel
theorem dX1_takeOpen_81 : decode cX1_takeOpen 81 = .ok (.putfield 28, 3) := by decide +kernel
theorem dX1_takeOpen_84 : decode cX1_takeOpen 84 = .ok (.aload_n 0, 1) := by decide +kernel
theorem dX1_takeOpen_85 : decode cX1_takeOpen 85 = .ok (.getfield 7, 3) := by decide +kernel
theorem dX1_takeOpen_88 : decode cX1_takeOpen 88 = .ok (.getfield 159, 3) := by decide +kernel
theorem dX1_takeOpen_91 : decode cX1_takeOpen 91 = .ok (.ifCond .ne 7, 3) := by decide +kernel
theorem dX1_takeOpen_94 : decode cX1_takeOpen 94 = .ok (.iconst 1, 1) := by decide +kernel
theorem dX1_takeOpen_95 : decode cX1_takeOpen 95 = .ok (.goto 4, 3) := by decide +kernel
theorem dX1_takeOpen_98 : decode cX1_takeOpen 98 = .ok (.iconst 0, 1) := by decide +kernel
theorem dX1_takeOpen_99 : decode cX1_takeOpen 99 = .ok (.ireturn, 1) := by decide +kernel
theorem dX2_init_0 : decode cX2_init 0 = .ok (.aload_n 0, 1) := by decide +kernel
theorem dX2_init_1 : decode cX2_init 1 = .ok (.invokespecial 1, 3) := by decide +kernel
theorem dX2_init_4 : decode cX2_init 4 = .ok (.aload_n 0, 1) := by decide +kernel
theorem dX2_init_5 : decode cX2_init 5 = .ok (.new 7, 3) := by decide +kernel
theorem dX2_init_8 : decode cX2_init 8 = .ok (.dup, 1) := by decide +kernel
theorem dX2_init_9 : decode cX2_init 9 = .ok (.invokespecial 9, 3) := by decide +kernel
theorem dX2_init_12 : decode cX2_init 12 = .ok (.putfield 10, 3) := by decide +kernel
theorem dX2_init_15 : decode cX2_init 15 = .ok (.aload_n 0, 1) := by decide +kernel
theorem dX2_init_16 : decode cX2_init 16 = .ok (.new 7, 3) := by decide +kernel
theorem dX2_init_19 : decode cX2_init 19 = .ok (.dup, 1) := by decide +kernel
theorem dX2_init_20 : decode cX2_init 20 = .ok (.invokespecial 9, 3) := by decide +kernel
theorem dX2_init_23 : decode cX2_init 23 = .ok (.putfield 16, 3) := by decide +kernel
theorem dX2_init_26 : decode cX2_init 26 = .ok (.aload_n 0, 1) := by decide +kernel
theorem dX2_init_27 : decode cX2_init 27 = .ok (.bipush 48, 2) := by decide +kernel
theorem dX2_init_29 : decode cX2_init 29 = .ok (.newarray .int, 2) := by decide +kernel
theorem dX2_init_31 : decode cX2_init 31 = .ok (.putfield 21, 3) := by decide +kernel
theorem dX2_init_34 : decode cX2_init 34 = .ok (.return_, 1) := by decide +kernel
theorem dX2_renew_0 : decode cX2_renew 0 = .ok (.aload_n 0, 1) := by decide +kernel
theorem dX2_renew_1 : decode cX2_renew 1 = .ok (.iconst 0, 1) := by decide +kernel
theorem dX2_renew_2 : decode cX2_renew 2 = .ok (.putfield 25, 3) := by decide +kernel
theorem dX2_renew_5 : decode cX2_renew 5 = .ok (.aload_n 0, 1) := by decide +kernel
theorem dX2_renew_6 : decode cX2_renew 6 = .ok (.iconst 0, 1) := by decide +kernel
theorem dX2_renew_7 : decode cX2_renew 7 = .ok (.putfield 29, 3) := by decide +kernel
theorem dX2_renew_10 : decode cX2_renew 10 = .ok (.aload_n 0, 1) := by decide +kernel
theorem dX2_renew_11 : decode cX2_renew 11 = .ok (.bipush 99, 2) := by decide +kernel
theorem dX2_renew_13 : decode cX2_renew 13 = .ok (.putfield 33, 3) := by decide +kernel
theorem dX2_renew_16 : decode cX2_renew 16 = .ok (.aload_n 0, 1) := by decide +kernel
theorem dX2_renew_17 : decode cX2_renew 17 = .ok (.iconst 0, 1) := by decide +kernel
theorem dX2_renew_18 : decode cX2_renew 18 = .ok (.putfield 36, 3) := by decide +kernel
theorem dX2_renew_21 : decode cX2_renew 21 = .ok (.aload_n 0, 1) := by decide +kernel
theorem dX2_renew_22 : decode cX2_renew 22 = .ok (.iconst 0, 1) := by decide +kernel
theorem dX2_renew_23 : decode cX2_renew 23 = .ok (.putfield 39, 3) := by decide +kernel
theorem dX2_renew_26 : decode cX2_renew 26 = .ok (.aload_n 0, 1) := by decide +kernel
theorem dX2_renew_27 : decode cX2_renew 27 = .ok (.getfield 21, 3) := by decide +kernel
theorem dX2_renew_30 : decode cX2_renew 30 = .ok (.iconst 0, 1) := by decide +kernel
theorem dX2_renew_31 : decode cX2_renew 31 = .ok (.invokestatic 42, 3) := by decide +kernel
theorem dX2_renew_34 : decode cX2_renew 34 = .ok (.return_, 1) := by decide +kernel
theorem dX2_meet_0 : decode cX2_meet 0 = .ok (.aload_n 0, 1) := by decide +kernel
theorem dX2_meet_1 : decode cX2_meet 1 = .ok (.getfield 48, 3) := by decide +kernel
theorem dX2_meet_4 : decode cX2_meet 4 = .ok (.lload_n 2, 1) := by decide +kernel
theorem dX2_meet_5 : decode cX2_meet 5 = .ok (.invokestatic 52, 3) := by decide +kernel
theorem dX2_meet_8 : decode cX2_meet 8 = .ok (.ifCond .eq 15, 3) := by decide +kernel
theorem dX2_meet_11 : decode cX2_meet 11 = .ok (.aload_n 0, 1) := by decide +kernel
theorem dX2_meet_12 : decode cX2_meet 12 = .ok (.dup, 1) := by decide +kernel
theorem dX2_meet_13 : decode cX2_meet 13 = .ok (.getfield 39, 3) := by decide +kernel
theorem dX2_meet_16 : decode cX2_meet 16 = .ok (.iconst 1, 1) := by decide +kernel
theorem dX2_meet_17 : decode cX2_meet 17 = .ok (.iload_n 1, 1) := by decide +kernel
theorem dX2_meet_18 : decode cX2_meet 18 = .ok (.ishl, 1) := by decide +kernel
theorem dX2_meet_19 : decode cX2_meet 19 = .ok (.ior, 1) := by decide +kernel
theorem dX2_meet_20 : decode cX2_meet 20 = .ok (.putfield 39, 3) := by decide +kernel
theorem dX2_meet_23 : decode cX2_meet 23 = .ok (.return_, 1) := by decide +kernel
theorem dX2_sees_0 : decode cX2_sees 0 = .ok (.aload_n 0, 1) := by decide +kernel
theorem dX2_sees_1 : decode cX2_sees 1 = .ok (.getfield 25, 3) := by decide +kernel
theorem dX2_sees_4 : decode cX2_sees 4 = .ok (.ifCond .eq 19, 3) := by decide +kernel
theorem dX2_sees_7 : decode cX2_sees 7 = .ok (.aload_n 0, 1) := by decide +kernel
theorem dX2_sees_8 : decode cX2_sees 8 = .ok (.getfield 39, 3) := by decide +kernel
theorem dX2_sees_11 : decode cX2_sees 11 = .ok (.iload_n 1, 1) := by decide +kernel
theorem dX2_sees_12 : decode cX2_sees 12 = .ok (.iushr, 1) := by decide +kernel
theorem dX2_sees_13 : decode cX2_sees 13 = .ok (.iconst 1, 1) := by decide +kernel
theorem dX2_sees_14 : decode cX2_sees 14 = .ok (.iand, 1) := by decide +kernel
theorem dX2_sees_15 : decode cX2_sees 15 = .ok (.iconst 1, 1) := by decide +kernel
theorem dX2_sees_16 : decode cX2_sees 16 = .ok (.if_icmp .ne 7, 3) := by decide +kernel
theorem dX2_sees_19 : decode cX2_sees 19 = .ok (.iconst 1, 1) := by decide +kernel
theorem dX2_sees_20 : decode cX2_sees 20 = .ok (.goto 4, 3) := by decide +kernel
theorem dX2_sees_23 : decode cX2_sees 23 = .ok (.iconst 0, 1) := by decide +kernel
theorem dX2_sees_24 : decode cX2_sees 24 = .ok (.ireturn, 1) := by decide +kernel
theorem dX2_left_0 : decode cX2_left 0 = .ok (.aload_n 0, 1) := by decide +kernel
theorem dX2_left_1 : decode cX2_left 1 = .ok (.getfield 25, 3) := by decide +kernel
theorem dX2_left_4 : decode cX2_left 4 = .ok (.iconst 1, 1) := by decide +kernel
theorem dX2_left_5 : decode cX2_left 5 = .ok (.if_icmp .ne 15, 3) := by decide +kernel
theorem dX2_left_8 : decode cX2_left 8 = .ok (.aload_n 0, 1) := by decide +kernel
theorem dX2_left_9 : decode cX2_left 9 = .ok (.getfield 33, 3) := by decide +kernel
theorem dX2_left_12 : decode cX2_left 12 = .ok (.aload_n 0, 1) := by decide +kernel
theorem dX2_left_13 : decode cX2_left 13 = .ok (.getfield 36, 3) := by decide +kernel
theorem dX2_left_16 : decode cX2_left 16 = .ok (.isub, 1) := by decide +kernel
theorem dX2_left_17 : decode cX2_left 17 = .ok (.goto 4, 3) := by decide +kernel
theorem dX2_left_20 : decode cX2_left 20 = .ok (.iconst 0, 1) := by decide +kernel
theorem dX2_left_21 : decode cX2_left 21 = .ok (.ireturn, 1) := by decide +kernel
theorem dX2_countRecord_0 : decode cX2_countRecord 0 = .ok (.aload_n 0, 1) := by decide +kernel
theorem dX2_countRecord_1 : decode cX2_countRecord 1 = .ok (.dup, 1) := by decide +kernel
theorem dX2_countRecord_2 : decode cX2_countRecord 2 = .ok (.getfield 36, 3) := by decide +kernel
theorem dX2_countRecord_5 : decode cX2_countRecord 5 = .ok (.iconst 1, 1) := by decide +kernel
theorem dX2_countRecord_6 : decode cX2_countRecord 6 = .ok (.iadd, 1) := by decide +kernel
theorem dX2_countRecord_7 : decode cX2_countRecord 7 = .ok (.putfield 36, 3) := by decide +kernel
theorem dX2_countRecord_10 : decode cX2_countRecord 10 = .ok (.aload_n 0, 1) := by decide +kernel
theorem dX2_countRecord_11 : decode cX2_countRecord 11 = .ok (.getfield 36, 3) := by decide +kernel
theorem dX2_countRecord_14 : decode cX2_countRecord 14 = .ok (.aload_n 0, 1) := by decide +kernel
theorem dX2_countRecord_15 : decode cX2_countRecord 15 = .ok (.getfield 33, 3) := by decide +kernel
theorem dX2_countRecord_18 : decode cX2_countRecord 18 = .ok (.if_icmp .lt 8, 3) := by decide +kernel
theorem dX2_countRecord_21 : decode cX2_countRecord 21 = .ok (.aload_n 0, 1) := by decide +kernel
theorem dX2_countRecord_22 : decode cX2_countRecord 22 = .ok (.iconst 0, 1) := by decide +kernel
theorem dX2_countRecord_23 : decode cX2_countRecord 23 = .ok (.putfield 25, 3) := by decide +kernel
theorem dX2_countRecord_26 : decode cX2_countRecord 26 = .ok (.return_, 1) := by decide +kernel
theorem dX3_init_0 : decode cX3_init 0 = .ok (.aload_n 0, 1) := by decide +kernel
theorem dX3_init_1 : decode cX3_init 1 = .ok (.invokespecial 3, 3) := by decide +kernel
theorem dX3_init_4 : decode cX3_init 4 = .ok (.aload_n 0, 1) := by decide +kernel
theorem dX3_init_5 : decode cX3_init 5 = .ok (.bipush 8, 2) := by decide +kernel
theorem dX3_init_7 : decode cX3_init 7 = .ok (.anewarray 11, 3) := by decide +kernel
theorem dX3_init_10 : decode cX3_init 10 = .ok (.putfield 13, 3) := by decide +kernel
theorem dX3_init_13 : decode cX3_init 13 = .ok (.iconst 0, 1) := by decide +kernel
theorem dX3_init_14 : decode cX3_init 14 = .ok (.istore_n 1, 1) := by decide +kernel
theorem dX3_init_15 : decode cX3_init 15 = .ok (.iload_n 1, 1) := by decide +kernel
theorem dX3_init_16 : decode cX3_init 16 = .ok (.bipush 8, 2) := by decide +kernel
theorem dX3_init_18 : decode cX3_init 18 = .ok (.if_icmp .ge 22, 3) := by decide +kernel
theorem dX3_init_21 : decode cX3_init 21 = .ok (.aload_n 0, 1) := by decide +kernel
theorem dX3_init_22 : decode cX3_init 22 = .ok (.getfield 13, 3) := by decide +kernel
theorem dX3_init_25 : decode cX3_init 25 = .ok (.iload_n 1, 1) := by decide +kernel
theorem dX3_init_26 : decode cX3_init 26 = .ok (.new 11, 3) := by decide +kernel
theorem dX3_init_29 : decode cX3_init 29 = .ok (.dup, 1) := by decide +kernel
theorem dX3_init_30 : decode cX3_init 30 = .ok (.invokespecial 17, 3) := by decide +kernel
theorem dX3_init_33 : decode cX3_init 33 = .ok (.aastore, 1) := by decide +kernel
theorem dX3_init_34 : decode cX3_init 34 = .ok (.iinc 1 1, 3) := by decide +kernel
theorem dX3_init_37 : decode cX3_init 37 = .ok (.goto (-22), 3) := by decide +kernel
theorem dX3_init_40 : decode cX3_init 40 = .ok (.aload_n 0, 1) := by decide +kernel
theorem dX3_init_41 : decode cX3_init 41 = .ok (.new 11, 3) := by decide +kernel
theorem dX3_init_44 : decode cX3_init 44 = .ok (.dup, 1) := by decide +kernel
theorem dX3_init_45 : decode cX3_init 45 = .ok (.invokespecial 17, 3) := by decide +kernel
theorem dX3_init_48 : decode cX3_init 48 = .ok (.putfield 18, 3) := by decide +kernel
theorem dX3_init_51 : decode cX3_init 51 = .ok (.return_, 1) := by decide +kernel
theorem dX3_has_0 : decode cX3_has 0 = .ok (.iload_n 1, 1) := by decide +kernel
theorem dX3_has_1 : decode cX3_has 1 = .ok (.ifCond .lt 25, 3) := by decide +kernel
theorem dX3_has_4 : decode cX3_has 4 = .ok (.iload_n 1, 1) := by decide +kernel
theorem dX3_has_5 : decode cX3_has 5 = .ok (.bipush 8, 2) := by decide +kernel
theorem dX3_has_7 : decode cX3_has 7 = .ok (.if_icmp .ge 19, 3) := by decide +kernel
theorem dX3_has_10 : decode cX3_has 10 = .ok (.aload_n 0, 1) := by decide +kernel
theorem dX3_has_11 : decode cX3_has 11 = .ok (.getfield 13, 3) := by decide +kernel
theorem dX3_has_14 : decode cX3_has 14 = .ok (.iload_n 1, 1) := by decide +kernel
theorem dX3_has_15 : decode cX3_has 15 = .ok (.aaload, 1) := by decide +kernel
theorem dX3_has_16 : decode cX3_has 16 = .ok (.getfield 22, 3) := by decide +kernel
theorem dX3_has_19 : decode cX3_has 19 = .ok (.ifCond .eq 7, 3) := by decide +kernel
theorem dX3_has_22 : decode cX3_has 22 = .ok (.iconst 1, 1) := by decide +kernel
theorem dX3_has_23 : decode cX3_has 23 = .ok (.goto 4, 3) := by decide +kernel
theorem dX3_has_26 : decode cX3_has 26 = .ok (.iconst 0, 1) := by decide +kernel
theorem dX3_has_27 : decode cX3_has 27 = .ok (.ireturn, 1) := by decide +kernel
theorem dX3_at_0 : decode cX3_at 0 = .ok (.iload_n 1, 1) := by decide +kernel
theorem dX3_at_1 : decode cX3_at 1 = .ok (.ifCond .lt 18, 3) := by decide +kernel
theorem dX3_at_4 : decode cX3_at 4 = .ok (.iload_n 1, 1) := by decide +kernel
theorem dX3_at_5 : decode cX3_at 5 = .ok (.bipush 8, 2) := by decide +kernel
theorem dX3_at_7 : decode cX3_at 7 = .ok (.if_icmp .ge 12, 3) := by decide +kernel
theorem dX3_at_10 : decode cX3_at 10 = .ok (.aload_n 0, 1) := by decide +kernel
theorem dX3_at_11 : decode cX3_at 11 = .ok (.getfield 13, 3) := by decide +kernel
theorem dX3_at_14 : decode cX3_at 14 = .ok (.iload_n 1, 1) := by decide +kernel
theorem dX3_at_15 : decode cX3_at 15 = .ok (.aaload, 1) := by decide +kernel
theorem dX3_at_16 : decode cX3_at 16 = .ok (.goto 7, 3) := by decide +kernel
theorem dX3_at_23 : decode cX3_at 23 = .ok (.areturn, 1) := by decide +kernel
theorem dX3_begun_0 : decode cX3_begun 0 = .ok (.iconst 0, 1) := by decide +kernel
theorem dX3_begun_1 : decode cX3_begun 1 = .ok (.istore_n 2, 1) := by decide +kernel
theorem dX3_begun_2 : decode cX3_begun 2 = .ok (.iload_n 2, 1) := by decide +kernel
theorem dX3_begun_3 : decode cX3_begun 3 = .ok (.bipush 8, 2) := by decide +kernel
theorem dX3_begun_5 : decode cX3_begun 5 = .ok (.if_icmp .ge 75, 3) := by decide +kernel
theorem dX3_begun_8 : decode cX3_begun 8 = .ok (.aload_n 0, 1) := by decide +kernel
theorem dX3_begun_9 : decode cX3_begun 9 = .ok (.getfield 13, 3) := by decide +kernel
theorem dX3_begun_12 : decode cX3_begun 12 = .ok (.iload_n 2, 1) := by decide +kernel
theorem dX3_begun_13 : decode cX3_begun 13 = .ok (.aaload, 1) := by decide +kernel
theorem dX3_begun_14 : decode cX3_begun 14 = .ok (.getfield 22, 3) := by decide +kernel
theorem dX3_begun_17 : decode cX3_begun 17 = .ok (.ifCond .ne 57, 3) := by decide +kernel
theorem dX3_begun_20 : decode cX3_begun 20 = .ok (.aload_n 0, 1) := by decide +kernel
theorem dX3_begun_21 : decode cX3_begun 21 = .ok (.getfield 18, 3) := by decide +kernel
theorem dX3_begun_24 : decode cX3_begun 24 = .ok (.astore_n 3, 1) := by decide +kernel
theorem dX3_begun_25 : decode cX3_begun 25 = .ok (.aload_n 0, 1) := by decide +kernel
theorem dX3_begun_26 : decode cX3_begun 26 = .ok (.aload_n 0, 1) := by decide +kernel
theorem dX3_begun_27 : decode cX3_begun 27 = .ok (.getfield 13, 3) := by decide +kernel
theorem dX3_begun_30 : decode cX3_begun 30 = .ok (.iload_n 2, 1) := by decide +kernel
theorem dX3_begun_31 : decode cX3_begun 31 = .ok (.aaload, 1) := by decide +kernel
theorem dX3_begun_32 : decode cX3_begun 32 = .ok (.putfield 18, 3) := by decide +kernel
theorem dX3_begun_35 : decode cX3_begun 35 = .ok (.aload_n 0, 1) := by decide +kernel
theorem dX3_begun_36 : decode cX3_begun 36 = .ok (.getfield 13, 3) := by decide +kernel
theorem dX3_begun_39 : decode cX3_begun 39 = .ok (.iload_n 2, 1) := by decide +kernel
theorem dX3_begun_40 : decode cX3_begun 40 = .ok (.aload_n 3, 1) := by decide +kernel
theorem dX3_begun_41 : decode cX3_begun 41 = .ok (.aastore, 1) := by decide +kernel
theorem dX3_begun_42 : decode cX3_begun 42 = .ok (.iconst 0, 1) := by decide +kernel
theorem dX3_begun_43 : decode cX3_begun 43 = .ok (.istore 4, 2) := by decide +kernel
theorem dX3_begun_45 : decode cX3_begun 45 = .ok (.iload 4, 2) := by decide +kernel
theorem dX3_begun_47 : decode cX3_begun 47 = .ok (.aload_n 1, 1) := by decide +kernel
theorem dX3_begun_48 : decode cX3_begun 48 = .ok (.invokevirtual 26, 3) := by decide +kernel
theorem dX3_begun_51 : decode cX3_begun 51 = .ok (.if_icmp .ge 21, 3) := by decide +kernel
theorem dX3_begun_54 : decode cX3_begun 54 = .ok (.aload_n 3, 1) := by decide +kernel
theorem dX3_begun_55 : decode cX3_begun 55 = .ok (.iload 4, 2) := by decide +kernel
theorem dX3_begun_57 : decode cX3_begun 57 = .ok (.aload_n 1, 1) := by decide +kernel
theorem dX3_begun_58 : decode cX3_begun 58 = .ok (.iload 4, 2) := by decide +kernel
theorem dX3_begun_60 : decode cX3_begun 60 = .ok (.invokevirtual 32, 3) := by decide +kernel
theorem dX3_begun_63 : decode cX3_begun 63 = .ok (.invokevirtual 36, 3) := by decide +kernel
theorem dX3_begun_66 : decode cX3_begun 66 = .ok (.iinc 4 1, 3) := by decide +kernel
theorem dX3_begun_69 : decode cX3_begun 69 = .ok (.goto (-24), 3) := by decide +kernel
theorem dX3_begun_72 : decode cX3_begun 72 = .ok (.iload_n 2, 1) := by decide +kernel
theorem dX3_begun_73 : decode cX3_begun 73 = .ok (.ireturn, 1) := by decide +kernel
theorem dX3_begun_74 : decode cX3_begun 74 = .ok (.iinc 2 1, 3) := by decide +kernel
theorem dX3_begun_77 : decode cX3_begun 77 = .ok (.goto (-75), 3) := by decide +kernel
theorem dX3_begun_80 : decode cX3_begun 80 = .ok (.iconst (-1), 1) := by decide +kernel
theorem dX3_begun_81 : decode cX3_begun 81 = .ok (.ireturn, 1) := by decide +kernel
theorem dX3_ended_0 : decode cX3_ended 0 = .ok (.aload_n 0, 1) := by decide +kernel
theorem dX3_ended_1 : decode cX3_ended 1 = .ok (.iload_n 1, 1) := by decide +kernel
theorem dX3_ended_2 : decode cX3_ended 2 = .ok (.invokevirtual 40, 3) := by decide +kernel
theorem dX3_ended_5 : decode cX3_ended 5 = .ok (.ifCond .ne 5, 3) := by decide +kernel
theorem dX3_ended_8 : decode cX3_ended 8 = .ok (.iconst (-1), 1) := by decide +kernel
theorem dX3_ended_9 : decode cX3_ended 9 = .ok (.ireturn, 1) := by decide +kernel
theorem dX3_ended_10 : decode cX3_ended 10 = .ok (.aload_n 0, 1) := by decide +kernel
theorem dX3_ended_11 : decode cX3_ended 11 = .ok (.getfield 13, 3) := by decide +kernel
theorem dX3_ended_14 : decode cX3_ended 14 = .ok (.iload_n 1, 1) := by decide +kernel
theorem dX3_ended_15 : decode cX3_ended 15 = .ok (.aaload, 1) := by decide +kernel
theorem dX3_ended_16 : decode cX3_ended 16 = .ok (.iconst 0, 1) := by decide +kernel
theorem dX3_ended_17 : decode cX3_ended 17 = .ok (.putfield 22, 3) := by decide +kernel
theorem dX3_ended_20 : decode cX3_ended 20 = .ok (.iload_n 1, 1) := by decide +kernel
theorem dX3_ended_21 : decode cX3_ended 21 = .ok (.ireturn, 1) := by decide +kernel
theorem dX3_endAll_0 : decode cX3_endAll 0 = .ok (.iconst 0, 1) := by decide +kernel
theorem dX3_endAll_1 : decode cX3_endAll 1 = .ok (.istore_n 1, 1) := by decide +kernel
theorem dX3_endAll_2 : decode cX3_endAll 2 = .ok (.iconst 0, 1) := by decide +kernel
theorem dX3_endAll_3 : decode cX3_endAll 3 = .ok (.istore_n 2, 1) := by decide +kernel
theorem dX3_endAll_4 : decode cX3_endAll 4 = .ok (.iload_n 2, 1) := by decide +kernel
theorem dX3_endAll_5 : decode cX3_endAll 5 = .ok (.bipush 8, 2) := by decide +kernel
theorem dX3_endAll_7 : decode cX3_endAll 7 = .ok (.if_icmp .ge 39, 3) := by decide +kernel
theorem dX3_endAll_10 : decode cX3_endAll 10 = .ok (.iload_n 1, 1) := by decide +kernel
theorem dX3_endAll_11 : decode cX3_endAll 11 = .ok (.aload_n 0, 1) := by decide +kernel
theorem dX3_endAll_12 : decode cX3_endAll 12 = .ok (.getfield 13, 3) := by decide +kernel
theorem dX3_endAll_15 : decode cX3_endAll 15 = .ok (.iload_n 2, 1) := by decide +kernel
theorem dX3_endAll_16 : decode cX3_endAll 16 = .ok (.aaload, 1) := by decide +kernel
theorem dX3_endAll_17 : decode cX3_endAll 17 = .ok (.getfield 22, 3) := by decide +kernel
theorem dX3_endAll_20 : decode cX3_endAll 20 = .ok (.ifCond .ne 7, 3) := by decide +kernel
theorem dX3_endAll_23 : decode cX3_endAll 23 = .ok (.iconst 0, 1) := by decide +kernel
theorem dX3_endAll_24 : decode cX3_endAll 24 = .ok (.goto 4, 3) := by decide +kernel
theorem dX3_endAll_27 : decode cX3_endAll 27 = .ok (.iconst 1, 1) := by decide +kernel
theorem dX3_endAll_28 : decode cX3_endAll 28 = .ok (.iadd, 1) := by decide +kernel
theorem dX3_endAll_29 : decode cX3_endAll 29 = .ok (.istore_n 1, 1) := by decide +kernel
theorem dX3_endAll_30 : decode cX3_endAll 30 = .ok (.aload_n 0, 1) := by decide +kernel
theorem dX3_endAll_31 : decode cX3_endAll 31 = .ok (.getfield 13, 3) := by decide +kernel
theorem dX3_endAll_34 : decode cX3_endAll 34 = .ok (.iload_n 2, 1) := by decide +kernel
theorem dX3_endAll_35 : decode cX3_endAll 35 = .ok (.aaload, 1) := by decide +kernel
theorem dX3_endAll_36 : decode cX3_endAll 36 = .ok (.iconst 0, 1) := by decide +kernel
theorem dX3_endAll_37 : decode cX3_endAll 37 = .ok (.putfield 22, 3) := by decide +kernel
theorem dX3_endAll_40 : decode cX3_endAll 40 = .ok (.iinc 2 1, 3) := by decide +kernel
theorem dX3_endAll_43 : decode cX3_endAll 43 = .ok (.goto (-39), 3) := by decide +kernel
theorem dX3_endAll_46 : decode cX3_endAll 46 = .ok (.iload_n 1, 1) := by decide +kernel
theorem dX3_endAll_47 : decode cX3_endAll 47 = .ok (.ireturn, 1) := by decide +kernel
theorem dX3_meet_0 : decode cX3_meet 0 = .ok (.iconst 0, 1) := by decide +kernel
theorem dX3_meet_1 : decode cX3_meet 1 = .ok (.istore 4, 2) := by decide +kernel
theorem dX3_meet_3 : decode cX3_meet 3 = .ok (.iload 4, 2) := by decide +kernel
theorem dX3_meet_5 : decode cX3_meet 5 = .ok (.bipush 8, 2) := by decide +kernel
theorem dX3_meet_7 : decode cX3_meet 7 = .ok (.if_icmp .ge 21, 3) := by decide +kernel
theorem dX3_meet_10 : decode cX3_meet 10 = .ok (.aload_n 0, 1) := by decide +kernel
theorem dX3_meet_11 : decode cX3_meet 11 = .ok (.getfield 13, 3) := by decide +kernel
theorem dX3_meet_14 : decode cX3_meet 14 = .ok (.iload 4, 2) := by decide +kernel
theorem dX3_meet_16 : decode cX3_meet 16 = .ok (.aaload, 1) := by decide +kernel
theorem dX3_meet_17 : decode cX3_meet 17 = .ok (.iload_n 1, 1) := by decide +kernel
theorem dX3_meet_18 : decode cX3_meet 18 = .ok (.lload_n 2, 1) := by decide +kernel
theorem dX3_meet_19 : decode cX3_meet 19 = .ok (.invokevirtual 36, 3) := by decide +kernel
theorem dX3_meet_22 : decode cX3_meet 22 = .ok (.iinc 4 1, 3) := by decide +kernel
theorem dX3_meet_25 : decode cX3_meet 25 = .ok (.goto (-22), 3) := by decide +kernel
theorem dX3_meet_28 : decode cX3_meet 28 = .ok (.return_, 1) := by decide +kernel
theorem dX4_init_0 : decode cX4_init 0 = .ok (.aload_n 0, 1) := by decide +kernel
theorem dX4_init_1 : decode cX4_init 1 = .ok (.invokespecial 3, 3) := by decide +kernel
theorem dX4_init_4 : decode cX4_init 4 = .ok (.aload_n 0, 1) := by decide +kernel
theorem dX4_init_5 : decode cX4_init 5 = .ok (.aload_n 1, 1) := by decide +kernel
theorem dX4_init_6 : decode cX4_init 6 = .ok (.putfield 9, 3) := by decide +kernel
theorem dX4_init_9 : decode cX4_init 9 = .ok (.aload_n 0, 1) := by decide +kernel
theorem dX4_init_10 : decode cX4_init 10 = .ok (.aload_n 2, 1) := by decide +kernel
theorem dX4_init_11 : decode cX4_init 11 = .ok (.putfield 15, 3) := by decide +kernel
theorem dX4_init_14 : decode cX4_init 14 = .ok (.aload_n 0, 1) := by decide +kernel
theorem dX4_init_15 : decode cX4_init 15 = .ok (.aload_n 3, 1) := by decide +kernel
theorem dX4_init_16 : decode cX4_init 16 = .ok (.putfield 19, 3) := by decide +kernel
theorem dX4_init_19 : decode cX4_init 19 = .ok (.aload_n 0, 1) := by decide +kernel
theorem dX4_init_20 : decode cX4_init 20 = .ok (.aload 4, 2) := by decide +kernel
theorem dX4_init_22 : decode cX4_init 22 = .ok (.putfield 23, 3) := by decide +kernel
theorem dX4_init_25 : decode cX4_init 25 = .ok (.aload_n 0, 1) := by decide +kernel
theorem dX4_init_26 : decode cX4_init 26 = .ok (.bipush 12, 2) := by decide +kernel
theorem dX4_init_28 : decode cX4_init 28 = .ok (.bipush 7, 2) := by decide +kernel
theorem dX4_init_30 : decode cX4_init 30 = .ok (.multianewarray 26 2, 4) := by decide +kernel
theorem dX4_init_34 : decode cX4_init 34 = .ok (.putfield 28, 3) := by decide +kernel
theorem dX4_init_37 : decode cX4_init 37 = .ok (.aload_n 0, 1) := by decide +kernel
theorem dX4_init_38 : decode cX4_init 38 = .ok (.sipush 220, 3) := by decide +kernel
theorem dX4_init_41 : decode cX4_init 41 = .ok (.newarray .int, 2) := by decide +kernel
theorem dX4_init_43 : decode cX4_init 43 = .ok (.putfield 33, 3) := by decide +kernel
theorem dX4_init_46 : decode cX4_init 46 = .ok (.return_, 1) := by decide +kernel
theorem dX4_setParameters_0 : decode cX4_setParameters 0 = .ok (.aload_n 0, 1) := by decide +kernel
theorem dX4_setParameters_1 : decode cX4_setParameters 1 = .ok (.getfield 28, 3) := by decide +kernel
theorem dX4_setParameters_4 : decode cX4_setParameters 4 = .ok (.iconst 1, 1) := by decide +kernel
theorem dX4_setParameters_5 : decode cX4_setParameters 5 = .ok (.aaload, 1) := by decide +kernel
theorem dX4_setParameters_6 : decode cX4_setParameters 6 = .ok (.astore 5, 2) := by decide +kernel


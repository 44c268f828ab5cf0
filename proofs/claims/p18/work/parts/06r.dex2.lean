theorem dX6_pastStars_25 : decode cX6_pastStars 25 = .ok (.invokestatic 13, 3) := by decide +kernel
theorem dX6_pastStars_28 : decode cX6_pastStars 28 = .ok (.bipush 28, 2) := by decide +kernel
theorem dX6_pastStars_30 : decode cX6_pastStars 30 = .ok (.if_icmp .ne 12, 3) := by decide +kernel
theorem dX6_pastStars_33 : decode cX6_pastStars 33 = .ok (.iload_n 3, 1) := by decide +kernel
theorem dX6_pastStars_34 : decode cX6_pastStars 34 = .ok (.iconst 1, 1) := by decide +kernel
theorem dX6_pastStars_35 : decode cX6_pastStars 35 = .ok (.iload 4, 2) := by decide +kernel
theorem dX6_pastStars_37 : decode cX6_pastStars 37 = .ok (.iconst 1, 1) := by decide +kernel
theorem dX6_pastStars_38 : decode cX6_pastStars 38 = .ok (.iadd, 1) := by decide +kernel
theorem dX6_pastStars_39 : decode cX6_pastStars 39 = .ok (.ishl, 1) := by decide +kernel
theorem dX6_pastStars_40 : decode cX6_pastStars 40 = .ok (.ior, 1) := by decide +kernel
theorem dX6_pastStars_41 : decode cX6_pastStars 41 = .ok (.istore_n 3, 1) := by decide +kernel
theorem dX6_pastStars_42 : decode cX6_pastStars 42 = .ok (.iinc 4 1, 3) := by decide +kernel
theorem dX6_pastStars_45 : decode cX6_pastStars 45 = .ok (.goto (-40), 3) := by decide +kernel
theorem dX6_pastStars_48 : decode cX6_pastStars 48 = .ok (.iload_n 3, 1) := by decide +kernel
theorem dX6_pastStars_49 : decode cX6_pastStars 49 = .ok (.ireturn, 1) := by decide +kernel
theorem dX6_pastSign_0 : decode cX6_pastSign 0 = .ok (.iconst 0, 1) := by decide +kernel
theorem dX6_pastSign_1 : decode cX6_pastSign 1 = .ok (.istore 4, 2) := by decide +kernel
theorem dX6_pastSign_3 : decode cX6_pastSign 3 = .ok (.iconst 0, 1) := by decide +kernel
theorem dX6_pastSign_4 : decode cX6_pastSign 4 = .ok (.istore 5, 2) := by decide +kernel
theorem dX6_pastSign_6 : decode cX6_pastSign 6 = .ok (.iload 5, 2) := by decide +kernel
theorem dX6_pastSign_8 : decode cX6_pastSign 8 = .ok (.bipush 12, 2) := by decide +kernel
theorem dX6_pastSign_10 : decode cX6_pastSign 10 = .ok (.if_icmp .ge 80, 3) := by decide +kernel
theorem dX6_pastSign_13 : decode cX6_pastSign 13 = .ok (.lload_n 0, 1) := by decide +kernel
theorem dX6_pastSign_14 : decode cX6_pastSign 14 = .ok (.iload 5, 2) := by decide +kernel
theorem dX6_pastSign_16 : decode cX6_pastSign 16 = .ok (.invokestatic 13, 3) := by decide +kernel
theorem dX6_pastSign_19 : decode cX6_pastSign 19 = .ok (.istore 6, 2) := by decide +kernel
theorem dX6_pastSign_21 : decode cX6_pastSign 21 = .ok (.iload_n 2, 1) := by decide +kernel
theorem dX6_pastSign_22 : decode cX6_pastSign 22 = .ok (.iload 5, 2) := by decide +kernel
theorem dX6_pastSign_24 : decode cX6_pastSign 24 = .ok (.iushr, 1) := by decide +kernel
theorem dX6_pastSign_25 : decode cX6_pastSign 25 = .ok (.iconst 1, 1) := by decide +kernel
theorem dX6_pastSign_26 : decode cX6_pastSign 26 = .ok (.iand, 1) := by decide +kernel
theorem dX6_pastSign_27 : decode cX6_pastSign 27 = .ok (.iconst 1, 1) := by decide +kernel
theorem dX6_pastSign_28 : decode cX6_pastSign 28 = .ok (.if_icmp .ne 22, 3) := by decide +kernel
theorem dX6_pastSign_31 : decode cX6_pastSign 31 = .ok (.iload 6, 2) := by decide +kernel
theorem dX6_pastSign_33 : decode cX6_pastSign 33 = .ok (.bipush 28, 2) := by decide +kernel
theorem dX6_pastSign_35 : decode cX6_pastSign 35 = .ok (.if_icmp .ne 15, 3) := by decide +kernel
theorem dX6_pastSign_38 : decode cX6_pastSign 38 = .ok (.iload 4, 2) := by decide +kernel
theorem dX6_pastSign_40 : decode cX6_pastSign 40 = .ok (.iconst 1, 1) := by decide +kernel
theorem dX6_pastSign_41 : decode cX6_pastSign 41 = .ok (.iload 5, 2) := by decide +kernel
theorem dX6_pastSign_43 : decode cX6_pastSign 43 = .ok (.ishl, 1) := by decide +kernel
theorem dX6_pastSign_44 : decode cX6_pastSign 44 = .ok (.ior, 1) := by decide +kernel
theorem dX6_pastSign_45 : decode cX6_pastSign 45 = .ok (.istore 4, 2) := by decide +kernel
theorem dX6_pastSign_47 : decode cX6_pastSign 47 = .ok (.goto 37, 3) := by decide +kernel
theorem dX6_pastSign_50 : decode cX6_pastSign 50 = .ok (.iload_n 2, 1) := by decide +kernel
theorem dX6_pastSign_51 : decode cX6_pastSign 51 = .ok (.iload 5, 2) := by decide +kernel
theorem dX6_pastSign_53 : decode cX6_pastSign 53 = .ok (.iushr, 1) := by decide +kernel
theorem dX6_pastSign_54 : decode cX6_pastSign 54 = .ok (.iconst 1, 1) := by decide +kernel
theorem dX6_pastSign_55 : decode cX6_pastSign 55 = .ok (.iand, 1) := by decide +kernel
theorem dX6_pastSign_56 : decode cX6_pastSign 56 = .ok (.iconst 1, 1) := by decide +kernel
theorem dX6_pastSign_57 : decode cX6_pastSign 57 = .ok (.if_icmp .ne 27, 3) := by decide +kernel
theorem dX6_pastSign_60 : decode cX6_pastSign 60 = .ok (.iload 6, 2) := by decide +kernel
theorem dX6_pastSign_62 : decode cX6_pastSign 62 = .ok (.bipush 29, 2) := by decide +kernel
theorem dX6_pastSign_64 : decode cX6_pastSign 64 = .ok (.if_icmp .eq 9, 3) := by decide +kernel
theorem dX6_pastSign_67 : decode cX6_pastSign 67 = .ok (.iload 6, 2) := by decide +kernel
theorem dX6_pastSign_69 : decode cX6_pastSign 69 = .ok (.iload_n 3, 1) := by decide +kernel
theorem dX6_pastSign_70 : decode cX6_pastSign 70 = .ok (.if_icmp .ne 14, 3) := by decide +kernel
theorem dX6_pastSign_73 : decode cX6_pastSign 73 = .ok (.iload 4, 2) := by decide +kernel
theorem dX6_pastSign_75 : decode cX6_pastSign 75 = .ok (.iconst 1, 1) := by decide +kernel
theorem dX6_pastSign_76 : decode cX6_pastSign 76 = .ok (.iload 5, 2) := by decide +kernel
theorem dX6_pastSign_78 : decode cX6_pastSign 78 = .ok (.iconst 1, 1) := by decide +kernel
theorem dX6_pastSign_79 : decode cX6_pastSign 79 = .ok (.iadd, 1) := by decide +kernel
theorem dX6_pastSign_80 : decode cX6_pastSign 80 = .ok (.ishl, 1) := by decide +kernel
theorem dX6_pastSign_81 : decode cX6_pastSign 81 = .ok (.ior, 1) := by decide +kernel
theorem dX6_pastSign_82 : decode cX6_pastSign 82 = .ok (.istore 4, 2) := by decide +kernel
theorem dX6_pastSign_84 : decode cX6_pastSign 84 = .ok (.iinc 5 1, 3) := by decide +kernel
theorem dX6_pastSign_87 : decode cX6_pastSign 87 = .ok (.goto (-81), 3) := by decide +kernel
theorem dX6_pastSign_90 : decode cX6_pastSign 90 = .ok (.iload 4, 2) := by decide +kernel
theorem dX6_pastSign_92 : decode cX6_pastSign 92 = .ok (.ireturn, 1) := by decide +kernel
theorem dX7_init_0 : decode cX7_init 0 = .ok (.aload_n 0, 1) := by decide +kernel
theorem dX7_init_1 : decode cX7_init 1 = .ok (.invokespecial 3, 3) := by decide +kernel
theorem dX7_init_4 : decode cX7_init 4 = .ok (.aload_n 0, 1) := by decide +kernel
theorem dX7_init_5 : decode cX7_init 5 = .ok (.aload_n 1, 1) := by decide +kernel
theorem dX7_init_6 : decode cX7_init 6 = .ok (.putfield 9, 3) := by decide +kernel
theorem dX7_init_9 : decode cX7_init 9 = .ok (.aload_n 0, 1) := by decide +kernel
theorem dX7_init_10 : decode cX7_init 10 = .ok (.iconst 0, 1) := by decide +kernel
theorem dX7_init_11 : decode cX7_init 11 = .ok (.putfield 15, 3) := by decide +kernel
theorem dX7_init_14 : decode cX7_init 14 = .ok (.aload_n 0, 1) := by decide +kernel
theorem dX7_init_15 : decode cX7_init 15 = .ok (.iconst (-1), 1) := by decide +kernel
theorem dX7_init_16 : decode cX7_init 16 = .ok (.putfield 19, 3) := by decide +kernel
theorem dX7_init_19 : decode cX7_init 19 = .ok (.return_, 1) := by decide +kernel
theorem dX7_begin_0 : decode cX7_begin 0 = .ok (.aload_n 0, 1) := by decide +kernel
theorem dX7_begin_1 : decode cX7_begin 1 = .ok (.iconst 0, 1) := by decide +kernel
theorem dX7_begin_2 : decode cX7_begin 2 = .ok (.putfield 22, 3) := by decide +kernel
theorem dX7_begin_5 : decode cX7_begin 5 = .ok (.aload_n 0, 1) := by decide +kernel
theorem dX7_begin_6 : decode cX7_begin 6 = .ok (.iconst 0, 1) := by decide +kernel
theorem dX7_begin_7 : decode cX7_begin 7 = .ok (.putfield 15, 3) := by decide +kernel
theorem dX7_begin_10 : decode cX7_begin 10 = .ok (.aload_n 0, 1) := by decide +kernel
theorem dX7_begin_11 : decode cX7_begin 11 = .ok (.iconst (-1), 1) := by decide +kernel
theorem dX7_begin_12 : decode cX7_begin 12 = .ok (.putfield 19, 3) := by decide +kernel
theorem dX7_begin_15 : decode cX7_begin 15 = .ok (.return_, 1) := by decide +kernel
theorem dX7_peek_0 : decode cX7_peek 0 = .ok (.aload_n 0, 1) := by decide +kernel
theorem dX7_peek_1 : decode cX7_peek 1 = .ok (.getfield 15, 3) := by decide +kernel
theorem dX7_peek_4 : decode cX7_peek 4 = .ok (.ifCond .ne 17, 3) := by decide +kernel
theorem dX7_peek_7 : decode cX7_peek 7 = .ok (.aload_n 0, 1) := by decide +kernel
theorem dX7_peek_8 : decode cX7_peek 8 = .ok (.getfield 9, 3) := by decide +kernel
theorem dX7_peek_11 : decode cX7_peek 11 = .ok (.aload_n 0, 1) := by decide +kernel
theorem dX7_peek_12 : decode cX7_peek 12 = .ok (.getfield 22, 3) := by decide +kernel
theorem dX7_peek_15 : decode cX7_peek 15 = .ok (.invokevirtual 25, 3) := by decide +kernel
theorem dX7_peek_18 : decode cX7_peek 18 = .ok (.goto 4, 3) := by decide +kernel
theorem dX7_peek_21 : decode cX7_peek 21 = .ok (.iconst (-1), 1) := by decide +kernel
theorem dX7_peek_22 : decode cX7_peek 22 = .ok (.ireturn, 1) := by decide +kernel
theorem dX7_fail_0 : decode cX7_fail 0 = .ok (.aload_n 0, 1) := by decide +kernel
theorem dX7_fail_1 : decode cX7_fail 1 = .ok (.getfield 15, 3) := by decide +kernel
theorem dX7_fail_4 : decode cX7_fail 4 = .ok (.ifCond .ne 13, 3) := by decide +kernel
theorem dX7_fail_7 : decode cX7_fail 7 = .ok (.aload_n 0, 1) := by decide +kernel
theorem dX7_fail_8 : decode cX7_fail 8 = .ok (.iload_n 1, 1) := by decide +kernel
theorem dX7_fail_9 : decode cX7_fail 9 = .ok (.putfield 15, 3) := by decide +kernel
theorem dX7_fail_12 : decode cX7_fail 12 = .ok (.aload_n 0, 1) := by decide +kernel
theorem dX7_fail_13 : decode cX7_fail 13 = .ok (.iload_n 2, 1) := by decide +kernel
theorem dX7_fail_14 : decode cX7_fail 14 = .ok (.putfield 19, 3) := by decide +kernel
theorem dX7_fail_17 : decode cX7_fail 17 = .ok (.return_, 1) := by decide +kernel
theorem dX7_failAtEnd_0 : decode cX7_failAtEnd 0 = .ok (.aload_n 0, 1) := by decide +kernel
theorem dX7_failAtEnd_1 : decode cX7_failAtEnd 1 = .ok (.iconst 5, 1) := by decide +kernel
theorem dX7_failAtEnd_2 : decode cX7_failAtEnd 2 = .ok (.aload_n 0, 1) := by decide +kernel
theorem dX7_failAtEnd_3 : decode cX7_failAtEnd 3 = .ok (.getfield 9, 3) := by decide +kernel
theorem dX7_failAtEnd_6 : decode cX7_failAtEnd 6 = .ok (.getfield 31, 3) := by decide +kernel
theorem dX7_failAtEnd_9 : decode cX7_failAtEnd 9 = .ok (.invokevirtual 34, 3) := by decide +kernel
theorem dX7_failAtEnd_12 : decode cX7_failAtEnd 12 = .ok (.return_, 1) := by decide +kernel
theorem dX7_expect_0 : decode cX7_expect 0 = .ok (.aload_n 0, 1) := by decide +kernel
theorem dX7_expect_1 : decode cX7_expect 1 = .ok (.invokevirtual 38, 3) := by decide +kernel
theorem dX7_expect_4 : decode cX7_expect 4 = .ok (.iload_n 1, 1) := by decide +kernel
theorem dX7_expect_5 : decode cX7_expect 5 = .ok (.if_icmp .eq 12, 3) := by decide +kernel
theorem dX7_expect_8 : decode cX7_expect 8 = .ok (.aload_n 0, 1) := by decide +kernel
theorem dX7_expect_9 : decode cX7_expect 9 = .ok (.iconst 1, 1) := by decide +kernel
theorem dX7_expect_10 : decode cX7_expect 10 = .ok (.aload_n 0, 1) := by decide +kernel
theorem dX7_expect_11 : decode cX7_expect 11 = .ok (.getfield 22, 3) := by decide +kernel
theorem dX7_expect_14 : decode cX7_expect 14 = .ok (.invokevirtual 34, 3) := by decide +kernel
theorem dX7_expect_17 : decode cX7_expect 17 = .ok (.aload_n 0, 1) := by decide +kernel
theorem dX7_expect_18 : decode cX7_expect 18 = .ok (.dup, 1) := by decide +kernel
theorem dX7_expect_19 : decode cX7_expect 19 = .ok (.getfield 22, 3) := by decide +kernel
theorem dX7_expect_22 : decode cX7_expect 22 = .ok (.iconst 1, 1) := by decide +kernel
theorem dX7_expect_23 : decode cX7_expect 23 = .ok (.iadd, 1) := by decide +kernel
theorem dX7_expect_24 : decode cX7_expect 24 = .ok (.putfield 22, 3) := by decide +kernel
theorem dX7_expect_27 : decode cX7_expect 27 = .ok (.return_, 1) := by decide +kernel
theorem dX7_isFigure_0 : decode cX7_isFigure 0 = .ok (.iload_n 0, 1) := by decide +kernel
theorem dX7_isFigure_1 : decode cX7_isFigure 1 = .ok (.bipush 48, 2) := by decide +kernel
theorem dX7_isFigure_3 : decode cX7_isFigure 3 = .ok (.if_icmp .lt 13, 3) := by decide +kernel
theorem dX7_isFigure_6 : decode cX7_isFigure 6 = .ok (.iload_n 0, 1) := by decide +kernel
theorem dX7_isFigure_7 : decode cX7_isFigure 7 = .ok (.bipush 57, 2) := by decide +kernel
theorem dX7_isFigure_9 : decode cX7_isFigure 9 = .ok (.if_icmp .gt 7, 3) := by decide +kernel
theorem dX7_isFigure_12 : decode cX7_isFigure 12 = .ok (.iconst 1, 1) := by decide +kernel
theorem dX7_isFigure_13 : decode cX7_isFigure 13 = .ok (.goto 4, 3) := by decide +kernel
theorem dX7_isFigure_16 : decode cX7_isFigure 16 = .ok (.iconst 0, 1) := by decide +kernel
theorem dX7_isFigure_17 : decode cX7_isFigure 17 = .ok (.ireturn, 1) := by decide +kernel
theorem dX7_isRowByte_0 : decode cX7_isRowByte 0 = .ok (.iload_n 0, 1) := by decide +kernel
theorem dX7_isRowByte_1 : decode cX7_isRowByte 1 = .ok (.bipush 97, 2) := by decide +kernel
theorem dX7_isRowByte_3 : decode cX7_isRowByte 3 = .ok (.if_icmp .lt 9, 3) := by decide +kernel
theorem dX7_isRowByte_6 : decode cX7_isRowByte 6 = .ok (.iload_n 0, 1) := by decide +kernel
theorem dX7_isRowByte_7 : decode cX7_isRowByte 7 = .ok (.bipush 122, 2) := by decide +kernel
theorem dX7_isRowByte_9 : decode cX7_isRowByte 9 = .ok (.if_icmp .le 9, 3) := by decide +kernel
theorem dX7_isRowByte_12 : decode cX7_isRowByte 12 = .ok (.iload_n 0, 1) := by decide +kernel
theorem dX7_isRowByte_13 : decode cX7_isRowByte 13 = .ok (.bipush 46, 2) := by decide +kernel
theorem dX7_isRowByte_15 : decode cX7_isRowByte 15 = .ok (.if_icmp .ne 7, 3) := by decide +kernel
theorem dX7_isRowByte_18 : decode cX7_isRowByte 18 = .ok (.iconst 1, 1) := by decide +kernel
theorem dX7_isRowByte_19 : decode cX7_isRowByte 19 = .ok (.goto 4, 3) := by decide +kernel
theorem dX7_isRowByte_22 : decode cX7_isRowByte 22 = .ok (.iconst 0, 1) := by decide +kernel
theorem dX7_isRowByte_23 : decode cX7_isRowByte 23 = .ok (.ireturn, 1) := by decide +kernel
theorem dX7_isBlank_0 : decode cX7_isBlank 0 = .ok (.iload_n 0, 1) := by decide +kernel
theorem dX7_isBlank_1 : decode cX7_isBlank 1 = .ok (.ifCond .lt 13, 3) := by decide +kernel
theorem dX7_isBlank_4 : decode cX7_isBlank 4 = .ok (.iload_n 0, 1) := by decide +kernel
theorem dX7_isBlank_5 : decode cX7_isBlank 5 = .ok (.bipush 32, 2) := by decide +kernel
theorem dX7_isBlank_7 : decode cX7_isBlank 7 = .ok (.if_icmp .gt 7, 3) := by decide +kernel
theorem dX7_isBlank_10 : decode cX7_isBlank 10 = .ok (.iconst 1, 1) := by decide +kernel
theorem dX7_isBlank_11 : decode cX7_isBlank 11 = .ok (.goto 4, 3) := by decide +kernel
theorem dX7_isBlank_14 : decode cX7_isBlank 14 = .ok (.iconst 0, 1) := by decide +kernel
theorem dX7_isBlank_15 : decode cX7_isBlank 15 = .ok (.ireturn, 1) := by decide +kernel
theorem dX7_number_0 : decode cX7_number 0 = .ok (.aload_n 0, 1) := by decide +kernel
theorem dX7_number_1 : decode cX7_number 1 = .ok (.getfield 22, 3) := by decide +kernel
theorem dX7_number_4 : decode cX7_number 4 = .ok (.istore_n 2, 1) := by decide +kernel
theorem dX7_number_5 : decode cX7_number 5 = .ok (.lconst 0, 1) := by decide +kernel
theorem dX7_number_6 : decode cX7_number 6 = .ok (.lstore_n 3, 1) := by decide +kernel
theorem dX7_number_7 : decode cX7_number 7 = .ok (.aload_n 0, 1) := by decide +kernel
theorem dX7_number_8 : decode cX7_number 8 = .ok (.invokevirtual 38, 3) := by decide +kernel
theorem dX7_number_11 : decode cX7_number 11 = .ok (.invokestatic 42, 3) := by decide +kernel
theorem dX7_number_14 : decode cX7_number 14 = .ok (.ifCond .ne 9, 3) := by decide +kernel
theorem dX7_number_17 : decode cX7_number 17 = .ok (.aload_n 0, 1) := by decide +kernel
theorem dX7_number_18 : decode cX7_number 18 = .ok (.iconst 1, 1) := by decide +kernel
theorem dX7_number_19 : decode cX7_number 19 = .ok (.iload_n 2, 1) := by decide +kernel
theorem dX7_number_20 : decode cX7_number 20 = .ok (.invokevirtual 34, 3) := by decide +kernel
theorem dX7_number_23 : decode cX7_number 23 = .ok (.iconst 0, 1) := by decide +kernel
theorem dX7_number_24 : decode cX7_number 24 = .ok (.istore 5, 2) := by decide +kernel
theorem dX7_number_26 : decode cX7_number 26 = .ok (.iload 5, 2) := by decide +kernel
theorem dX7_number_28 : decode cX7_number 28 = .ok (.sipush 200, 3) := by decide +kernel
theorem dX7_number_31 : decode cX7_number 31 = .ok (.if_icmp .ge 51, 3) := by decide +kernel
theorem dX7_number_34 : decode cX7_number 34 = .ok (.aload_n 0, 1) := by decide +kernel
theorem dX7_number_35 : decode cX7_number 35 = .ok (.invokevirtual 38, 3) := by decide +kernel
theorem dX7_number_38 : decode cX7_number 38 = .ok (.invokestatic 42, 3) := by decide +kernel
theorem dX7_number_41 : decode cX7_number 41 = .ok (.ifCond .eq 41, 3) := by decide +kernel
theorem dX7_number_44 : decode cX7_number 44 = .ok (.lload_n 3, 1) := by decide +kernel
theorem dX7_number_45 : decode cX7_number 45 = .ok (.ldc2_w 46, 3) := by decide +kernel
theorem dX7_number_48 : decode cX7_number 48 = .ok (.lmul, 1) := by decide +kernel
theorem dX7_number_49 : decode cX7_number 49 = .ok (.aload_n 0, 1) := by decide +kernel
theorem dX7_number_50 : decode cX7_number 50 = .ok (.invokevirtual 38, 3) := by decide +kernel
theorem dX7_number_53 : decode cX7_number 53 = .ok (.i2l, 1) := by decide +kernel
theorem dX7_number_54 : decode cX7_number 54 = .ok (.ladd, 1) := by decide +kernel
theorem dX7_number_55 : decode cX7_number 55 = .ok (.ldc2_w 48, 3) := by decide +kernel
theorem dX7_number_58 : decode cX7_number 58 = .ok (.lsub, 1) := by decide +kernel
theorem dX7_number_59 : decode cX7_number 59 = .ok (.ldc2_w 50, 3) := by decide +kernel
theorem dX7_number_62 : decode cX7_number 62 = .ok (.invokestatic 52, 3) := by decide +kernel
theorem dX7_number_65 : decode cX7_number 65 = .ok (.lstore_n 3, 1) := by decide +kernel
theorem dX7_number_66 : decode cX7_number 66 = .ok (.aload_n 0, 1) := by decide +kernel
theorem dX7_number_67 : decode cX7_number 67 = .ok (.dup, 1) := by decide +kernel
theorem dX7_number_68 : decode cX7_number 68 = .ok (.getfield 22, 3) := by decide +kernel
theorem dX7_number_71 : decode cX7_number 71 = .ok (.iconst 1, 1) := by decide +kernel
theorem dX7_number_72 : decode cX7_number 72 = .ok (.iadd, 1) := by decide +kernel
theorem dX7_number_73 : decode cX7_number 73 = .ok (.putfield 22, 3) := by decide +kernel
theorem dX7_number_76 : decode cX7_number 76 = .ok (.iinc 5 1, 3) := by decide +kernel
theorem dX7_number_79 : decode cX7_number 79 = .ok (.goto (-53), 3) := by decide +kernel
theorem dX7_number_82 : decode cX7_number 82 = .ok (.lload_n 3, 1) := by decide +kernel
theorem dX7_number_83 : decode cX7_number 83 = .ok (.iload_n 1, 1) := by decide +kernel
theorem dX7_number_84 : decode cX7_number 84 = .ok (.i2l, 1) := by decide +kernel
theorem dX7_number_85 : decode cX7_number 85 = .ok (.lcmp, 1) := by decide +kernel
theorem dX7_number_86 : decode cX7_number 86 = .ok (.ifCond .le 9, 3) := by decide +kernel
theorem dX7_number_89 : decode cX7_number 89 = .ok (.aload_n 0, 1) := by decide +kernel
theorem dX7_number_90 : decode cX7_number 90 = .ok (.iconst 2, 1) := by decide +kernel
theorem dX7_number_91 : decode cX7_number 91 = .ok (.iload_n 2, 1) := by decide +kernel
theorem dX7_number_92 : decode cX7_number 92 = .ok (.invokevirtual 34, 3) := by decide +kernel
theorem dX7_number_95 : decode cX7_number 95 = .ok (.lload_n 3, 1) := by decide +kernel
theorem dX7_number_96 : decode cX7_number 96 = .ok (.l2i, 1) := by decide +kernel
theorem dX7_number_97 : decode cX7_number 97 = .ok (.ireturn, 1) := by decide +kernel
theorem dX7_scanRow_0 : decode cX7_scanRow 0 = .ok (.iconst 0, 1) := by decide +kernel
theorem dX7_scanRow_1 : decode cX7_scanRow 1 = .ok (.istore_n 1, 1) := by decide +kernel
theorem dX7_scanRow_2 : decode cX7_scanRow 2 = .ok (.iconst 0, 1) := by decide +kernel
theorem dX7_scanRow_3 : decode cX7_scanRow 3 = .ok (.istore_n 2, 1) := by decide +kernel
theorem dX7_scanRow_4 : decode cX7_scanRow 4 = .ok (.aload_n 0, 1) := by decide +kernel
theorem dX7_scanRow_5 : decode cX7_scanRow 5 = .ok (.lconst 0, 1) := by decide +kernel
theorem dX7_scanRow_6 : decode cX7_scanRow 6 = .ok (.putfield 58, 3) := by decide +kernel
theorem dX7_scanRow_9 : decode cX7_scanRow 9 = .ok (.iload_n 1, 1) := by decide +kernel
theorem dX7_scanRow_10 : decode cX7_scanRow 10 = .ok (.sipush 200, 3) := by decide +kernel
theorem dX7_scanRow_13 : decode cX7_scanRow 13 = .ok (.if_icmp .ge 78, 3) := by decide +kernel
theorem dX7_scanRow_16 : decode cX7_scanRow 16 = .ok (.aload_n 0, 1) := by decide +kernel
theorem dX7_scanRow_17 : decode cX7_scanRow 17 = .ok (.getfield 9, 3) := by decide +kernel
theorem dX7_scanRow_20 : decode cX7_scanRow 20 = .ok (.aload_n 0, 1) := by decide +kernel
theorem dX7_scanRow_21 : decode cX7_scanRow 21 = .ok (.getfield 22, 3) := by decide +kernel
theorem dX7_scanRow_24 : decode cX7_scanRow 24 = .ok (.iload_n 1, 1) := by decide +kernel
theorem dX7_scanRow_25 : decode cX7_scanRow 25 = .ok (.iadd, 1) := by decide +kernel
theorem dX7_scanRow_26 : decode cX7_scanRow 26 = .ok (.invokevirtual 25, 3) := by decide +kernel
theorem dX7_scanRow_29 : decode cX7_scanRow 29 = .ok (.invokestatic 62, 3) := by decide +kernel
theorem dX7_scanRow_32 : decode cX7_scanRow 32 = .ok (.ifCond .eq 59, 3) := by decide +kernel
theorem dX7_scanRow_35 : decode cX7_scanRow 35 = .ok (.aload_n 0, 1) := by decide +kernel
theorem dX7_scanRow_36 : decode cX7_scanRow 36 = .ok (.getfield 9, 3) := by decide +kernel
theorem dX7_scanRow_39 : decode cX7_scanRow 39 = .ok (.aload_n 0, 1) := by decide +kernel
theorem dX7_scanRow_40 : decode cX7_scanRow 40 = .ok (.getfield 22, 3) := by decide +kernel
theorem dX7_scanRow_43 : decode cX7_scanRow 43 = .ok (.iload_n 1, 1) := by decide +kernel
theorem dX7_scanRow_44 : decode cX7_scanRow 44 = .ok (.iadd, 1) := by decide +kernel
theorem dX7_scanRow_45 : decode cX7_scanRow 45 = .ok (.invokevirtual 25, 3) := by decide +kernel
theorem dX7_scanRow_48 : decode cX7_scanRow 48 = .ok (.istore_n 3, 1) := by decide +kernel
theorem dX7_scanRow_49 : decode cX7_scanRow 49 = .ok (.iload_n 2, 1) := by decide +kernel
theorem dX7_scanRow_50 : decode cX7_scanRow 50 = .ok (.iload_n 3, 1) := by decide +kernel
theorem dX7_scanRow_51 : decode cX7_scanRow 51 = .ok (.bipush 46, 2) := by decide +kernel
theorem dX7_scanRow_53 : decode cX7_scanRow 53 = .ok (.if_icmp .ne 7, 3) := by decide +kernel
theorem dX7_scanRow_56 : decode cX7_scanRow 56 = .ok (.iconst 1, 1) := by decide +kernel
theorem dX7_scanRow_57 : decode cX7_scanRow 57 = .ok (.goto 4, 3) := by decide +kernel
theorem dX7_scanRow_60 : decode cX7_scanRow 60 = .ok (.iconst 0, 1) := by decide +kernel
theorem dX7_scanRow_61 : decode cX7_scanRow 61 = .ok (.iadd, 1) := by decide +kernel
theorem dX7_scanRow_62 : decode cX7_scanRow 62 = .ok (.istore_n 2, 1) := by decide +kernel
theorem dX7_scanRow_63 : decode cX7_scanRow 63 = .ok (.iload_n 1, 1) := by decide +kernel
theorem dX7_scanRow_64 : decode cX7_scanRow 64 = .ok (.bipush 12, 2) := by decide +kernel
theorem dX7_scanRow_66 : decode cX7_scanRow 66 = .ok (.if_icmp .ge 19, 3) := by decide +kernel
theorem dX7_scanRow_69 : decode cX7_scanRow 69 = .ok (.aload_n 0, 1) := by decide +kernel
theorem dX7_scanRow_70 : decode cX7_scanRow 70 = .ok (.aload_n 0, 1) := by decide +kernel
theorem dX7_scanRow_71 : decode cX7_scanRow 71 = .ok (.getfield 58, 3) := by decide +kernel
theorem dX7_scanRow_74 : decode cX7_scanRow 74 = .ok (.iload_n 1, 1) := by decide +kernel
theorem dX7_scanRow_75 : decode cX7_scanRow 75 = .ok (.iload_n 3, 1) := by decide +kernel
theorem dX7_scanRow_76 : decode cX7_scanRow 76 = .ok (.invokestatic 67, 3) := by decide +kernel
theorem dX7_scanRow_79 : decode cX7_scanRow 79 = .ok (.invokestatic 70, 3) := by decide +kernel
theorem dX7_scanRow_82 : decode cX7_scanRow 82 = .ok (.putfield 58, 3) := by decide +kernel
theorem dX7_scanRow_85 : decode cX7_scanRow 85 = .ok (.iinc 1 1, 3) := by decide +kernel
theorem dX7_scanRow_88 : decode cX7_scanRow 88 = .ok (.goto (-79), 3) := by decide +kernel
theorem dX7_scanRow_91 : decode cX7_scanRow 91 = .ok (.aload_n 0, 1) := by decide +kernel
theorem dX7_scanRow_92 : decode cX7_scanRow 92 = .ok (.iload_n 1, 1) := by decide +kernel
theorem dX7_scanRow_93 : decode cX7_scanRow 93 = .ok (.putfield 74, 3) := by decide +kernel
theorem dX7_scanRow_96 : decode cX7_scanRow 96 = .ok (.aload_n 0, 1) := by decide +kernel
theorem dX7_scanRow_97 : decode cX7_scanRow 97 = .ok (.iload_n 2, 1) := by decide +kernel
theorem dX7_scanRow_98 : decode cX7_scanRow 98 = .ok (.iconst 1, 1) := by decide +kernel
theorem dX7_scanRow_99 : decode cX7_scanRow 99 = .ok (.if_icmp .ne 43, 3) := by decide +kernel
theorem dX7_scanRow_102 : decode cX7_scanRow 102 = .ok (.aload_n 0, 1) := by decide +kernel
theorem dX7_scanRow_103 : decode cX7_scanRow 103 = .ok (.getfield 9, 3) := by decide +kernel
theorem dX7_scanRow_106 : decode cX7_scanRow 106 = .ok (.aload_n 0, 1) := by decide +kernel
theorem dX7_scanRow_107 : decode cX7_scanRow 107 = .ok (.getfield 22, 3) := by decide +kernel
theorem dX7_scanRow_110 : decode cX7_scanRow 110 = .ok (.invokevirtual 25, 3) := by decide +kernel
theorem dX7_scanRow_113 : decode cX7_scanRow 113 = .ok (.bipush 46, 2) := by decide +kernel
theorem dX7_scanRow_115 : decode cX7_scanRow 115 = .ok (.if_icmp .eq 27, 3) := by decide +kernel
theorem dX7_scanRow_118 : decode cX7_scanRow 118 = .ok (.aload_n 0, 1) := by decide +kernel
theorem dX7_scanRow_119 : decode cX7_scanRow 119 = .ok (.getfield 9, 3) := by decide +kernel
theorem dX7_scanRow_122 : decode cX7_scanRow 122 = .ok (.aload_n 0, 1) := by decide +kernel
theorem dX7_scanRow_123 : decode cX7_scanRow 123 = .ok (.getfield 22, 3) := by decide +kernel
theorem dX7_scanRow_126 : decode cX7_scanRow 126 = .ok (.iload_n 1, 1) := by decide +kernel
theorem dX7_scanRow_127 : decode cX7_scanRow 127 = .ok (.iadd, 1) := by decide +kernel
theorem dX7_scanRow_128 : decode cX7_scanRow 128 = .ok (.iconst 1, 1) := by decide +kernel
theorem dX7_scanRow_129 : decode cX7_scanRow 129 = .ok (.isub, 1) := by decide +kernel
theorem dX7_scanRow_130 : decode cX7_scanRow 130 = .ok (.invokevirtual 25, 3) := by decide +kernel
theorem dX7_scanRow_133 : decode cX7_scanRow 133 = .ok (.bipush 46, 2) := by decide +kernel
theorem dX7_scanRow_135 : decode cX7_scanRow 135 = .ok (.if_icmp .eq 7, 3) := by decide +kernel
theorem dX7_scanRow_138 : decode cX7_scanRow 138 = .ok (.iconst 1, 1) := by decide +kernel
theorem dX7_scanRow_139 : decode cX7_scanRow 139 = .ok (.goto 4, 3) := by decide +kernel
theorem dX7_scanRow_142 : decode cX7_scanRow 142 = .ok (.iconst 0, 1) := by decide +kernel
theorem dX7_scanRow_143 : decode cX7_scanRow 143 = .ok (.putfield 77, 3) := by decide +kernel
theorem dX7_scanRow_146 : decode cX7_scanRow 146 = .ok (.return_, 1) := by decide +kernel
theorem dX7_takeName_0 : decode cX7_takeName 0 = .ok (.aload_n 0, 1) := by decide +kernel
theorem dX7_takeName_1 : decode cX7_takeName 1 = .ok (.getfield 77, 3) := by decide +kernel
theorem dX7_takeName_4 : decode cX7_takeName 4 = .ok (.ifCond .ne 12, 3) := by decide +kernel
theorem dX7_takeName_7 : decode cX7_takeName 7 = .ok (.aload_n 0, 1) := by decide +kernel
theorem dX7_takeName_8 : decode cX7_takeName 8 = .ok (.iconst 1, 1) := by decide +kernel
theorem dX7_takeName_9 : decode cX7_takeName 9 = .ok (.aload_n 0, 1) := by decide +kernel
theorem dX7_takeName_10 : decode cX7_takeName 10 = .ok (.getfield 22, 3) := by decide +kernel
theorem dX7_takeName_13 : decode cX7_takeName 13 = .ok (.invokevirtual 34, 3) := by decide +kernel
theorem dX7_takeName_16 : decode cX7_takeName 16 = .ok (.aload_n 0, 1) := by decide +kernel
theorem dX7_takeName_17 : decode cX7_takeName 17 = .ok (.getfield 74, 3) := by decide +kernel
theorem dX7_takeName_20 : decode cX7_takeName 20 = .ok (.bipush 12, 2) := by decide +kernel
theorem dX7_takeName_22 : decode cX7_takeName 22 = .ok (.if_icmp .le 15, 3) := by decide +kernel
theorem dX7_takeName_25 : decode cX7_takeName 25 = .ok (.aload_n 0, 1) := by decide +kernel
theorem dX7_takeName_26 : decode cX7_takeName 26 = .ok (.iconst 3, 1) := by decide +kernel
theorem dX7_takeName_27 : decode cX7_takeName 27 = .ok (.aload_n 0, 1) := by decide +kernel
theorem dX7_takeName_28 : decode cX7_takeName 28 = .ok (.getfield 22, 3) := by decide +kernel
theorem dX7_takeName_31 : decode cX7_takeName 31 = .ok (.bipush 12, 2) := by decide +kernel
theorem dX7_takeName_33 : decode cX7_takeName 33 = .ok (.iadd, 1) := by decide +kernel
theorem dX7_takeName_34 : decode cX7_takeName 34 = .ok (.invokevirtual 34, 3) := by decide +kernel
theorem dX7_takeName_37 : decode cX7_takeName 37 = .ok (.aload_n 0, 1) := by decide +kernel
theorem dX7_takeName_38 : decode cX7_takeName 38 = .ok (.dup, 1) := by decide +kernel
theorem dX7_takeName_39 : decode cX7_takeName 39 = .ok (.getfield 22, 3) := by decide +kernel
theorem dX7_takeName_42 : decode cX7_takeName 42 = .ok (.aload_n 0, 1) := by decide +kernel
theorem dX7_takeName_43 : decode cX7_takeName 43 = .ok (.getfield 74, 3) := by decide +kernel
theorem dX7_takeName_46 : decode cX7_takeName 46 = .ok (.iadd, 1) := by decide +kernel
theorem dX7_takeName_47 : decode cX7_takeName 47 = .ok (.putfield 22, 3) := by decide +kernel
theorem dX7_takeName_50 : decode cX7_takeName 50 = .ok (.aload_n 0, 1) := by decide +kernel
theorem dX7_takeName_51 : decode cX7_takeName 51 = .ok (.getfield 58, 3) := by decide +kernel
theorem dX7_takeName_54 : decode cX7_takeName 54 = .ok (.lreturn, 1) := by decide +kernel
theorem dX7_takes_0 : decode cX7_takes 0 = .ok (.iconst 0, 1) := by decide +kernel
theorem dX7_takes_1 : decode cX7_takes 1 = .ok (.istore_n 2, 1) := by decide +kernel
theorem dX7_takes_2 : decode cX7_takes 2 = .ok (.iload_n 2, 1) := by decide +kernel
theorem dX7_takes_3 : decode cX7_takes 3 = .ok (.aload_n 1, 1) := by decide +kernel
theorem dX7_takes_4 : decode cX7_takes 4 = .ok (.invokevirtual 81, 3) := by decide +kernel
theorem dX7_takes_7 : decode cX7_takes 7 = .ok (.if_icmp .ge 32, 3) := by decide +kernel
theorem dX7_takes_10 : decode cX7_takes 10 = .ok (.aload_n 0, 1) := by decide +kernel
theorem dX7_takes_11 : decode cX7_takes 11 = .ok (.getfield 9, 3) := by decide +kernel
theorem dX7_takes_14 : decode cX7_takes 14 = .ok (.aload_n 0, 1) := by decide +kernel
theorem dX7_takes_15 : decode cX7_takes 15 = .ok (.getfield 22, 3) := by decide +kernel
theorem dX7_takes_18 : decode cX7_takes 18 = .ok (.iload_n 2, 1) := by decide +kernel
theorem dX7_takes_19 : decode cX7_takes 19 = .ok (.iadd, 1) := by decide +kernel
theorem dX7_takes_20 : decode cX7_takes 20 = .ok (.invokevirtual 25, 3) := by decide +kernel
theorem dX7_takes_23 : decode cX7_takes 23 = .ok (.aload_n 1, 1) := by decide +kernel
theorem dX7_takes_24 : decode cX7_takes 24 = .ok (.iload_n 2, 1) := by decide +kernel
theorem dX7_takes_25 : decode cX7_takes 25 = .ok (.invokevirtual 85, 3) := by decide +kernel
theorem dX7_takes_28 : decode cX7_takes 28 = .ok (.if_icmp .eq 5, 3) := by decide +kernel
theorem dX7_takes_31 : decode cX7_takes 31 = .ok (.iconst 0, 1) := by decide +kernel
theorem dX7_takes_32 : decode cX7_takes 32 = .ok (.ireturn, 1) := by decide +kernel
theorem dX7_takes_33 : decode cX7_takes 33 = .ok (.iinc 2 1, 3) := by decide +kernel
theorem dX7_takes_36 : decode cX7_takes 36 = .ok (.goto (-34), 3) := by decide +kernel
theorem dX7_takes_39 : decode cX7_takes 39 = .ok (.aload_n 0, 1) := by decide +kernel
theorem dX7_takes_40 : decode cX7_takes 40 = .ok (.getfield 9, 3) := by decide +kernel
theorem dX7_takes_43 : decode cX7_takes 43 = .ok (.aload_n 0, 1) := by decide +kernel
theorem dX7_takes_44 : decode cX7_takes 44 = .ok (.getfield 22, 3) := by decide +kernel
theorem dX7_takes_47 : decode cX7_takes 47 = .ok (.aload_n 1, 1) := by decide +kernel
theorem dX7_takes_48 : decode cX7_takes 48 = .ok (.invokevirtual 81, 3) := by decide +kernel
theorem dX7_takes_51 : decode cX7_takes 51 = .ok (.iadd, 1) := by decide +kernel
theorem dX7_takes_52 : decode cX7_takes 52 = .ok (.invokevirtual 25, 3) := by decide +kernel
theorem dX7_takes_55 : decode cX7_takes 55 = .ok (.istore_n 2, 1) := by decide +kernel
theorem dX7_takes_56 : decode cX7_takes 56 = .ok (.iload_n 2, 1) := by decide +kernel
theorem dX7_takes_57 : decode cX7_takes 57 = .ok (.iconst (-1), 1) := by decide +kernel
theorem dX7_takes_58 : decode cX7_takes 58 = .ok (.if_icmp .eq 12, 3) := by decide +kernel
theorem dX7_takes_61 : decode cX7_takes 61 = .ok (.iload_n 2, 1) := by decide +kernel
theorem dX7_takes_62 : decode cX7_takes 62 = .ok (.invokestatic 89, 3) := by decide +kernel
theorem dX7_takes_65 : decode cX7_takes 65 = .ok (.ifCond .ne 5, 3) := by decide +kernel
theorem dX7_takes_68 : decode cX7_takes 68 = .ok (.iconst 0, 1) := by decide +kernel
theorem dX7_takes_69 : decode cX7_takes 69 = .ok (.ireturn, 1) := by decide +kernel
theorem dX7_takes_70 : decode cX7_takes 70 = .ok (.aload_n 0, 1) := by decide +kernel
theorem dX7_takes_71 : decode cX7_takes 71 = .ok (.dup, 1) := by decide +kernel
theorem dX7_takes_72 : decode cX7_takes 72 = .ok (.getfield 22, 3) := by decide +kernel
theorem dX7_takes_75 : decode cX7_takes 75 = .ok (.aload_n 1, 1) := by decide +kernel
theorem dX7_takes_76 : decode cX7_takes 76 = .ok (.invokevirtual 81, 3) := by decide +kernel
theorem dX7_takes_79 : decode cX7_takes 79 = .ok (.iadd, 1) := by decide +kernel
theorem dX7_takes_80 : decode cX7_takes 80 = .ok (.putfield 22, 3) := by decide +kernel
theorem dX7_takes_83 : decode cX7_takes 83 = .ok (.aload_n 0, 1) := by decide +kernel
theorem dX7_takes_84 : decode cX7_takes 84 = .ok (.invokevirtual 92, 3) := by decide +kernel
theorem dX7_takes_87 : decode cX7_takes 87 = .ok (.iconst 1, 1) := by decide +kernel
theorem dX7_takes_88 : decode cX7_takes 88 = .ok (.ireturn, 1) := by decide +kernel
theorem dX7_endWord_0 : decode cX7_endWord 0 = .ok (.aload_n 0, 1) := by decide +kernel
theorem dX7_endWord_1 : decode cX7_endWord 1 = .ok (.invokevirtual 38, 3) := by decide +kernel
theorem dX7_endWord_4 : decode cX7_endWord 4 = .ok (.iconst (-1), 1) := by decide +kernel
theorem dX7_endWord_5 : decode cX7_endWord 5 = .ok (.if_icmp .eq 22, 3) := by decide +kernel
theorem dX7_endWord_8 : decode cX7_endWord 8 = .ok (.aload_n 0, 1) := by decide +kernel
theorem dX7_endWord_9 : decode cX7_endWord 9 = .ok (.invokevirtual 38, 3) := by decide +kernel
theorem dX7_endWord_12 : decode cX7_endWord 12 = .ok (.invokestatic 89, 3) := by decide +kernel
theorem dX7_endWord_15 : decode cX7_endWord 15 = .ok (.ifCond .ne 12, 3) := by decide +kernel
theorem dX7_endWord_18 : decode cX7_endWord 18 = .ok (.aload_n 0, 1) := by decide +kernel
theorem dX7_endWord_19 : decode cX7_endWord 19 = .ok (.iconst 1, 1) := by decide +kernel
theorem dX7_endWord_20 : decode cX7_endWord 20 = .ok (.aload_n 0, 1) := by decide +kernel
theorem dX7_endWord_21 : decode cX7_endWord 21 = .ok (.getfield 22, 3) := by decide +kernel
theorem dX7_endWord_24 : decode cX7_endWord 24 = .ok (.invokevirtual 34, 3) := by decide +kernel
theorem dX7_endWord_27 : decode cX7_endWord 27 = .ok (.aload_n 0, 1) := by decide +kernel
theorem dX7_endWord_28 : decode cX7_endWord 28 = .ok (.invokevirtual 92, 3) := by decide +kernel
theorem dX7_endWord_31 : decode cX7_endWord 31 = .ok (.return_, 1) := by decide +kernel
theorem dX7_skipBlanks_0 : decode cX7_skipBlanks 0 = .ok (.iconst 0, 1) := by decide +kernel
theorem dX7_skipBlanks_1 : decode cX7_skipBlanks 1 = .ok (.istore_n 1, 1) := by decide +kernel
theorem dX7_skipBlanks_2 : decode cX7_skipBlanks 2 = .ok (.iload_n 1, 1) := by decide +kernel
theorem dX7_skipBlanks_3 : decode cX7_skipBlanks 3 = .ok (.sipush 200, 3) := by decide +kernel
theorem dX7_skipBlanks_6 : decode cX7_skipBlanks 6 = .ok (.if_icmp .ge 29, 3) := by decide +kernel
theorem dX7_skipBlanks_9 : decode cX7_skipBlanks 9 = .ok (.aload_n 0, 1) := by decide +kernel
theorem dX7_skipBlanks_10 : decode cX7_skipBlanks 10 = .ok (.invokevirtual 38, 3) := by decide +kernel
theorem dX7_skipBlanks_13 : decode cX7_skipBlanks 13 = .ok (.invokestatic 89, 3) := by decide +kernel
theorem dX7_skipBlanks_16 : decode cX7_skipBlanks 16 = .ok (.ifCond .eq 19, 3) := by decide +kernel
theorem dX7_skipBlanks_19 : decode cX7_skipBlanks 19 = .ok (.aload_n 0, 1) := by decide +kernel
theorem dX7_skipBlanks_20 : decode cX7_skipBlanks 20 = .ok (.dup, 1) := by decide +kernel
theorem dX7_skipBlanks_21 : decode cX7_skipBlanks 21 = .ok (.getfield 22, 3) := by decide +kernel
theorem dX7_skipBlanks_24 : decode cX7_skipBlanks 24 = .ok (.iconst 1, 1) := by decide +kernel
theorem dX7_skipBlanks_25 : decode cX7_skipBlanks 25 = .ok (.iadd, 1) := by decide +kernel
theorem dX7_skipBlanks_26 : decode cX7_skipBlanks 26 = .ok (.putfield 22, 3) := by decide +kernel
theorem dX7_skipBlanks_29 : decode cX7_skipBlanks 29 = .ok (.iinc 1 1, 3) := by decide +kernel
theorem dX7_skipBlanks_32 : decode cX7_skipBlanks 32 = .ok (.goto (-30), 3) := by decide +kernel
theorem dX7_skipBlanks_35 : decode cX7_skipBlanks 35 = .ok (.return_, 1) := by decide +kernel
theorem dX8_init_0 : decode cX8_init 0 = .ok (.aload_n 0, 1) := by decide +kernel
theorem dX8_init_1 : decode cX8_init 1 = .ok (.invokespecial 1, 3) := by decide +kernel
theorem dX8_init_4 : decode cX8_init 4 = .ok (.aload_n 0, 1) := by decide +kernel
theorem dX8_init_5 : decode cX8_init 5 = .ok (.iload_n 1, 1) := by decide +kernel
theorem dX8_init_6 : decode cX8_init 6 = .ok (.putfield 7, 3) := by decide +kernel
theorem dX8_init_9 : decode cX8_init 9 = .ok (.aload_n 0, 1) := by decide +kernel
theorem dX8_init_10 : decode cX8_init 10 = .ok (.iload_n 2, 1) := by decide +kernel
theorem dX8_init_11 : decode cX8_init 11 = .ok (.putfield 13, 3) := by decide +kernel
theorem dX8_init_14 : decode cX8_init 14 = .ok (.aload_n 0, 1) := by decide +kernel
theorem dX8_init_15 : decode cX8_init 15 = .ok (.iload_n 1, 1) := by decide +kernel
theorem dX8_init_16 : decode cX8_init 16 = .ok (.iload_n 2, 1) := by decide +kernel
theorem dX8_init_17 : decode cX8_init 17 = .ok (.imul, 1) := by decide +kernel
theorem dX8_init_18 : decode cX8_init 18 = .ok (.newarray .int, 2) := by decide +kernel
theorem dX8_init_20 : decode cX8_init 20 = .ok (.putfield 16, 3) := by decide +kernel
theorem dX8_init_23 : decode cX8_init 23 = .ok (.return_, 1) := by decide +kernel
theorem dX8_isFull_0 : decode cX8_isFull 0 = .ok (.aload_n 0, 1) := by decide +kernel
theorem dX8_isFull_1 : decode cX8_isFull 1 = .ok (.getfield 20, 3) := by decide +kernel
theorem dX8_isFull_4 : decode cX8_isFull 4 = .ok (.aload_n 0, 1) := by decide +kernel
theorem dX8_isFull_5 : decode cX8_isFull 5 = .ok (.getfield 7, 3) := by decide +kernel
theorem dX8_isFull_8 : decode cX8_isFull 8 = .ok (.if_icmp .lt 7, 3) := by decide +kernel
theorem dX8_isFull_11 : decode cX8_isFull 11 = .ok (.iconst 1, 1) := by decide +kernel
theorem dX8_isFull_12 : decode cX8_isFull 12 = .ok (.goto 4, 3) := by decide +kernel
theorem dX8_isFull_15 : decode cX8_isFull 15 = .ok (.iconst 0, 1) := by decide +kernel
theorem dX8_isFull_16 : decode cX8_isFull 16 = .ok (.ireturn, 1) := by decide +kernel
theorem dX8_has_0 : decode cX8_has 0 = .ok (.iload_n 1, 1) := by decide +kernel
theorem dX8_has_1 : decode cX8_has 1 = .ok (.ifCond .lt 15, 3) := by decide +kernel
theorem dX8_has_4 : decode cX8_has 4 = .ok (.iload_n 1, 1) := by decide +kernel
theorem dX8_has_5 : decode cX8_has 5 = .ok (.aload_n 0, 1) := by decide +kernel
theorem dX8_has_6 : decode cX8_has 6 = .ok (.getfield 20, 3) := by decide +kernel
theorem dX8_has_9 : decode cX8_has 9 = .ok (.if_icmp .ge 7, 3) := by decide +kernel
theorem dX8_has_12 : decode cX8_has 12 = .ok (.iconst 1, 1) := by decide +kernel
theorem dX8_has_13 : decode cX8_has 13 = .ok (.goto 4, 3) := by decide +kernel
theorem dX8_has_16 : decode cX8_has 16 = .ok (.iconst 0, 1) := by decide +kernel
theorem dX8_has_17 : decode cX8_has 17 = .ok (.ireturn, 1) := by decide +kernel
theorem dX8_cell_0 : decode cX8_cell 0 = .ok (.iload_n 1, 1) := by decide +kernel
theorem dX8_cell_1 : decode cX8_cell 1 = .ok (.aload_n 0, 1) := by decide +kernel
theorem dX8_cell_2 : decode cX8_cell 2 = .ok (.getfield 13, 3) := by decide +kernel
theorem dX8_cell_5 : decode cX8_cell 5 = .ok (.imul, 1) := by decide +kernel
theorem dX8_cell_6 : decode cX8_cell 6 = .ok (.iload_n 2, 1) := by decide +kernel
theorem dX8_cell_7 : decode cX8_cell 7 = .ok (.iadd, 1) := by decide +kernel
theorem dX8_cell_8 : decode cX8_cell 8 = .ok (.istore_n 3, 1) := by decide +kernel
theorem dX8_cell_9 : decode cX8_cell 9 = .ok (.iload_n 3, 1) := by decide +kernel
theorem dX8_cell_10 : decode cX8_cell 10 = .ok (.ifCond .lt 21, 3) := by decide +kernel
theorem dX8_cell_13 : decode cX8_cell 13 = .ok (.iload_n 3, 1) := by decide +kernel
theorem dX8_cell_14 : decode cX8_cell 14 = .ok (.aload_n 0, 1) := by decide +kernel
theorem dX8_cell_15 : decode cX8_cell 15 = .ok (.getfield 16, 3) := by decide +kernel
theorem dX8_cell_18 : decode cX8_cell 18 = .ok (.arraylength, 1) := by decide +kernel
theorem dX8_cell_19 : decode cX8_cell 19 = .ok (.if_icmp .ge 12, 3) := by decide +kernel
theorem dX8_cell_22 : decode cX8_cell 22 = .ok (.aload_n 0, 1) := by decide +kernel
theorem dX8_cell_23 : decode cX8_cell 23 = .ok (.getfield 16, 3) := by decide +kernel
theorem dX8_cell_26 : decode cX8_cell 26 = .ok (.iload_n 3, 1) := by decide +kernel
theorem dX8_cell_27 : decode cX8_cell 27 = .ok (.iaload, 1) := by decide +kernel
theorem dX8_cell_28 : decode cX8_cell 28 = .ok (.goto 4, 3) := by decide +kernel
theorem dX8_cell_31 : decode cX8_cell 31 = .ok (.iconst 0, 1) := by decide +kernel
theorem dX8_cell_32 : decode cX8_cell 32 = .ok (.ireturn, 1) := by decide +kernel
theorem dX8_put_0 : decode cX8_put 0 = .ok (.aload_n 0, 1) := by decide +kernel
theorem dX8_put_1 : decode cX8_put 1 = .ok (.getfield 20, 3) := by decide +kernel
theorem dX8_put_4 : decode cX8_put 4 = .ok (.aload_n 0, 1) := by decide +kernel
theorem dX8_put_5 : decode cX8_put 5 = .ok (.getfield 13, 3) := by decide +kernel
theorem dX8_put_8 : decode cX8_put 8 = .ok (.imul, 1) := by decide +kernel
theorem dX8_put_9 : decode cX8_put 9 = .ok (.iload_n 1, 1) := by decide +kernel
theorem dX8_put_10 : decode cX8_put 10 = .ok (.iadd, 1) := by decide +kernel
theorem dX8_put_11 : decode cX8_put 11 = .ok (.istore_n 3, 1) := by decide +kernel
theorem dX8_put_12 : decode cX8_put 12 = .ok (.iload_n 3, 1) := by decide +kernel
theorem dX8_put_13 : decode cX8_put 13 = .ok (.ifCond .lt 19, 3) := by decide +kernel
theorem dX8_put_16 : decode cX8_put 16 = .ok (.iload_n 3, 1) := by decide +kernel
theorem dX8_put_17 : decode cX8_put 17 = .ok (.aload_n 0, 1) := by decide +kernel
theorem dX8_put_18 : decode cX8_put 18 = .ok (.getfield 16, 3) := by decide +kernel
theorem dX8_put_21 : decode cX8_put 21 = .ok (.arraylength, 1) := by decide +kernel
theorem dX8_put_22 : decode cX8_put 22 = .ok (.if_icmp .ge 10, 3) := by decide +kernel
theorem dX8_put_25 : decode cX8_put 25 = .ok (.aload_n 0, 1) := by decide +kernel
theorem dX8_put_26 : decode cX8_put 26 = .ok (.getfield 16, 3) := by decide +kernel
theorem dX8_put_29 : decode cX8_put 29 = .ok (.iload_n 3, 1) := by decide +kernel
theorem dX8_put_30 : decode cX8_put 30 = .ok (.iload_n 2, 1) := by decide +kernel
theorem dX8_put_31 : decode cX8_put 31 = .ok (.iastore, 1) := by decide +kernel
theorem dX8_put_32 : decode cX8_put 32 = .ok (.return_, 1) := by decide +kernel
theorem dX8_endRow_0 : decode cX8_endRow 0 = .ok (.aload_n 0, 1) := by decide +kernel
theorem dX8_endRow_1 : decode cX8_endRow 1 = .ok (.getfield 20, 3) := by decide +kernel
theorem dX8_endRow_4 : decode cX8_endRow 4 = .ok (.aload_n 0, 1) := by decide +kernel
theorem dX8_endRow_5 : decode cX8_endRow 5 = .ok (.getfield 7, 3) := by decide +kernel
theorem dX8_endRow_8 : decode cX8_endRow 8 = .ok (.if_icmp .ge 13, 3) := by decide +kernel
theorem dX8_endRow_11 : decode cX8_endRow 11 = .ok (.aload_n 0, 1) := by decide +kernel
theorem dX8_endRow_12 : decode cX8_endRow 12 = .ok (.dup, 1) := by decide +kernel
theorem dX8_endRow_13 : decode cX8_endRow 13 = .ok (.getfield 20, 3) := by decide +kernel
theorem dX8_endRow_16 : decode cX8_endRow 16 = .ok (.iconst 1, 1) := by decide +kernel
theorem dX8_endRow_17 : decode cX8_endRow 17 = .ok (.iadd, 1) := by decide +kernel
theorem dX8_endRow_18 : decode cX8_endRow 18 = .ok (.putfield 20, 3) := by decide +kernel
theorem dX8_endRow_21 : decode cX8_endRow 21 = .ok (.return_, 1) := by decide +kernel
theorem dX9_init_0 : decode cX9_init 0 = .ok (.aload_n 0, 1) := by decide +kernel
theorem dX9_init_1 : decode cX9_init 1 = .ok (.invokespecial 1, 3) := by decide +kernel
theorem dX9_init_4 : decode cX9_init 4 = .ok (.aload_n 0, 1) := by decide +kernel
theorem dX9_init_5 : decode cX9_init 5 = .ok (.sipush 200, 3) := by decide +kernel
theorem dX9_init_8 : decode cX9_init 8 = .ok (.newarray .int, 2) := by decide +kernel
theorem dX9_init_10 : decode cX9_init 10 = .ok (.putfield 9, 3) := by decide +kernel
theorem dX9_init_13 : decode cX9_init 13 = .ok (.aload_n 0, 1) := by decide +kernel
theorem dX9_init_14 : decode cX9_init 14 = .ok (.iconst 0, 1) := by decide +kernel
theorem dX9_init_15 : decode cX9_init 15 = .ok (.putfield 13, 3) := by decide +kernel
theorem dX9_init_18 : decode cX9_init 18 = .ok (.return_, 1) := by decide +kernel
theorem dX9_append_0 : decode cX9_append 0 = .ok (.aload_n 0, 1) := by decide +kernel
theorem dX9_append_1 : decode cX9_append 1 = .ok (.getfield 13, 3) := by decide +kernel
theorem dX9_append_4 : decode cX9_append 4 = .ok (.sipush 200, 3) := by decide +kernel
theorem dX9_append_7 : decode cX9_append 7 = .ok (.if_icmp .ge 23, 3) := by decide +kernel
theorem dX9_append_10 : decode cX9_append 10 = .ok (.aload_n 0, 1) := by decide +kernel
theorem dX9_append_11 : decode cX9_append 11 = .ok (.getfield 9, 3) := by decide +kernel
theorem dX9_append_14 : decode cX9_append 14 = .ok (.aload_n 0, 1) := by decide +kernel
theorem dX9_append_15 : decode cX9_append 15 = .ok (.getfield 13, 3) := by decide +kernel
theorem dX9_append_18 : decode cX9_append 18 = .ok (.iload_n 1, 1) := by decide +kernel
theorem dX9_append_19 : decode cX9_append 19 = .ok (.iastore, 1) := by decide +kernel
theorem dX9_append_20 : decode cX9_append 20 = .ok (.aload_n 0, 1) := by decide +kernel
theorem dX9_append_21 : decode cX9_append 21 = .ok (.dup, 1) := by decide +kernel
theorem dX9_append_22 : decode cX9_append 22 = .ok (.getfield 13, 3) := by decide +kernel
theorem dX9_append_25 : decode cX9_append 25 = .ok (.iconst 1, 1) := by decide +kernel
theorem dX9_append_26 : decode cX9_append 26 = .ok (.iadd, 1) := by decide +kernel
theorem dX9_append_27 : decode cX9_append 27 = .ok (.putfield 13, 3) := by decide +kernel
theorem dX9_append_30 : decode cX9_append 30 = .ok (.return_, 1) := by decide +kernel
theorem dX9_at_0 : decode cX9_at 0 = .ok (.iload_n 1, 1) := by decide +kernel
theorem dX9_at_1 : decode cX9_at 1 = .ok (.ifCond .lt 20, 3) := by decide +kernel
theorem dX9_at_4 : decode cX9_at 4 = .ok (.iload_n 1, 1) := by decide +kernel
theorem dX9_at_5 : decode cX9_at 5 = .ok (.aload_n 0, 1) := by decide +kernel
theorem dX9_at_6 : decode cX9_at 6 = .ok (.getfield 13, 3) := by decide +kernel
theorem dX9_at_9 : decode cX9_at 9 = .ok (.if_icmp .ge 12, 3) := by decide +kernel
theorem dX9_at_12 : decode cX9_at 12 = .ok (.aload_n 0, 1) := by decide +kernel
theorem dX9_at_13 : decode cX9_at 13 = .ok (.getfield 9, 3) := by decide +kernel
theorem dX9_at_16 : decode cX9_at 16 = .ok (.iload_n 1, 1) := by decide +kernel
theorem dX9_at_17 : decode cX9_at 17 = .ok (.iaload, 1) := by decide +kernel
theorem dX9_at_18 : decode cX9_at 18 = .ok (.goto 4, 3) := by decide +kernel
theorem dX9_at_21 : decode cX9_at 21 = .ok (.iconst (-1), 1) := by decide +kernel
theorem dX9_at_22 : decode cX9_at 22 = .ok (.ireturn, 1) := by decide +kernel
theorem dX10_init_0 : decode cX10_init 0 = .ok (.aload_n 0, 1) := by decide +kernel
theorem dX10_init_1 : decode cX10_init 1 = .ok (.invokespecial 1, 3) := by decide +kernel
theorem dX10_init_4 : decode cX10_init 4 = .ok (.aload_n 0, 1) := by decide +kernel
theorem dX10_init_5 : decode cX10_init 5 = .ok (.aload_n 1, 1) := by decide +kernel
theorem dX10_init_6 : decode cX10_init 6 = .ok (.putfield 7, 3) := by decide +kernel
theorem dX10_init_9 : decode cX10_init 9 = .ok (.aload_n 0, 1) := by decide +kernel
theorem dX10_init_10 : decode cX10_init 10 = .ok (.new 13, 3) := by decide +kernel
theorem dX10_init_13 : decode cX10_init 13 = .ok (.dup, 1) := by decide +kernel
theorem dX10_init_14 : decode cX10_init 14 = .ok (.aload_n 1, 1) := by decide +kernel
theorem dX10_init_15 : decode cX10_init 15 = .ok (.new 15, 3) := by decide +kernel
theorem dX10_init_18 : decode cX10_init 18 = .ok (.dup, 1) := by decide +kernel
theorem dX10_init_19 : decode cX10_init 19 = .ok (.invokespecial 17, 3) := by decide +kernel
theorem dX10_init_22 : decode cX10_init 22 = .ok (.invokespecial 18, 3) := by decide +kernel
theorem dX10_init_25 : decode cX10_init 25 = .ok (.putfield 21, 3) := by decide +kernel
theorem dX10_init_28 : decode cX10_init 28 = .ok (.return_, 1) := by decide +kernel
theorem dX10_readMethod_0 : decode cX10_readMethod 0 = .ok (.aload_n 0, 1) := by decide +kernel
theorem dX10_readMethod_1 : decode cX10_readMethod 1 = .ok (.getfield 7, 3) := by decide +kernel
theorem dX10_readMethod_4 : decode cX10_readMethod 4 = .ok (.invokevirtual 25, 3) := by decide +kernel
theorem dX10_readMethod_7 : decode cX10_readMethod 7 = .ok (.aload_n 0, 1) := by decide +kernel
theorem dX10_readMethod_8 : decode cX10_readMethod 8 = .ok (.getfield 7, 3) := by decide +kernel
theorem dX10_readMethod_11 : decode cX10_readMethod 11 = .ok (.invokevirtual 30, 3) := by decide +kernel
theorem dX10_readMethod_14 : decode cX10_readMethod 14 = .ok (.aload_n 0, 1) := by decide +kernel
theorem dX10_readMethod_15 : decode cX10_readMethod 15 = .ok (.getfield 7, 3) := by decide +kernel
theorem dX10_readMethod_18 : decode cX10_readMethod 18 = .ok (.invokevirtual 33, 3) := by decide +kernel
theorem dX10_readMethod_21 : decode cX10_readMethod 21 = .ok (.lstore_n 2, 1) := by decide +kernel
theorem dX10_readMethod_22 : decode cX10_readMethod 22 = .ok (.aload_n 0, 1) := by decide +kernel
theorem dX10_readMethod_23 : decode cX10_readMethod 23 = .ok (.getfield 7, 3) := by decide +kernel
theorem dX10_readMethod_26 : decode cX10_readMethod 26 = .ok (.bipush 40, 2) := by decide +kernel
theorem dX10_readMethod_28 : decode cX10_readMethod 28 = .ok (.invokevirtual 37, 3) := by decide +kernel
theorem dX10_readMethod_31 : decode cX10_readMethod 31 = .ok (.aload_n 0, 1) := by decide +kernel
theorem dX10_readMethod_32 : decode cX10_readMethod 32 = .ok (.invokevirtual 41, 3) := by decide +kernel
theorem dX10_readMethod_35 : decode cX10_readMethod 35 = .ok (.istore 4, 2) := by decide +kernel
theorem dX10_readMethod_37 : decode cX10_readMethod 37 = .ok (.aload_n 0, 1) := by decide +kernel
theorem dX10_readMethod_38 : decode cX10_readMethod 38 = .ok (.getfield 7, 3) := by decide +kernel
theorem dX10_readMethod_41 : decode cX10_readMethod 41 = .ok (.bipush 41, 2) := by decide +kernel
theorem dX10_readMethod_43 : decode cX10_readMethod 43 = .ok (.invokevirtual 37, 3) := by decide +kernel
theorem dX10_readMethod_46 : decode cX10_readMethod 46 = .ok (.aload_n 0, 1) := by decide +kernel
theorem dX10_readMethod_47 : decode cX10_readMethod 47 = .ok (.getfield 7, 3) := by decide +kernel
theorem dX10_readMethod_50 : decode cX10_readMethod 50 = .ok (.bipush 61, 2) := by decide +kernel
theorem dX10_readMethod_52 : decode cX10_readMethod 52 = .ok (.invokevirtual 37, 3) := by decide +kernel
theorem dX10_readMethod_55 : decode cX10_readMethod 55 = .ok (.aload_n 0, 1) := by decide +kernel
theorem dX10_readMethod_56 : decode cX10_readMethod 56 = .ok (.getfield 21, 3) := by decide +kernel
theorem dX10_readMethod_59 : decode cX10_readMethod 59 = .ok (.aload_n 1, 1) := by decide +kernel
theorem dX10_readMethod_60 : decode cX10_readMethod 60 = .ok (.iload 4, 2) := by decide +kernel
theorem dX10_readMethod_62 : decode cX10_readMethod 62 = .ok (.iconst 1, 1) := by decide +kernel
theorem dX10_readMethod_63 : decode cX10_readMethod 63 = .ok (.invokevirtual 45, 3) := by decide +kernel
theorem dX10_readMethod_66 : decode cX10_readMethod 66 = .ok (.aload_n 0, 1) := by decide +kernel
theorem dX10_readMethod_67 : decode cX10_readMethod 67 = .ok (.invokevirtual 49, 3) := by decide +kernel
theorem dX10_readMethod_70 : decode cX10_readMethod 70 = .ok (.lload_n 2, 1) := by decide +kernel
theorem dX10_readMethod_71 : decode cX10_readMethod 71 = .ok (.iload 4, 2) := by decide +kernel
theorem dX10_readMethod_73 : decode cX10_readMethod 73 = .ok (.invokestatic 52, 3) := by decide +kernel
theorem dX10_readMethod_76 : decode cX10_readMethod 76 = .ok (.lreturn, 1) := by decide +kernel
theorem dX10_parameters_0 : decode cX10_parameters 0 = .ok (.aload_n 0, 1) := by decide +kernel
theorem dX10_parameters_1 : decode cX10_parameters 1 = .ok (.getfield 7, 3) := by decide +kernel
theorem dX10_parameters_4 : decode cX10_parameters 4 = .ok (.invokevirtual 58, 3) := by decide +kernel
theorem dX10_parameters_7 : decode cX10_parameters 7 = .ok (.istore_n 1, 1) := by decide +kernel
theorem dX10_parameters_8 : decode cX10_parameters 8 = .ok (.iload_n 1, 1) := by decide +kernel
theorem dX10_parameters_9 : decode cX10_parameters 9 = .ok (.bipush 48, 2) := by decide +kernel
theorem dX10_parameters_11 : decode cX10_parameters 11 = .ok (.if_icmp .lt 9, 3) := by decide +kernel
theorem dX10_parameters_14 : decode cX10_parameters 14 = .ok (.iload_n 1, 1) := by decide +kernel
theorem dX10_parameters_15 : decode cX10_parameters 15 = .ok (.bipush 51, 2) := by decide +kernel
theorem dX10_parameters_17 : decode cX10_parameters 17 = .ok (.if_icmp .le 20, 3) := by decide +kernel
theorem dX10_parameters_20 : decode cX10_parameters 20 = .ok (.aload_n 0, 1) := by decide +kernel
theorem dX10_parameters_21 : decode cX10_parameters 21 = .ok (.getfield 7, 3) := by decide +kernel
theorem dX10_parameters_24 : decode cX10_parameters 24 = .ok (.iconst 1, 1) := by decide +kernel
theorem dX10_parameters_25 : decode cX10_parameters 25 = .ok (.aload_n 0, 1) := by decide +kernel
theorem dX10_parameters_26 : decode cX10_parameters 26 = .ok (.getfield 7, 3) := by decide +kernel
theorem dX10_parameters_29 : decode cX10_parameters 29 = .ok (.getfield 61, 3) := by decide +kernel
theorem dX10_parameters_32 : decode cX10_parameters 32 = .ok (.invokevirtual 65, 3) := by decide +kernel
theorem dX10_parameters_35 : decode cX10_parameters 35 = .ok (.iconst 0, 1) := by decide +kernel
theorem dX10_parameters_36 : decode cX10_parameters 36 = .ok (.ireturn, 1) := by decide +kernel
theorem dX10_parameters_37 : decode cX10_parameters 37 = .ok (.aload_n 0, 1) := by decide +kernel
theorem dX10_parameters_38 : decode cX10_parameters 38 = .ok (.getfield 7, 3) := by decide +kernel
theorem dX10_parameters_41 : decode cX10_parameters 41 = .ok (.dup, 1) := by decide +kernel
theorem dX10_parameters_42 : decode cX10_parameters 42 = .ok (.getfield 61, 3) := by decide +kernel
theorem dX10_parameters_45 : decode cX10_parameters 45 = .ok (.iconst 1, 1) := by decide +kernel
theorem dX10_parameters_46 : decode cX10_parameters 46 = .ok (.iadd, 1) := by decide +kernel
theorem dX10_parameters_47 : decode cX10_parameters 47 = .ok (.putfield 61, 3) := by decide +kernel
theorem dX10_parameters_50 : decode cX10_parameters 50 = .ok (.iload_n 1, 1) := by decide +kernel
theorem dX10_parameters_51 : decode cX10_parameters 51 = .ok (.bipush 48, 2) := by decide +kernel
theorem dX10_parameters_53 : decode cX10_parameters 53 = .ok (.isub, 1) := by decide +kernel
theorem dX10_parameters_54 : decode cX10_parameters 54 = .ok (.ireturn, 1) := by decide +kernel
theorem dX10_readCommand_0 : decode cX10_readCommand 0 = .ok (.aload_n 0, 1) := by decide +kernel
theorem dX10_readCommand_1 : decode cX10_readCommand 1 = .ok (.getfield 7, 3) := by decide +kernel
theorem dX10_readCommand_4 : decode cX10_readCommand 4 = .ok (.invokevirtual 25, 3) := by decide +kernel
theorem dX10_readCommand_7 : decode cX10_readCommand 7 = .ok (.aload_n 0, 1) := by decide +kernel
theorem dX10_readCommand_8 : decode cX10_readCommand 8 = .ok (.getfield 7, 3) := by decide +kernel
theorem dX10_readCommand_11 : decode cX10_readCommand 11 = .ok (.invokevirtual 69, 3) := by decide +kernel
theorem dX10_readCommand_14 : decode cX10_readCommand 14 = .ok (.aload_n 1, 1) := by decide +kernel
theorem dX10_readCommand_15 : decode cX10_readCommand 15 = .ok (.invokevirtual 72, 3) := by decide +kernel
theorem dX10_readCommand_18 : decode cX10_readCommand 18 = .ok (.aload_n 0, 1) := by decide +kernel
theorem dX10_readCommand_19 : decode cX10_readCommand 19 = .ok (.invokevirtual 77, 3) := by decide +kernel
theorem dX10_readCommand_22 : decode cX10_readCommand 22 = .ok (.istore_n 2, 1) := by decide +kernel
theorem dX10_readCommand_23 : decode cX10_readCommand 23 = .ok (.iload_n 2, 1) := by decide +kernel
theorem dX10_readCommand_24 : decode cX10_readCommand 24 = .ok (.iconst 4, 1) := by decide +kernel
theorem dX10_readCommand_25 : decode cX10_readCommand 25 = .ok (.if_icmp .ne 26, 3) := by decide +kernel
theorem dX10_readCommand_28 : decode cX10_readCommand 28 = .ok (.aload_n 0, 1) := by decide +kernel
theorem dX10_readCommand_29 : decode cX10_readCommand 29 = .ok (.aload_n 0, 1) := by decide +kernel
theorem dX10_readCommand_30 : decode cX10_readCommand 30 = .ok (.getfield 7, 3) := by decide +kernel
theorem dX10_readCommand_33 : decode cX10_readCommand 33 = .ok (.bipush 99, 2) := by decide +kernel
theorem dX10_readCommand_35 : decode cX10_readCommand 35 = .ok (.invokevirtual 80, 3) := by decide +kernel
theorem dX10_readCommand_38 : decode cX10_readCommand 38 = .ok (.putfield 84, 3) := by decide +kernel
theorem dX10_readCommand_41 : decode cX10_readCommand 41 = .ok (.aload_n 0, 1) := by decide +kernel
theorem dX10_readCommand_42 : decode cX10_readCommand 42 = .ok (.getfield 7, 3) := by decide +kernel
theorem dX10_readCommand_45 : decode cX10_readCommand 45 = .ok (.invokevirtual 86, 3) := by decide +kernel
theorem dX10_readCommand_48 : decode cX10_readCommand 48 = .ok (.goto 29, 3) := by decide +kernel
theorem dX10_readCommand_51 : decode cX10_readCommand 51 = .ok (.iload_n 2, 1) := by decide +kernel
theorem dX10_readCommand_52 : decode cX10_readCommand 52 = .ok (.iconst 1, 1) := by decide +kernel
theorem dX10_readCommand_53 : decode cX10_readCommand 53 = .ok (.if_icmp .ne 11, 3) := by decide +kernel
theorem dX10_readCommand_56 : decode cX10_readCommand 56 = .ok (.aload_n 0, 1) := by decide +kernel
theorem dX10_readCommand_57 : decode cX10_readCommand 57 = .ok (.aload_n 1, 1) := by decide +kernel
theorem dX10_readCommand_58 : decode cX10_readCommand 58 = .ok (.invokevirtual 89, 3) := by decide +kernel
theorem dX10_readCommand_61 : decode cX10_readCommand 61 = .ok (.goto 16, 3) := by decide +kernel
theorem dX10_readCommand_64 : decode cX10_readCommand 64 = .ok (.iload_n 2, 1) := by decide +kernel
theorem dX10_readCommand_65 : decode cX10_readCommand 65 = .ok (.iconst 5, 1) := by decide +kernel
theorem dX10_readCommand_66 : decode cX10_readCommand 66 = .ok (.if_icmp .eq 11, 3) := by decide +kernel
theorem dX10_readCommand_69 : decode cX10_readCommand 69 = .ok (.aload_n 1, 1) := by decide +kernel
theorem dX10_readCommand_70 : decode cX10_readCommand 70 = .ok (.aload_n 0, 1) := by decide +kernel
theorem dX10_readCommand_71 : decode cX10_readCommand 71 = .ok (.invokevirtual 93, 3) := by decide +kernel
theorem dX10_readCommand_74 : decode cX10_readCommand 74 = .ok (.putfield 96, 3) := by decide +kernel
theorem dX10_readCommand_77 : decode cX10_readCommand 77 = .ok (.aload_n 0, 1) := by decide +kernel
theorem dX10_readCommand_78 : decode cX10_readCommand 78 = .ok (.invokevirtual 49, 3) := by decide +kernel
theorem dX10_readCommand_81 : decode cX10_readCommand 81 = .ok (.aload_n 1, 1) := by decide +kernel
theorem dX10_readCommand_82 : decode cX10_readCommand 82 = .ok (.iload_n 2, 1) := by decide +kernel
theorem dX10_readCommand_83 : decode cX10_readCommand 83 = .ok (.putfield 99, 3) := by decide +kernel
theorem dX10_readCommand_86 : decode cX10_readCommand 86 = .ok (.iload_n 2, 1) := by decide +kernel
theorem dX10_readCommand_87 : decode cX10_readCommand 87 = .ok (.ireturn, 1) := by decide +kernel
theorem dX10_verb_0 : decode cX10_verb 0 = .ok (.aload_n 0, 1) := by decide +kernel
theorem dX10_verb_1 : decode cX10_verb 1 = .ok (.getfield 7, 3) := by decide +kernel
theorem dX10_verb_4 : decode cX10_verb 4 = .ok (.ldc 102, 2) := by decide +kernel
theorem dX10_verb_6 : decode cX10_verb 6 = .ok (.invokevirtual 104, 3) := by decide +kernel
theorem dX10_verb_9 : decode cX10_verb 9 = .ok (.ifCond .eq 5, 3) := by decide +kernel
theorem dX10_verb_12 : decode cX10_verb 12 = .ok (.iconst 1, 1) := by decide +kernel
theorem dX10_verb_13 : decode cX10_verb 13 = .ok (.ireturn, 1) := by decide +kernel
theorem dX10_verb_14 : decode cX10_verb 14 = .ok (.aload_n 0, 1) := by decide +kernel
theorem dX10_verb_15 : decode cX10_verb 15 = .ok (.getfield 7, 3) := by decide +kernel
theorem dX10_verb_18 : decode cX10_verb 18 = .ok (.ldc 108, 2) := by decide +kernel
theorem dX10_verb_20 : decode cX10_verb 20 = .ok (.invokevirtual 104, 3) := by decide +kernel
theorem dX10_verb_23 : decode cX10_verb 23 = .ok (.ifCond .eq 5, 3) := by decide +kernel
theorem dX10_verb_26 : decode cX10_verb 26 = .ok (.iconst 2, 1) := by decide +kernel
theorem dX10_verb_27 : decode cX10_verb 27 = .ok (.ireturn, 1) := by decide +kernel
theorem dX10_verb_28 : decode cX10_verb 28 = .ok (.aload_n 0, 1) := by decide +kernel
theorem dX10_verb_29 : decode cX10_verb 29 = .ok (.getfield 7, 3) := by decide +kernel
theorem dX10_verb_32 : decode cX10_verb 32 = .ok (.ldc 110, 2) := by decide +kernel
theorem dX10_verb_34 : decode cX10_verb 34 = .ok (.invokevirtual 104, 3) := by decide +kernel
theorem dX10_verb_37 : decode cX10_verb 37 = .ok (.ifCond .eq 5, 3) := by decide +kernel
theorem dX10_verb_40 : decode cX10_verb 40 = .ok (.iconst 3, 1) := by decide +kernel
theorem dX10_verb_41 : decode cX10_verb 41 = .ok (.ireturn, 1) := by decide +kernel
theorem dX10_verb_42 : decode cX10_verb 42 = .ok (.aload_n 0, 1) := by decide +kernel
theorem dX10_verb_43 : decode cX10_verb 43 = .ok (.getfield 7, 3) := by decide +kernel
theorem dX10_verb_46 : decode cX10_verb 46 = .ok (.ldc 112, 2) := by decide +kernel
theorem dX10_verb_48 : decode cX10_verb 48 = .ok (.invokevirtual 104, 3) := by decide +kernel
theorem dX10_verb_51 : decode cX10_verb 51 = .ok (.ifCond .eq 5, 3) := by decide +kernel
theorem dX10_verb_54 : decode cX10_verb 54 = .ok (.iconst 4, 1) := by decide +kernel
theorem dX10_verb_55 : decode cX10_verb 55 = .ok (.ireturn, 1) := by decide +kernel
theorem dX10_verb_56 : decode cX10_verb 56 = .ok (.aload_n 0, 1) := by decide +kernel
theorem dX10_verb_57 : decode cX10_verb 57 = .ok (.getfield 7, 3) := by decide +kernel
theorem dX10_verb_60 : decode cX10_verb 60 = .ok (.ldc 114, 2) := by decide +kernel
theorem dX10_verb_62 : decode cX10_verb 62 = .ok (.invokevirtual 104, 3) := by decide +kernel
theorem dX10_verb_65 : decode cX10_verb 65 = .ok (.ifCond .ne 18, 3) := by decide +kernel
theorem dX10_verb_68 : decode cX10_verb 68 = .ok (.aload_n 0, 1) := by decide +kernel
theorem dX10_verb_69 : decode cX10_verb 69 = .ok (.getfield 7, 3) := by decide +kernel
theorem dX10_verb_72 : decode cX10_verb 72 = .ok (.iconst 1, 1) := by decide +kernel
theorem dX10_verb_73 : decode cX10_verb 73 = .ok (.aload_n 0, 1) := by decide +kernel
theorem dX10_verb_74 : decode cX10_verb 74 = .ok (.getfield 7, 3) := by decide +kernel
theorem dX10_verb_77 : decode cX10_verb 77 = .ok (.getfield 61, 3) := by decide +kernel
theorem dX10_verb_80 : decode cX10_verb 80 = .ok (.invokevirtual 65, 3) := by decide +kernel
theorem dX10_verb_83 : decode cX10_verb 83 = .ok (.iconst 5, 1) := by decide +kernel
theorem dX10_verb_84 : decode cX10_verb 84 = .ok (.ireturn, 1) := by decide +kernel
theorem dX10_readWatch_0 : decode cX10_readWatch 0 = .ok (.aload_n 1, 1) := by decide +kernel
theorem dX10_readWatch_1 : decode cX10_readWatch 1 = .ok (.aload_n 0, 1) := by decide +kernel
theorem dX10_readWatch_2 : decode cX10_readWatch 2 = .ok (.invokevirtual 116, 3) := by decide +kernel
theorem dX10_readWatch_5 : decode cX10_readWatch 5 = .ok (.putfield 119, 3) := by decide +kernel
theorem dX10_readWatch_8 : decode cX10_readWatch 8 = .ok (.aload_n 1, 1) := by decide +kernel
theorem dX10_readWatch_9 : decode cX10_readWatch 9 = .ok (.aload_n 0, 1) := by decide +kernel
theorem dX10_readWatch_10 : decode cX10_readWatch 10 = .ok (.invokevirtual 93, 3) := by decide +kernel
theorem dX10_readWatch_13 : decode cX10_readWatch 13 = .ok (.putfield 96, 3) := by decide +kernel
theorem dX10_readWatch_16 : decode cX10_readWatch 16 = .ok (.aload_n 0, 1) := by decide +kernel
theorem dX10_readWatch_17 : decode cX10_readWatch 17 = .ok (.getfield 21, 3) := by decide +kernel
theorem dX10_readWatch_20 : decode cX10_readWatch 20 = .ok (.aload_n 1, 1) := by decide +kernel
theorem dX10_readWatch_21 : decode cX10_readWatch 21 = .ok (.getfield 121, 3) := by decide +kernel
theorem dX10_readWatch_24 : decode cX10_readWatch 24 = .ok (.ldc 125, 2) := by decide +kernel
theorem dX10_readWatch_26 : decode cX10_readWatch 26 = .ok (.invokevirtual 127, 3) := by decide +kernel
theorem dX10_readWatch_29 : decode cX10_readWatch 29 = .ok (.iconst 0, 1) := by decide +kernel
theorem dX10_readWatch_30 : decode cX10_readWatch 30 = .ok (.invokevirtual 45, 3) := by decide +kernel
theorem dX10_readWatch_33 : decode cX10_readWatch 33 = .ok (.aload_n 0, 1) := by decide +kernel
theorem dX10_readWatch_34 : decode cX10_readWatch 34 = .ok (.getfield 7, 3) := by decide +kernel
theorem dX10_readWatch_37 : decode cX10_readWatch 37 = .ok (.invokevirtual 86, 3) := by decide +kernel
theorem dX10_readWatch_40 : decode cX10_readWatch 40 = .ok (.aload_n 0, 1) := by decide +kernel
theorem dX10_readWatch_41 : decode cX10_readWatch 41 = .ok (.getfield 7, 3) := by decide +kernel
theorem dX10_readWatch_44 : decode cX10_readWatch 44 = .ok (.invokevirtual 58, 3) := by decide +kernel
theorem dX10_readWatch_47 : decode cX10_readWatch 47 = .ok (.iconst (-1), 1) := by decide +kernel
theorem dX10_readWatch_48 : decode cX10_readWatch 48 = .ok (.if_icmp .eq 32, 3) := by decide +kernel
theorem dX10_readWatch_51 : decode cX10_readWatch 51 = .ok (.aload_n 0, 1) := by decide +kernel
theorem dX10_readWatch_52 : decode cX10_readWatch 52 = .ok (.getfield 21, 3) := by decide +kernel
theorem dX10_readWatch_55 : decode cX10_readWatch 55 = .ok (.aload_n 1, 1) := by decide +kernel
theorem dX10_readWatch_56 : decode cX10_readWatch 56 = .ok (.getfield 134, 3) := by decide +kernel
theorem dX10_readWatch_59 : decode cX10_readWatch 59 = .ok (.ldc 125, 2) := by decide +kernel
theorem dX10_readWatch_61 : decode cX10_readWatch 61 = .ok (.invokevirtual 127, 3) := by decide +kernel
theorem dX10_readWatch_64 : decode cX10_readWatch 64 = .ok (.iconst 0, 1) := by decide +kernel
theorem dX10_readWatch_65 : decode cX10_readWatch 65 = .ok (.invokevirtual 45, 3) := by decide +kernel
theorem dX10_readWatch_68 : decode cX10_readWatch 68 = .ok (.aload_n 0, 1) := by decide +kernel
theorem dX10_readWatch_69 : decode cX10_readWatch 69 = .ok (.getfield 7, 3) := by decide +kernel
theorem dX10_readWatch_72 : decode cX10_readWatch 72 = .ok (.invokevirtual 86, 3) := by decide +kernel
theorem dX10_readWatch_75 : decode cX10_readWatch 75 = .ok (.aload_n 1, 1) := by decide +kernel
theorem dX10_readWatch_76 : decode cX10_readWatch 76 = .ok (.iconst 1, 1) := by decide +kernel
theorem dX10_readWatch_77 : decode cX10_readWatch 77 = .ok (.putfield 137, 3) := by decide +kernel
theorem dX10_readWatch_80 : decode cX10_readWatch 80 = .ok (.aload_n 0, 1) := by decide +kernel
theorem dX10_readWatch_81 : decode cX10_readWatch 81 = .ok (.getfield 7, 3) := by decide +kernel
theorem dX10_readWatch_84 : decode cX10_readWatch 84 = .ok (.invokevirtual 58, 3) := by decide +kernel
theorem dX10_readWatch_87 : decode cX10_readWatch 87 = .ok (.iconst (-1), 1) := by decide +kernel
theorem dX10_readWatch_88 : decode cX10_readWatch 88 = .ok (.if_icmp .eq 11, 3) := by decide +kernel
theorem dX10_readWatch_91 : decode cX10_readWatch 91 = .ok (.aload_n 1, 1) := by decide +kernel
theorem dX10_readWatch_92 : decode cX10_readWatch 92 = .ok (.aload_n 0, 1) := by decide +kernel
theorem dX10_readWatch_93 : decode cX10_readWatch 93 = .ok (.invokevirtual 141, 3) := by decide +kernel
theorem dX10_readWatch_96 : decode cX10_readWatch 96 = .ok (.putfield 144, 3) := by decide +kernel
theorem dX10_readWatch_99 : decode cX10_readWatch 99 = .ok (.return_, 1) := by decide +kernel
theorem dX10_point_0 : decode cX10_point 0 = .ok (.aload_n 0, 1) := by decide +kernel
theorem dX10_point_1 : decode cX10_point 1 = .ok (.getfield 7, 3) := by decide +kernel
theorem dX10_point_4 : decode cX10_point 4 = .ok (.ldc 146, 2) := by decide +kernel
theorem dX10_point_6 : decode cX10_point 6 = .ok (.invokevirtual 104, 3) := by decide +kernel
theorem dX10_point_9 : decode cX10_point 9 = .ok (.ifCond .eq 5, 3) := by decide +kernel
theorem dX10_point_12 : decode cX10_point 12 = .ok (.iconst 0, 1) := by decide +kernel
theorem dX10_point_13 : decode cX10_point 13 = .ok (.ireturn, 1) := by decide +kernel
theorem dX10_point_14 : decode cX10_point 14 = .ok (.aload_n 0, 1) := by decide +kernel
theorem dX10_point_15 : decode cX10_point 15 = .ok (.getfield 7, 3) := by decide +kernel
theorem dX10_point_18 : decode cX10_point 18 = .ok (.ldc 148, 2) := by decide +kernel
theorem dX10_point_20 : decode cX10_point 20 = .ok (.invokevirtual 104, 3) := by decide +kernel
theorem dX10_point_23 : decode cX10_point 23 = .ok (.ifCond .eq 5, 3) := by decide +kernel
theorem dX10_point_26 : decode cX10_point 26 = .ok (.iconst 1, 1) := by decide +kernel
theorem dX10_point_27 : decode cX10_point 27 = .ok (.ireturn, 1) := by decide +kernel
theorem dX10_point_28 : decode cX10_point 28 = .ok (.aload_n 0, 1) := by decide +kernel
theorem dX10_point_29 : decode cX10_point 29 = .ok (.getfield 7, 3) := by decide +kernel
theorem dX10_point_32 : decode cX10_point 32 = .ok (.ldc 150, 2) := by decide +kernel
theorem dX10_point_34 : decode cX10_point 34 = .ok (.invokevirtual 104, 3) := by decide +kernel
theorem dX10_point_37 : decode cX10_point 37 = .ok (.ifCond .ne 18, 3) := by decide +kernel
theorem dX10_point_40 : decode cX10_point 40 = .ok (.aload_n 0, 1) := by decide +kernel
theorem dX10_point_41 : decode cX10_point 41 = .ok (.getfield 7, 3) := by decide +kernel
theorem dX10_point_44 : decode cX10_point 44 = .ok (.iconst 1, 1) := by decide +kernel
theorem dX10_point_45 : decode cX10_point 45 = .ok (.aload_n 0, 1) := by decide +kernel
theorem dX10_point_46 : decode cX10_point 46 = .ok (.getfield 7, 3) := by decide +kernel
theorem dX10_point_49 : decode cX10_point 49 = .ok (.getfield 61, 3) := by decide +kernel
theorem dX10_point_52 : decode cX10_point 52 = .ok (.invokevirtual 65, 3) := by decide +kernel
theorem dX10_point_55 : decode cX10_point 55 = .ok (.iconst 2, 1) := by decide +kernel
theorem dX10_point_56 : decode cX10_point 56 = .ok (.ireturn, 1) := by decide +kernel
theorem dX10_pattern_0 : decode cX10_pattern 0 = .ok (.lconst 0, 1) := by decide +kernel
theorem dX10_pattern_1 : decode cX10_pattern 1 = .ok (.lstore_n 1, 1) := by decide +kernel
theorem dX10_pattern_2 : decode cX10_pattern 2 = .ok (.iconst 0, 1) := by decide +kernel
theorem dX10_pattern_3 : decode cX10_pattern 3 = .ok (.istore_n 3, 1) := by decide +kernel
theorem dX10_pattern_4 : decode cX10_pattern 4 = .ok (.aload_n 0, 1) := by decide +kernel
theorem dX10_pattern_5 : decode cX10_pattern 5 = .ok (.getfield 7, 3) := by decide +kernel
theorem dX10_pattern_8 : decode cX10_pattern 8 = .ok (.invokevirtual 58, 3) := by decide +kernel
theorem dX10_pattern_11 : decode cX10_pattern 11 = .ok (.iconst (-1), 1) := by decide +kernel
theorem dX10_pattern_12 : decode cX10_pattern 12 = .ok (.if_icmp .ne 18, 3) := by decide +kernel
theorem dX10_pattern_15 : decode cX10_pattern 15 = .ok (.aload_n 0, 1) := by decide +kernel
theorem dX10_pattern_16 : decode cX10_pattern 16 = .ok (.getfield 7, 3) := by decide +kernel
theorem dX10_pattern_19 : decode cX10_pattern 19 = .ok (.iconst 1, 1) := by decide +kernel
theorem dX10_pattern_20 : decode cX10_pattern 20 = .ok (.aload_n 0, 1) := by decide +kernel
theorem dX10_pattern_21 : decode cX10_pattern 21 = .ok (.getfield 7, 3) := by decide +kernel
theorem dX10_pattern_24 : decode cX10_pattern 24 = .ok (.getfield 61, 3) := by decide +kernel
theorem dX10_pattern_27 : decode cX10_pattern 27 = .ok (.invokevirtual 65, 3) := by decide +kernel
theorem dX10_pattern_30 : decode cX10_pattern 30 = .ok (.iload_n 3, 1) := by decide +kernel
theorem dX10_pattern_31 : decode cX10_pattern 31 = .ok (.bipush 12, 2) := by decide +kernel
theorem dX10_pattern_33 : decode cX10_pattern 33 = .ok (.if_icmp .gt 75, 3) := by decide +kernel
theorem dX10_pattern_36 : decode cX10_pattern 36 = .ok (.aload_n 0, 1) := by decide +kernel
theorem dX10_pattern_37 : decode cX10_pattern 37 = .ok (.getfield 7, 3) := by decide +kernel
theorem dX10_pattern_40 : decode cX10_pattern 40 = .ok (.invokevirtual 58, 3) := by decide +kernel
theorem dX10_pattern_43 : decode cX10_pattern 43 = .ok (.invokestatic 152, 3) := by decide +kernel
theorem dX10_pattern_46 : decode cX10_pattern 46 = .ok (.ifCond .eq 62, 3) := by decide +kernel
theorem dX10_pattern_49 : decode cX10_pattern 49 = .ok (.iload_n 3, 1) := by decide +kernel
theorem dX10_pattern_50 : decode cX10_pattern 50 = .ok (.bipush 12, 2) := by decide +kernel
theorem dX10_pattern_52 : decode cX10_pattern 52 = .ok (.if_icmp .ne 21, 3) := by decide +kernel
theorem dX10_pattern_55 : decode cX10_pattern 55 = .ok (.aload_n 0, 1) := by decide +kernel
theorem dX10_pattern_56 : decode cX10_pattern 56 = .ok (.getfield 7, 3) := by decide +kernel
theorem dX10_pattern_59 : decode cX10_pattern 59 = .ok (.iconst 3, 1) := by decide +kernel
theorem dX10_pattern_60 : decode cX10_pattern 60 = .ok (.aload_n 0, 1) := by decide +kernel
theorem dX10_pattern_61 : decode cX10_pattern 61 = .ok (.getfield 7, 3) := by decide +kernel
theorem dX10_pattern_64 : decode cX10_pattern 64 = .ok (.getfield 61, 3) := by decide +kernel
theorem dX10_pattern_67 : decode cX10_pattern 67 = .ok (.invokevirtual 65, 3) := by decide +kernel
theorem dX10_pattern_70 : decode cX10_pattern 70 = .ok (.goto 32, 3) := by decide +kernel
theorem dX10_pattern_73 : decode cX10_pattern 73 = .ok (.lload_n 1, 1) := by decide +kernel
theorem dX10_pattern_74 : decode cX10_pattern 74 = .ok (.iload_n 3, 1) := by decide +kernel
theorem dX10_pattern_75 : decode cX10_pattern 75 = .ok (.aload_n 0, 1) := by decide +kernel
theorem dX10_pattern_76 : decode cX10_pattern 76 = .ok (.getfield 7, 3) := by decide +kernel
theorem dX10_pattern_79 : decode cX10_pattern 79 = .ok (.invokevirtual 58, 3) := by decide +kernel
theorem dX10_pattern_82 : decode cX10_pattern 82 = .ok (.invokestatic 152, 3) := by decide +kernel
theorem dX10_pattern_85 : decode cX10_pattern 85 = .ok (.invokestatic 155, 3) := by decide +kernel
theorem dX10_pattern_88 : decode cX10_pattern 88 = .ok (.lstore_n 1, 1) := by decide +kernel
theorem dX10_pattern_89 : decode cX10_pattern 89 = .ok (.aload_n 0, 1) := by decide +kernel
theorem dX10_pattern_90 : decode cX10_pattern 90 = .ok (.getfield 7, 3) := by decide +kernel
theorem dX10_pattern_93 : decode cX10_pattern 93 = .ok (.dup, 1) := by decide +kernel
theorem dX10_pattern_94 : decode cX10_pattern 94 = .ok (.getfield 61, 3) := by decide +kernel
theorem dX10_pattern_97 : decode cX10_pattern 97 = .ok (.iconst 1, 1) := by decide +kernel
theorem dX10_pattern_98 : decode cX10_pattern 98 = .ok (.iadd, 1) := by decide +kernel
theorem dX10_pattern_99 : decode cX10_pattern 99 = .ok (.putfield 61, 3) := by decide +kernel
theorem dX10_pattern_102 : decode cX10_pattern 102 = .ok (.iinc 3 1, 3) := by decide +kernel
theorem dX10_pattern_105 : decode cX10_pattern 105 = .ok (.goto (-75), 3) := by decide +kernel
theorem dX10_pattern_108 : decode cX10_pattern 108 = .ok (.aload_n 0, 1) := by decide +kernel
theorem dX10_pattern_109 : decode cX10_pattern 109 = .ok (.getfield 7, 3) := by decide +kernel
theorem dX10_pattern_112 : decode cX10_pattern 112 = .ok (.invokevirtual 86, 3) := by decide +kernel
theorem dX10_pattern_115 : decode cX10_pattern 115 = .ok (.lload_n 1, 1) := by decide +kernel
theorem dX10_pattern_116 : decode cX10_pattern 116 = .ok (.lreturn, 1) := by decide +kernel
theorem dX10_limit_0 : decode cX10_limit 0 = .ok (.aload_n 0, 1) := by decide +kernel
theorem dX10_limit_1 : decode cX10_limit 1 = .ok (.getfield 7, 3) := by decide +kernel
theorem dX10_limit_4 : decode cX10_limit 4 = .ok (.getfield 61, 3) := by decide +kernel
theorem dX10_limit_7 : decode cX10_limit 7 = .ok (.istore_n 1, 1) := by decide +kernel
theorem dX10_limit_8 : decode cX10_limit 8 = .ok (.aload_n 0, 1) := by decide +kernel
theorem dX10_limit_9 : decode cX10_limit 9 = .ok (.getfield 7, 3) := by decide +kernel
theorem dX10_limit_12 : decode cX10_limit 12 = .ok (.bipush 99, 2) := by decide +kernel
theorem dX10_limit_14 : decode cX10_limit 14 = .ok (.invokevirtual 80, 3) := by decide +kernel
theorem dX10_limit_17 : decode cX10_limit 17 = .ok (.istore_n 2, 1) := by decide +kernel
theorem dX10_limit_18 : decode cX10_limit 18 = .ok (.iload_n 2, 1) := by decide +kernel
theorem dX10_limit_19 : decode cX10_limit 19 = .ok (.ifCond .ne 12, 3) := by decide +kernel
theorem dX10_limit_22 : decode cX10_limit 22 = .ok (.aload_n 0, 1) := by decide +kernel
theorem dX10_limit_23 : decode cX10_limit 23 = .ok (.getfield 7, 3) := by decide +kernel
theorem dX10_limit_26 : decode cX10_limit 26 = .ok (.iconst 2, 1) := by decide +kernel
theorem dX10_limit_27 : decode cX10_limit 27 = .ok (.iload_n 1, 1) := by decide +kernel
theorem dX10_limit_28 : decode cX10_limit 28 = .ok (.invokevirtual 65, 3) := by decide +kernel
theorem dX10_limit_31 : decode cX10_limit 31 = .ok (.aload_n 0, 1) := by decide +kernel
theorem dX10_limit_32 : decode cX10_limit 32 = .ok (.getfield 7, 3) := by decide +kernel
theorem dX10_limit_35 : decode cX10_limit 35 = .ok (.invokevirtual 86, 3) := by decide +kernel
theorem dX10_limit_38 : decode cX10_limit 38 = .ok (.iload_n 2, 1) := by decide +kernel
theorem dX10_limit_39 : decode cX10_limit 39 = .ok (.ireturn, 1) := by decide +kernel
theorem dX10_expectEnd_0 : decode cX10_expectEnd 0 = .ok (.aload_n 0, 1) := by decide +kernel
theorem dX10_expectEnd_1 : decode cX10_expectEnd 1 = .ok (.getfield 7, 3) := by decide +kernel
theorem dX10_expectEnd_4 : decode cX10_expectEnd 4 = .ok (.invokevirtual 58, 3) := by decide +kernel
theorem dX10_expectEnd_7 : decode cX10_expectEnd 7 = .ok (.iconst (-1), 1) := by decide +kernel
theorem dX10_expectEnd_8 : decode cX10_expectEnd 8 = .ok (.if_icmp .eq 18, 3) := by decide +kernel
theorem dX10_expectEnd_11 : decode cX10_expectEnd 11 = .ok (.aload_n 0, 1) := by decide +kernel
theorem dX10_expectEnd_12 : decode cX10_expectEnd 12 = .ok (.getfield 7, 3) := by decide +kernel
theorem dX10_expectEnd_15 : decode cX10_expectEnd 15 = .ok (.iconst 1, 1) := by decide +kernel
theorem dX10_expectEnd_16 : decode cX10_expectEnd 16 = .ok (.aload_n 0, 1) := by decide +kernel
theorem dX10_expectEnd_17 : decode cX10_expectEnd 17 = .ok (.getfield 7, 3) := by decide +kernel
theorem dX10_expectEnd_20 : decode cX10_expectEnd 20 = .ok (.getfield 61, 3) := by decide +kernel
theorem dX10_expectEnd_23 : decode cX10_expectEnd 23 = .ok (.invokevirtual 65, 3) := by decide +kernel
theorem dX10_expectEnd_26 : decode cX10_expectEnd 26 = .ok (.return_, 1) := by decide +kernel
theorem dX11_init_0 : decode cX11_init 0 = .ok (.aload_n 0, 1) := by decide +kernel
theorem dX11_init_1 : decode cX11_init 1 = .ok (.invokespecial 1, 3) := by decide +kernel
theorem dX11_init_4 : decode cX11_init 4 = .ok (.aload_n 0, 1) := by decide +kernel
theorem dX11_init_5 : decode cX11_init 5 = .ok (.new 7, 3) := by decide +kernel
theorem dX11_init_8 : decode cX11_init 8 = .ok (.dup, 1) := by decide +kernel
theorem dX11_init_9 : decode cX11_init 9 = .ok (.invokespecial 9, 3) := by decide +kernel
theorem dX11_init_12 : decode cX11_init 12 = .ok (.putfield 10, 3) := by decide +kernel
theorem dX11_init_15 : decode cX11_init 15 = .ok (.aload_n 0, 1) := by decide +kernel
theorem dX11_init_16 : decode cX11_init 16 = .ok (.new 16, 3) := by decide +kernel
theorem dX11_init_19 : decode cX11_init 19 = .ok (.dup, 1) := by decide +kernel
theorem dX11_init_20 : decode cX11_init 20 = .ok (.aload_n 0, 1) := by decide +kernel
theorem dX11_init_21 : decode cX11_init 21 = .ok (.getfield 10, 3) := by decide +kernel
theorem dX11_init_24 : decode cX11_init 24 = .ok (.invokespecial 18, 3) := by decide +kernel
theorem dX11_init_27 : decode cX11_init 27 = .ok (.putfield 21, 3) := by decide +kernel
theorem dX11_init_30 : decode cX11_init 30 = .ok (.aload_n 0, 1) := by decide +kernel
theorem dX11_init_31 : decode cX11_init 31 = .ok (.new 25, 3) := by decide +kernel
theorem dX11_init_34 : decode cX11_init 34 = .ok (.dup, 1) := by decide +kernel
theorem dX11_init_35 : decode cX11_init 35 = .ok (.aload_n 0, 1) := by decide +kernel
theorem dX11_init_36 : decode cX11_init 36 = .ok (.getfield 21, 3) := by decide +kernel
theorem dX11_init_39 : decode cX11_init 39 = .ok (.invokespecial 27, 3) := by decide +kernel
theorem dX11_init_42 : decode cX11_init 42 = .ok (.putfield 30, 3) := by decide +kernel
theorem dX11_init_45 : decode cX11_init 45 = .ok (.aload_n 0, 1) := by decide +kernel
theorem dX11_init_46 : decode cX11_init 46 = .ok (.new 34, 3) := by decide +kernel
theorem dX11_init_49 : decode cX11_init 49 = .ok (.dup, 1) := by decide +kernel
theorem dX11_init_50 : decode cX11_init 50 = .ok (.invokespecial 36, 3) := by decide +kernel


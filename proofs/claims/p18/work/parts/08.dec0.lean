theorem dX12_thrown_0 : decode cX12_thrown 0 = .ok (.aload_n 0, 1) := by decide +kernel
theorem dX12_thrown_1 : decode cX12_thrown 1 = .ok (.getfield 115, 3) := by decide +kernel
theorem dX12_thrown_4 : decode cX12_thrown 4 = .ok (.ireturn, 1) := by decide +kernel
theorem dX12_feed_0 : decode cX12_feed 0 = .ok (.aload_n 0, 1) := by decide +kernel
theorem dX12_feed_1 : decode cX12_feed 1 = .ok (.iload_n 1, 1) := by decide +kernel
theorem dX12_feed_2 : decode cX12_feed 2 = .ok (.iconst 1, 1) := by decide +kernel
theorem dX12_feed_3 : decode cX12_feed 3 = .ok (.if_icmp .lt 9, 3) := by decide +kernel
theorem dX12_feed_6 : decode cX12_feed 6 = .ok (.iload_n 1, 1) := by decide +kernel
theorem dX12_feed_7 : decode cX12_feed 7 = .ok (.bipush 8, 2) := by decide +kernel
theorem dX12_feed_9 : decode cX12_feed 9 = .ok (.if_icmp .le 7, 3) := by decide +kernel
theorem dX12_feed_12 : decode cX12_feed 12 = .ok (.iconst 1, 1) := by decide +kernel
theorem dX12_feed_13 : decode cX12_feed 13 = .ok (.goto 4, 3) := by decide +kernel
theorem dX12_feed_16 : decode cX12_feed 16 = .ok (.iconst 0, 1) := by decide +kernel
theorem dX12_feed_17 : decode cX12_feed 17 = .ok (.putfield 115, 3) := by decide +kernel
theorem dX12_feed_20 : decode cX12_feed 20 = .ok (.aload_n 0, 1) := by decide +kernel
theorem dX12_feed_21 : decode cX12_feed 21 = .ok (.getfield 115, 3) := by decide +kernel
theorem dX12_feed_24 : decode cX12_feed 24 = .ok (.ifCond .le 5, 3) := by decide +kernel
theorem dX12_feed_27 : decode cX12_feed 27 = .ok (.iconst 0, 1) := by decide +kernel
theorem dX12_feed_28 : decode cX12_feed 28 = .ok (.ireturn, 1) := by decide +kernel
theorem dX12_feed_29 : decode cX12_feed 29 = .ok (.aload_n 0, 1) := by decide +kernel
theorem dX12_feed_30 : decode cX12_feed 30 = .ok (.getfield 118, 3) := by decide +kernel
theorem dX12_feed_33 : decode cX12_feed 33 = .ok (.iload_n 1, 1) := by decide +kernel
theorem dX12_feed_34 : decode cX12_feed 34 = .ok (.iadd, 1) := by decide +kernel
theorem dX12_feed_35 : decode cX12_feed 35 = .ok (.sipush 200, 3) := by decide +kernel
theorem dX12_feed_38 : decode cX12_feed 38 = .ok (.if_icmp .le 5, 3) := by decide +kernel
theorem dX12_feed_41 : decode cX12_feed 41 = .ok (.iconst (-1), 1) := by decide +kernel
theorem dX12_feed_42 : decode cX12_feed 42 = .ok (.ireturn, 1) := by decide +kernel
theorem dX12_feed_43 : decode cX12_feed 43 = .ok (.iconst 0, 1) := by decide +kernel
theorem dX12_feed_44 : decode cX12_feed 44 = .ok (.istore 4, 2) := by decide +kernel
theorem dX12_feed_46 : decode cX12_feed 46 = .ok (.iload 4, 2) := by decide +kernel
theorem dX12_feed_48 : decode cX12_feed 48 = .ok (.iload_n 1, 1) := by decide +kernel
theorem dX12_feed_49 : decode cX12_feed 49 = .ok (.if_icmp .ge 40, 3) := by decide +kernel
theorem dX12_feed_52 : decode cX12_feed 52 = .ok (.aload_n 0, 1) := by decide +kernel
theorem dX12_feed_53 : decode cX12_feed 53 = .ok (.getfield 7, 3) := by decide +kernel
theorem dX12_feed_56 : decode cX12_feed 56 = .ok (.aload_n 0, 1) := by decide +kernel
theorem dX12_feed_57 : decode cX12_feed 57 = .ok (.getfield 118, 3) := by decide +kernel
theorem dX12_feed_60 : decode cX12_feed 60 = .ok (.lload_n 2, 1) := by decide +kernel
theorem dX12_feed_61 : decode cX12_feed 61 = .ok (.bipush 8, 2) := by decide +kernel
theorem dX12_feed_63 : decode cX12_feed 63 = .ok (.iload 4, 2) := by decide +kernel
theorem dX12_feed_65 : decode cX12_feed 65 = .ok (.imul, 1) := by decide +kernel
theorem dX12_feed_66 : decode cX12_feed 66 = .ok (.lshr, 1) := by decide +kernel
theorem dX12_feed_67 : decode cX12_feed 67 = .ok (.ldc2_w 121, 3) := by decide +kernel
theorem dX12_feed_70 : decode cX12_feed 70 = .ok (.land, 1) := by decide +kernel
theorem dX12_feed_71 : decode cX12_feed 71 = .ok (.l2i, 1) := by decide +kernel
theorem dX12_feed_72 : decode cX12_feed 72 = .ok (.iastore, 1) := by decide +kernel
theorem dX12_feed_73 : decode cX12_feed 73 = .ok (.aload_n 0, 1) := by decide +kernel
theorem dX12_feed_74 : decode cX12_feed 74 = .ok (.dup, 1) := by decide +kernel
theorem dX12_feed_75 : decode cX12_feed 75 = .ok (.getfield 118, 3) := by decide +kernel
theorem dX12_feed_78 : decode cX12_feed 78 = .ok (.iconst 1, 1) := by decide +kernel
theorem dX12_feed_79 : decode cX12_feed 79 = .ok (.iadd, 1) := by decide +kernel
theorem dX12_feed_80 : decode cX12_feed 80 = .ok (.putfield 118, 3) := by decide +kernel
theorem dX12_feed_83 : decode cX12_feed 83 = .ok (.iinc 4 1, 3) := by decide +kernel
theorem dX12_feed_86 : decode cX12_feed 86 = .ok (.goto (-40), 3) := by decide +kernel
theorem dX12_feed_89 : decode cX12_feed 89 = .ok (.aload_n 0, 1) := by decide +kernel
theorem dX12_feed_90 : decode cX12_feed 90 = .ok (.getfield 118, 3) := by decide +kernel
theorem dX12_feed_93 : decode cX12_feed 93 = .ok (.ireturn, 1) := by decide +kernel
theorem dX12_wipe_0 : decode cX12_wipe 0 = .ok (.aload_n 0, 1) := by decide +kernel
theorem dX12_wipe_1 : decode cX12_wipe 1 = .ok (.iconst 0, 1) := by decide +kernel
theorem dX12_wipe_2 : decode cX12_wipe 2 = .ok (.putfield 115, 3) := by decide +kernel
theorem dX12_wipe_5 : decode cX12_wipe 5 = .ok (.aload_n 0, 1) := by decide +kernel
theorem dX12_wipe_6 : decode cX12_wipe 6 = .ok (.getfield 118, 3) := by decide +kernel
theorem dX12_wipe_9 : decode cX12_wipe 9 = .ok (.istore_n 1, 1) := by decide +kernel
theorem dX12_wipe_10 : decode cX12_wipe 10 = .ok (.aload_n 0, 1) := by decide +kernel
theorem dX12_wipe_11 : decode cX12_wipe 11 = .ok (.iconst 0, 1) := by decide +kernel
theorem dX12_wipe_12 : decode cX12_wipe 12 = .ok (.putfield 118, 3) := by decide +kernel
theorem dX12_wipe_15 : decode cX12_wipe 15 = .ok (.iload_n 1, 1) := by decide +kernel
theorem dX12_wipe_16 : decode cX12_wipe 16 = .ok (.ireturn, 1) := by decide +kernel
theorem dX12_fail_0 : decode cX12_fail 0 = .ok (.aload_n 0, 1) := by decide +kernel
theorem dX12_fail_1 : decode cX12_fail 1 = .ok (.getfield 123, 3) := by decide +kernel
theorem dX12_fail_4 : decode cX12_fail 4 = .ok (.ifCond .ne 13, 3) := by decide +kernel
theorem dX12_fail_7 : decode cX12_fail 7 = .ok (.aload_n 0, 1) := by decide +kernel
theorem dX12_fail_8 : decode cX12_fail 8 = .ok (.iload_n 1, 1) := by decide +kernel
theorem dX12_fail_9 : decode cX12_fail 9 = .ok (.putfield 123, 3) := by decide +kernel
theorem dX12_fail_12 : decode cX12_fail 12 = .ok (.aload_n 0, 1) := by decide +kernel
theorem dX12_fail_13 : decode cX12_fail 13 = .ok (.iload_n 2, 1) := by decide +kernel
theorem dX12_fail_14 : decode cX12_fail 14 = .ok (.putfield 13, 3) := by decide +kernel
theorem dX12_fail_17 : decode cX12_fail 17 = .ok (.return_, 1) := by decide +kernel
theorem dX12_byteAt_0 : decode cX12_byteAt 0 = .ok (.iload_n 1, 1) := by decide +kernel
theorem dX12_byteAt_1 : decode cX12_byteAt 1 = .ok (.aload_n 0, 1) := by decide +kernel
theorem dX12_byteAt_2 : decode cX12_byteAt 2 = .ok (.getfield 118, 3) := by decide +kernel
theorem dX12_byteAt_5 : decode cX12_byteAt 5 = .ok (.if_icmp .ge 12, 3) := by decide +kernel
theorem dX12_byteAt_8 : decode cX12_byteAt 8 = .ok (.aload_n 0, 1) := by decide +kernel
theorem dX12_byteAt_9 : decode cX12_byteAt 9 = .ok (.getfield 7, 3) := by decide +kernel
theorem dX12_byteAt_12 : decode cX12_byteAt 12 = .ok (.iload_n 1, 1) := by decide +kernel
theorem dX12_byteAt_13 : decode cX12_byteAt 13 = .ok (.iaload, 1) := by decide +kernel
theorem dX12_byteAt_14 : decode cX12_byteAt 14 = .ok (.goto 4, 3) := by decide +kernel
theorem dX12_byteAt_17 : decode cX12_byteAt 17 = .ok (.iconst (-1), 1) := by decide +kernel
theorem dX12_byteAt_18 : decode cX12_byteAt 18 = .ok (.ireturn, 1) := by decide +kernel
theorem dX12_isLetter_0 : decode cX12_isLetter 0 = .ok (.iload_n 0, 1) := by decide +kernel
theorem dX12_isLetter_1 : decode cX12_isLetter 1 = .ok (.bipush 97, 2) := by decide +kernel
theorem dX12_isLetter_3 : decode cX12_isLetter 3 = .ok (.if_icmp .lt 13, 3) := by decide +kernel
theorem dX12_isLetter_6 : decode cX12_isLetter 6 = .ok (.iload_n 0, 1) := by decide +kernel
theorem dX12_isLetter_7 : decode cX12_isLetter 7 = .ok (.bipush 122, 2) := by decide +kernel
theorem dX12_isLetter_9 : decode cX12_isLetter 9 = .ok (.if_icmp .gt 7, 3) := by decide +kernel
theorem dX12_isLetter_12 : decode cX12_isLetter 12 = .ok (.iconst 1, 1) := by decide +kernel
theorem dX12_isLetter_13 : decode cX12_isLetter 13 = .ok (.goto 4, 3) := by decide +kernel
theorem dX12_isLetter_16 : decode cX12_isLetter 16 = .ok (.iconst 0, 1) := by decide +kernel
theorem dX12_isLetter_17 : decode cX12_isLetter 17 = .ok (.ireturn, 1) := by decide +kernel
theorem dX12_isFigure_0 : decode cX12_isFigure 0 = .ok (.iload_n 0, 1) := by decide +kernel
theorem dX12_isFigure_1 : decode cX12_isFigure 1 = .ok (.bipush 48, 2) := by decide +kernel
theorem dX12_isFigure_3 : decode cX12_isFigure 3 = .ok (.if_icmp .lt 13, 3) := by decide +kernel
theorem dX12_isFigure_6 : decode cX12_isFigure 6 = .ok (.iload_n 0, 1) := by decide +kernel
theorem dX12_isFigure_7 : decode cX12_isFigure 7 = .ok (.bipush 57, 2) := by decide +kernel
theorem dX12_isFigure_9 : decode cX12_isFigure 9 = .ok (.if_icmp .gt 7, 3) := by decide +kernel
theorem dX12_isFigure_12 : decode cX12_isFigure 12 = .ok (.iconst 1, 1) := by decide +kernel
theorem dX12_isFigure_13 : decode cX12_isFigure 13 = .ok (.goto 4, 3) := by decide +kernel
theorem dX12_isFigure_16 : decode cX12_isFigure 16 = .ok (.iconst 0, 1) := by decide +kernel
theorem dX12_isFigure_17 : decode cX12_isFigure 17 = .ok (.ireturn, 1) := by decide +kernel
theorem dX12_isOfRow_0 : decode cX12_isOfRow 0 = .ok (.iload_n 0, 1) := by decide +kernel
theorem dX12_isOfRow_1 : decode cX12_isOfRow 1 = .ok (.invokestatic 126, 3) := by decide +kernel
theorem dX12_isOfRow_4 : decode cX12_isOfRow 4 = .ok (.ifCond .ne 9, 3) := by decide +kernel
theorem dX12_isOfRow_7 : decode cX12_isOfRow 7 = .ok (.iload_n 0, 1) := by decide +kernel
theorem dX12_isOfRow_8 : decode cX12_isOfRow 8 = .ok (.bipush 46, 2) := by decide +kernel
theorem dX12_isOfRow_10 : decode cX12_isOfRow 10 = .ok (.if_icmp .ne 7, 3) := by decide +kernel
theorem dX12_isOfRow_13 : decode cX12_isOfRow 13 = .ok (.iconst 1, 1) := by decide +kernel
theorem dX12_isOfRow_14 : decode cX12_isOfRow 14 = .ok (.goto 4, 3) := by decide +kernel
theorem dX12_isOfRow_17 : decode cX12_isOfRow 17 = .ok (.iconst 0, 1) := by decide +kernel
theorem dX12_isOfRow_18 : decode cX12_isOfRow 18 = .ok (.ireturn, 1) := by decide +kernel
theorem dX12_rowSize_0 : decode cX12_rowSize 0 = .ok (.iconst 0, 1) := by decide +kernel
theorem dX12_rowSize_1 : decode cX12_rowSize 1 = .ok (.istore_n 2, 1) := by decide +kernel
theorem dX12_rowSize_2 : decode cX12_rowSize 2 = .ok (.aload_n 0, 1) := by decide +kernel
theorem dX12_rowSize_3 : decode cX12_rowSize 3 = .ok (.iload_n 1, 1) := by decide +kernel
theorem dX12_rowSize_4 : decode cX12_rowSize 4 = .ok (.iload_n 2, 1) := by decide +kernel
theorem dX12_rowSize_5 : decode cX12_rowSize 5 = .ok (.iadd, 1) := by decide +kernel
theorem dX12_rowSize_6 : decode cX12_rowSize 6 = .ok (.invokevirtual 130, 3) := by decide +kernel
theorem dX12_rowSize_9 : decode cX12_rowSize 9 = .ok (.invokestatic 134, 3) := by decide +kernel
theorem dX12_rowSize_12 : decode cX12_rowSize 12 = .ok (.ifCond .eq 9, 3) := by decide +kernel
theorem dX12_rowSize_15 : decode cX12_rowSize 15 = .ok (.iinc 2 1, 3) := by decide +kernel
theorem dX12_rowSize_18 : decode cX12_rowSize 18 = .ok (.goto (-16), 3) := by decide +kernel
theorem dX12_rowSize_21 : decode cX12_rowSize 21 = .ok (.iload_n 2, 1) := by decide +kernel
theorem dX12_rowSize_22 : decode cX12_rowSize 22 = .ok (.ireturn, 1) := by decide +kernel
theorem dX12_isName_0 : decode cX12_isName 0 = .ok (.iconst 0, 1) := by decide +kernel
theorem dX12_isName_1 : decode cX12_isName 1 = .ok (.istore_n 3, 1) := by decide +kernel
theorem dX12_isName_2 : decode cX12_isName 2 = .ok (.aload_n 0, 1) := by decide +kernel
theorem dX12_isName_3 : decode cX12_isName 3 = .ok (.lconst 0, 1) := by decide +kernel
theorem dX12_isName_4 : decode cX12_isName 4 = .ok (.putfield 137, 3) := by decide +kernel
theorem dX12_isName_7 : decode cX12_isName 7 = .ok (.iconst 0, 1) := by decide +kernel
theorem dX12_isName_8 : decode cX12_isName 8 = .ok (.istore 4, 2) := by decide +kernel
theorem dX12_isName_10 : decode cX12_isName 10 = .ok (.iload 4, 2) := by decide +kernel
theorem dX12_isName_12 : decode cX12_isName 12 = .ok (.iload_n 2, 1) := by decide +kernel
theorem dX12_isName_13 : decode cX12_isName 13 = .ok (.if_icmp .ge 63, 3) := by decide +kernel
theorem dX12_isName_16 : decode cX12_isName 16 = .ok (.aload_n 0, 1) := by decide +kernel
theorem dX12_isName_17 : decode cX12_isName 17 = .ok (.iload_n 1, 1) := by decide +kernel
theorem dX12_isName_18 : decode cX12_isName 18 = .ok (.iload 4, 2) := by decide +kernel
theorem dX12_isName_20 : decode cX12_isName 20 = .ok (.iadd, 1) := by decide +kernel
theorem dX12_isName_21 : decode cX12_isName 21 = .ok (.invokevirtual 130, 3) := by decide +kernel
theorem dX12_isName_24 : decode cX12_isName 24 = .ok (.istore 5, 2) := by decide +kernel
theorem dX12_isName_26 : decode cX12_isName 26 = .ok (.iload 5, 2) := by decide +kernel
theorem dX12_isName_28 : decode cX12_isName 28 = .ok (.bipush 46, 2) := by decide +kernel
theorem dX12_isName_30 : decode cX12_isName 30 = .ok (.if_icmp .ne 9, 3) := by decide +kernel
theorem dX12_isName_33 : decode cX12_isName 33 = .ok (.iload_n 3, 1) := by decide +kernel
theorem dX12_isName_34 : decode cX12_isName 34 = .ok (.iconst 1, 1) := by decide +kernel
theorem dX12_isName_35 : decode cX12_isName 35 = .ok (.iadd, 1) := by decide +kernel
theorem dX12_isName_36 : decode cX12_isName 36 = .ok (.goto 4, 3) := by decide +kernel
theorem dX12_isName_39 : decode cX12_isName 39 = .ok (.iload_n 3, 1) := by decide +kernel
theorem dX12_isName_40 : decode cX12_isName 40 = .ok (.istore_n 3, 1) := by decide +kernel
theorem dX12_isName_41 : decode cX12_isName 41 = .ok (.aload_n 0, 1) := by decide +kernel
theorem dX12_isName_42 : decode cX12_isName 42 = .ok (.aload_n 0, 1) := by decide +kernel
theorem dX12_isName_43 : decode cX12_isName 43 = .ok (.getfield 137, 3) := by decide +kernel
theorem dX12_isName_46 : decode cX12_isName 46 = .ok (.iconst 5, 1) := by decide +kernel
theorem dX12_isName_47 : decode cX12_isName 47 = .ok (.lshl, 1) := by decide +kernel
theorem dX12_isName_48 : decode cX12_isName 48 = .ok (.iload 5, 2) := by decide +kernel
theorem dX12_isName_50 : decode cX12_isName 50 = .ok (.bipush 46, 2) := by decide +kernel
theorem dX12_isName_52 : decode cX12_isName 52 = .ok (.if_icmp .ne 8, 3) := by decide +kernel
theorem dX12_isName_55 : decode cX12_isName 55 = .ok (.bipush 27, 2) := by decide +kernel
theorem dX12_isName_57 : decode cX12_isName 57 = .ok (.goto 8, 3) := by decide +kernel
theorem dX12_isName_60 : decode cX12_isName 60 = .ok (.iload 5, 2) := by decide +kernel
theorem dX12_isName_62 : decode cX12_isName 62 = .ok (.bipush 96, 2) := by decide +kernel
theorem dX12_isName_64 : decode cX12_isName 64 = .ok (.isub, 1) := by decide +kernel
theorem dX12_isName_65 : decode cX12_isName 65 = .ok (.i2l, 1) := by decide +kernel
theorem dX12_isName_66 : decode cX12_isName 66 = .ok (.lor, 1) := by decide +kernel
theorem dX12_isName_67 : decode cX12_isName 67 = .ok (.putfield 137, 3) := by decide +kernel
theorem dX12_isName_70 : decode cX12_isName 70 = .ok (.iinc 4 1, 3) := by decide +kernel
theorem dX12_isName_73 : decode cX12_isName 73 = .ok (.goto (-63), 3) := by decide +kernel
theorem dX12_isName_76 : decode cX12_isName 76 = .ok (.iload_n 2, 1) := by decide +kernel
theorem dX12_isName_77 : decode cX12_isName 77 = .ok (.iconst 2, 1) := by decide +kernel
theorem dX12_isName_78 : decode cX12_isName 78 = .ok (.if_icmp .le 36, 3) := by decide +kernel
theorem dX12_isName_81 : decode cX12_isName 81 = .ok (.iload_n 3, 1) := by decide +kernel
theorem dX12_isName_82 : decode cX12_isName 82 = .ok (.iconst 1, 1) := by decide +kernel
theorem dX12_isName_83 : decode cX12_isName 83 = .ok (.if_icmp .ne 31, 3) := by decide +kernel
theorem dX12_isName_86 : decode cX12_isName 86 = .ok (.aload_n 0, 1) := by decide +kernel
theorem dX12_isName_87 : decode cX12_isName 87 = .ok (.iload_n 1, 1) := by decide +kernel
theorem dX12_isName_88 : decode cX12_isName 88 = .ok (.invokevirtual 130, 3) := by decide +kernel
theorem dX12_isName_91 : decode cX12_isName 91 = .ok (.bipush 46, 2) := by decide +kernel
theorem dX12_isName_93 : decode cX12_isName 93 = .ok (.if_icmp .eq 21, 3) := by decide +kernel
theorem dX12_isName_96 : decode cX12_isName 96 = .ok (.aload_n 0, 1) := by decide +kernel
theorem dX12_isName_97 : decode cX12_isName 97 = .ok (.iload_n 1, 1) := by decide +kernel
theorem dX12_isName_98 : decode cX12_isName 98 = .ok (.iload_n 2, 1) := by decide +kernel
theorem dX12_isName_99 : decode cX12_isName 99 = .ok (.iadd, 1) := by decide +kernel
theorem dX12_isName_100 : decode cX12_isName 100 = .ok (.iconst 1, 1) := by decide +kernel
theorem dX12_isName_101 : decode cX12_isName 101 = .ok (.isub, 1) := by decide +kernel
theorem dX12_isName_102 : decode cX12_isName 102 = .ok (.invokevirtual 130, 3) := by decide +kernel
theorem dX12_isName_105 : decode cX12_isName 105 = .ok (.bipush 46, 2) := by decide +kernel
theorem dX12_isName_107 : decode cX12_isName 107 = .ok (.if_icmp .eq 7, 3) := by decide +kernel
theorem dX12_isName_110 : decode cX12_isName 110 = .ok (.iconst 1, 1) := by decide +kernel
theorem dX12_isName_111 : decode cX12_isName 111 = .ok (.goto 4, 3) := by decide +kernel
theorem dX12_isName_114 : decode cX12_isName 114 = .ok (.iconst 0, 1) := by decide +kernel
theorem dX12_isName_115 : decode cX12_isName 115 = .ok (.ireturn, 1) := by decide +kernel
theorem dX12_rowOf_0 : decode cX12_rowOf 0 = .ok (.bipush 64, 2) := by decide +kernel
theorem dX12_rowOf_2 : decode cX12_rowOf 2 = .ok (.iload_n 0, 1) := by decide +kernel
theorem dX12_rowOf_3 : decode cX12_rowOf 3 = .ok (.imul, 1) := by decide +kernel
theorem dX12_rowOf_4 : decode cX12_rowOf 4 = .ok (.ireturn, 1) := by decide +kernel
theorem dX12_put_0 : decode cX12_put 0 = .ok (.aload_n 0, 1) := by decide +kernel
theorem dX12_put_1 : decode cX12_put 1 = .ok (.getfield 17, 3) := by decide +kernel
theorem dX12_put_4 : decode cX12_put 4 = .ok (.bipush 32, 2) := by decide +kernel
theorem dX12_put_6 : decode cX12_put 6 = .ok (.invokestatic 141, 3) := by decide +kernel
theorem dX12_put_9 : decode cX12_put 9 = .ok (.aload_n 0, 1) := by decide +kernel
theorem dX12_put_10 : decode cX12_put 10 = .ok (.getfield 144, 3) := by decide +kernel
theorem dX12_put_13 : decode cX12_put 13 = .ok (.iadd, 1) := by decide +kernel
theorem dX12_put_14 : decode cX12_put 14 = .ok (.iload_n 1, 1) := by decide +kernel
theorem dX12_put_15 : decode cX12_put 15 = .ok (.iastore, 1) := by decide +kernel
theorem dX12_put_16 : decode cX12_put 16 = .ok (.aload_n 0, 1) := by decide +kernel
theorem dX12_put_17 : decode cX12_put 17 = .ok (.getfield 20, 3) := by decide +kernel
theorem dX12_put_20 : decode cX12_put 20 = .ok (.bipush 32, 2) := by decide +kernel
theorem dX12_put_22 : decode cX12_put 22 = .ok (.invokestatic 141, 3) := by decide +kernel
theorem dX12_put_25 : decode cX12_put 25 = .ok (.aload_n 0, 1) := by decide +kernel
theorem dX12_put_26 : decode cX12_put 26 = .ok (.getfield 144, 3) := by decide +kernel
theorem dX12_put_29 : decode cX12_put 29 = .ok (.iadd, 1) := by decide +kernel
theorem dX12_put_30 : decode cX12_put 30 = .ok (.lload_n 2, 1) := by decide +kernel
theorem dX12_put_31 : decode cX12_put 31 = .ok (.lastore, 1) := by decide +kernel
theorem dX12_put_32 : decode cX12_put 32 = .ok (.aload_n 0, 1) := by decide +kernel
theorem dX12_put_33 : decode cX12_put 33 = .ok (.dup, 1) := by decide +kernel
theorem dX12_put_34 : decode cX12_put 34 = .ok (.getfield 144, 3) := by decide +kernel
theorem dX12_put_37 : decode cX12_put 37 = .ok (.iconst 1, 1) := by decide +kernel
theorem dX12_put_38 : decode cX12_put 38 = .ok (.iadd, 1) := by decide +kernel
theorem dX12_put_39 : decode cX12_put 39 = .ok (.putfield 144, 3) := by decide +kernel
theorem dX12_put_42 : decode cX12_put 42 = .ok (.return_, 1) := by decide +kernel
theorem dX12_ended_0 : decode cX12_ended 0 = .ok (.aload_n 0, 1) := by decide +kernel
theorem dX12_ended_1 : decode cX12_ended 1 = .ok (.aload_n 0, 1) := by decide +kernel
theorem dX12_ended_2 : decode cX12_ended 2 = .ok (.getfield 147, 3) := by decide +kernel
theorem dX12_ended_5 : decode cX12_ended 5 = .ok (.invokevirtual 130, 3) := by decide +kernel
theorem dX12_ended_8 : decode cX12_ended 8 = .ok (.istore_n 1, 1) := by decide +kernel
theorem dX12_ended_9 : decode cX12_ended 9 = .ok (.iload_n 1, 1) := by decide +kernel
theorem dX12_ended_10 : decode cX12_ended 10 = .ok (.ifCond .lt 16, 3) := by decide +kernel
theorem dX12_ended_13 : decode cX12_ended 13 = .ok (.aload_n 0, 1) := by decide +kernel
theorem dX12_ended_14 : decode cX12_ended 14 = .ok (.getfield 150, 3) := by decide +kernel
theorem dX12_ended_17 : decode cX12_ended 17 = .ok (.ifCond .eq 13, 3) := by decide +kernel
theorem dX12_ended_20 : decode cX12_ended 20 = .ok (.iload_n 1, 1) := by decide +kernel
theorem dX12_ended_21 : decode cX12_ended 21 = .ok (.bipush 32, 2) := by decide +kernel
theorem dX12_ended_23 : decode cX12_ended 23 = .ok (.if_icmp .gt 7, 3) := by decide +kernel
theorem dX12_ended_26 : decode cX12_ended 26 = .ok (.iconst 1, 1) := by decide +kernel
theorem dX12_ended_27 : decode cX12_ended 27 = .ok (.goto 4, 3) := by decide +kernel
theorem dX12_ended_30 : decode cX12_ended 30 = .ok (.iconst 0, 1) := by decide +kernel
theorem dX12_ended_31 : decode cX12_ended 31 = .ok (.ireturn, 1) := by decide +kernel
theorem dX12_count_0 : decode cX12_count 0 = .ok (.aload_n 0, 1) := by decide +kernel
theorem dX12_count_1 : decode cX12_count 1 = .ok (.getfield 154, 3) := by decide +kernel
theorem dX12_count_4 : decode cX12_count 4 = .ok (.bipush 20, 2) := by decide +kernel
theorem dX12_count_6 : decode cX12_count 6 = .ok (.if_icmp .ne 11, 3) := by decide +kernel
theorem dX12_count_9 : decode cX12_count 9 = .ok (.aload_n 0, 1) := by decide +kernel
theorem dX12_count_10 : decode cX12_count 10 = .ok (.iconst 3, 1) := by decide +kernel
theorem dX12_count_11 : decode cX12_count 11 = .ok (.iload_n 1, 1) := by decide +kernel
theorem dX12_count_12 : decode cX12_count 12 = .ok (.invokevirtual 157, 3) := by decide +kernel
theorem dX12_count_15 : decode cX12_count 15 = .ok (.iconst 0, 1) := by decide +kernel
theorem dX12_count_16 : decode cX12_count 16 = .ok (.ireturn, 1) := by decide +kernel
theorem dX12_count_17 : decode cX12_count 17 = .ok (.aload_n 0, 1) := by decide +kernel
theorem dX12_count_18 : decode cX12_count 18 = .ok (.dup, 1) := by decide +kernel
theorem dX12_count_19 : decode cX12_count 19 = .ok (.getfield 154, 3) := by decide +kernel
theorem dX12_count_22 : decode cX12_count 22 = .ok (.iconst 1, 1) := by decide +kernel
theorem dX12_count_23 : decode cX12_count 23 = .ok (.iadd, 1) := by decide +kernel
theorem dX12_count_24 : decode cX12_count 24 = .ok (.putfield 154, 3) := by decide +kernel
theorem dX12_count_27 : decode cX12_count 27 = .ok (.iconst 1, 1) := by decide +kernel
theorem dX12_count_28 : decode cX12_count 28 = .ok (.ireturn, 1) := by decide +kernel
theorem dX12_wait_0 : decode cX12_wait 0 = .ok (.aload_n 0, 1) := by decide +kernel
theorem dX12_wait_1 : decode cX12_wait 1 = .ok (.getfield 33, 3) := by decide +kernel
theorem dX12_wait_4 : decode cX12_wait 4 = .ok (.aload_n 0, 1) := by decide +kernel
theorem dX12_wait_5 : decode cX12_wait 5 = .ok (.getfield 161, 3) := by decide +kernel
theorem dX12_wait_8 : decode cX12_wait 8 = .ok (.iload_n 1, 1) := by decide +kernel
theorem dX12_wait_9 : decode cX12_wait 9 = .ok (.iastore, 1) := by decide +kernel
theorem dX12_wait_10 : decode cX12_wait 10 = .ok (.aload_n 0, 1) := by decide +kernel
theorem dX12_wait_11 : decode cX12_wait 11 = .ok (.getfield 36, 3) := by decide +kernel
theorem dX12_wait_14 : decode cX12_wait 14 = .ok (.aload_n 0, 1) := by decide +kernel
theorem dX12_wait_15 : decode cX12_wait 15 = .ok (.getfield 161, 3) := by decide +kernel
theorem dX12_wait_18 : decode cX12_wait 18 = .ok (.iload_n 2, 1) := by decide +kernel
theorem dX12_wait_19 : decode cX12_wait 19 = .ok (.iastore, 1) := by decide +kernel
theorem dX12_wait_20 : decode cX12_wait 20 = .ok (.aload_n 0, 1) := by decide +kernel
theorem dX12_wait_21 : decode cX12_wait 21 = .ok (.getfield 39, 3) := by decide +kernel
theorem dX12_wait_24 : decode cX12_wait 24 = .ok (.aload_n 0, 1) := by decide +kernel
theorem dX12_wait_25 : decode cX12_wait 25 = .ok (.getfield 161, 3) := by decide +kernel
theorem dX12_wait_28 : decode cX12_wait 28 = .ok (.iload_n 3, 1) := by decide +kernel
theorem dX12_wait_29 : decode cX12_wait 29 = .ok (.iastore, 1) := by decide +kernel
theorem dX12_wait_30 : decode cX12_wait 30 = .ok (.aload_n 0, 1) := by decide +kernel
theorem dX12_wait_31 : decode cX12_wait 31 = .ok (.dup, 1) := by decide +kernel
theorem dX12_wait_32 : decode cX12_wait 32 = .ok (.getfield 161, 3) := by decide +kernel
theorem dX12_wait_35 : decode cX12_wait 35 = .ok (.iconst 1, 1) := by decide +kernel
theorem dX12_wait_36 : decode cX12_wait 36 = .ok (.iadd, 1) := by decide +kernel
theorem dX12_wait_37 : decode cX12_wait 37 = .ok (.putfield 161, 3) := by decide +kernel
theorem dX12_wait_40 : decode cX12_wait 40 = .ok (.return_, 1) := by decide +kernel
theorem dX12_operand_0 : decode cX12_operand 0 = .ok (.aload_n 0, 1) := by decide +kernel
theorem dX12_operand_1 : decode cX12_operand 1 = .ok (.getfield 45, 3) := by decide +kernel
theorem dX12_operand_4 : decode cX12_operand 4 = .ok (.aload_n 0, 1) := by decide +kernel
theorem dX12_operand_5 : decode cX12_operand 5 = .ok (.getfield 164, 3) := by decide +kernel
theorem dX12_operand_8 : decode cX12_operand 8 = .ok (.iload_n 1, 1) := by decide +kernel
theorem dX12_operand_9 : decode cX12_operand 9 = .ok (.iastore, 1) := by decide +kernel
theorem dX12_operand_10 : decode cX12_operand 10 = .ok (.aload_n 0, 1) := by decide +kernel
theorem dX12_operand_11 : decode cX12_operand 11 = .ok (.dup, 1) := by decide +kernel
theorem dX12_operand_12 : decode cX12_operand 12 = .ok (.getfield 164, 3) := by decide +kernel
theorem dX12_operand_15 : decode cX12_operand 15 = .ok (.iconst 1, 1) := by decide +kernel
theorem dX12_operand_16 : decode cX12_operand 16 = .ok (.iadd, 1) := by decide +kernel
theorem dX12_operand_17 : decode cX12_operand 17 = .ok (.putfield 164, 3) := by decide +kernel
theorem dX12_operand_20 : decode cX12_operand 20 = .ok (.return_, 1) := by decide +kernel
theorem dX12_reduce_0 : decode cX12_reduce 0 = .ok (.aload_n 0, 1) := by decide +kernel
theorem dX12_reduce_1 : decode cX12_reduce 1 = .ok (.dup, 1) := by decide +kernel
theorem dX12_reduce_2 : decode cX12_reduce 2 = .ok (.getfield 161, 3) := by decide +kernel
theorem dX12_reduce_5 : decode cX12_reduce 5 = .ok (.iconst 1, 1) := by decide +kernel
theorem dX12_reduce_6 : decode cX12_reduce 6 = .ok (.isub, 1) := by decide +kernel
theorem dX12_reduce_7 : decode cX12_reduce 7 = .ok (.putfield 161, 3) := by decide +kernel
theorem dX12_reduce_10 : decode cX12_reduce 10 = .ok (.aload_n 0, 1) := by decide +kernel
theorem dX12_reduce_11 : decode cX12_reduce 11 = .ok (.getfield 33, 3) := by decide +kernel
theorem dX12_reduce_14 : decode cX12_reduce 14 = .ok (.aload_n 0, 1) := by decide +kernel
theorem dX12_reduce_15 : decode cX12_reduce 15 = .ok (.getfield 161, 3) := by decide +kernel
theorem dX12_reduce_18 : decode cX12_reduce 18 = .ok (.iaload, 1) := by decide +kernel
theorem dX12_reduce_19 : decode cX12_reduce 19 = .ok (.istore_n 1, 1) := by decide +kernel
theorem dX12_reduce_20 : decode cX12_reduce 20 = .ok (.aload_n 0, 1) := by decide +kernel
theorem dX12_reduce_21 : decode cX12_reduce 21 = .ok (.getfield 36, 3) := by decide +kernel
theorem dX12_reduce_24 : decode cX12_reduce 24 = .ok (.aload_n 0, 1) := by decide +kernel
theorem dX12_reduce_25 : decode cX12_reduce 25 = .ok (.getfield 161, 3) := by decide +kernel
theorem dX12_reduce_28 : decode cX12_reduce 28 = .ok (.iaload, 1) := by decide +kernel
theorem dX12_reduce_29 : decode cX12_reduce 29 = .ok (.istore_n 2, 1) := by decide +kernel
theorem dX12_reduce_30 : decode cX12_reduce 30 = .ok (.aload_n 0, 1) := by decide +kernel
theorem dX12_reduce_31 : decode cX12_reduce 31 = .ok (.getfield 39, 3) := by decide +kernel
theorem dX12_reduce_34 : decode cX12_reduce 34 = .ok (.aload_n 0, 1) := by decide +kernel
theorem dX12_reduce_35 : decode cX12_reduce 35 = .ok (.getfield 161, 3) := by decide +kernel
theorem dX12_reduce_38 : decode cX12_reduce 38 = .ok (.iaload, 1) := by decide +kernel
theorem dX12_reduce_39 : decode cX12_reduce 39 = .ok (.istore_n 3, 1) := by decide +kernel
theorem dX12_reduce_40 : decode cX12_reduce 40 = .ok (.iload_n 1, 1) := by decide +kernel
theorem dX12_reduce_41 : decode cX12_reduce 41 = .ok (.iconst 1, 1) := by decide +kernel
theorem dX12_reduce_42 : decode cX12_reduce 42 = .ok (.if_icmp .ne 37, 3) := by decide +kernel
theorem dX12_reduce_45 : decode cX12_reduce 45 = .ok (.aload_n 0, 1) := by decide +kernel
theorem dX12_reduce_46 : decode cX12_reduce 46 = .ok (.getfield 20, 3) := by decide +kernel
theorem dX12_reduce_49 : decode cX12_reduce 49 = .ok (.bipush 32, 2) := by decide +kernel
theorem dX12_reduce_51 : decode cX12_reduce 51 = .ok (.invokestatic 141, 3) := by decide +kernel
theorem dX12_reduce_54 : decode cX12_reduce 54 = .ok (.iload_n 2, 1) := by decide +kernel
theorem dX12_reduce_55 : decode cX12_reduce 55 = .ok (.iadd, 1) := by decide +kernel
theorem dX12_reduce_56 : decode cX12_reduce 56 = .ok (.aload_n 0, 1) := by decide +kernel
theorem dX12_reduce_57 : decode cX12_reduce 57 = .ok (.getfield 144, 3) := by decide +kernel
theorem dX12_reduce_60 : decode cX12_reduce 60 = .ok (.iload_n 2, 1) := by decide +kernel
theorem dX12_reduce_61 : decode cX12_reduce 61 = .ok (.isub, 1) := by decide +kernel
theorem dX12_reduce_62 : decode cX12_reduce 62 = .ok (.iconst 1, 1) := by decide +kernel
theorem dX12_reduce_63 : decode cX12_reduce 63 = .ok (.isub, 1) := by decide +kernel
theorem dX12_reduce_64 : decode cX12_reduce 64 = .ok (.i2l, 1) := by decide +kernel
theorem dX12_reduce_65 : decode cX12_reduce 65 = .ok (.lastore, 1) := by decide +kernel
theorem dX12_reduce_66 : decode cX12_reduce 66 = .ok (.aload_n 0, 1) := by decide +kernel
theorem dX12_reduce_67 : decode cX12_reduce 67 = .ok (.dup, 1) := by decide +kernel
theorem dX12_reduce_68 : decode cX12_reduce 68 = .ok (.getfield 164, 3) := by decide +kernel
theorem dX12_reduce_71 : decode cX12_reduce 71 = .ok (.iconst 1, 1) := by decide +kernel
theorem dX12_reduce_72 : decode cX12_reduce 72 = .ok (.isub, 1) := by decide +kernel
theorem dX12_reduce_73 : decode cX12_reduce 73 = .ok (.putfield 164, 3) := by decide +kernel
theorem dX12_reduce_76 : decode cX12_reduce 76 = .ok (.goto 86, 3) := by decide +kernel
theorem dX12_reduce_79 : decode cX12_reduce 79 = .ok (.iload_n 1, 1) := by decide +kernel
theorem dX12_reduce_80 : decode cX12_reduce 80 = .ok (.iconst 2, 1) := by decide +kernel
theorem dX12_reduce_81 : decode cX12_reduce 81 = .ok (.if_icmp .ne 39, 3) := by decide +kernel
theorem dX12_reduce_84 : decode cX12_reduce 84 = .ok (.aload_n 0, 1) := by decide +kernel
theorem dX12_reduce_85 : decode cX12_reduce 85 = .ok (.getfield 20, 3) := by decide +kernel
theorem dX12_reduce_88 : decode cX12_reduce 88 = .ok (.bipush 32, 2) := by decide +kernel
theorem dX12_reduce_90 : decode cX12_reduce 90 = .ok (.invokestatic 141, 3) := by decide +kernel
theorem dX12_reduce_93 : decode cX12_reduce 93 = .ok (.iload_n 2, 1) := by decide +kernel
theorem dX12_reduce_94 : decode cX12_reduce 94 = .ok (.iadd, 1) := by decide +kernel
theorem dX12_reduce_95 : decode cX12_reduce 95 = .ok (.aload_n 0, 1) := by decide +kernel
theorem dX12_reduce_96 : decode cX12_reduce 96 = .ok (.getfield 144, 3) := by decide +kernel
theorem dX12_reduce_99 : decode cX12_reduce 99 = .ok (.iload_n 2, 1) := by decide +kernel
theorem dX12_reduce_100 : decode cX12_reduce 100 = .ok (.isub, 1) := by decide +kernel
theorem dX12_reduce_101 : decode cX12_reduce 101 = .ok (.iconst 1, 1) := by decide +kernel
theorem dX12_reduce_102 : decode cX12_reduce 102 = .ok (.isub, 1) := by decide +kernel
theorem dX12_reduce_103 : decode cX12_reduce 103 = .ok (.i2l, 1) := by decide +kernel
theorem dX12_reduce_104 : decode cX12_reduce 104 = .ok (.lastore, 1) := by decide +kernel
theorem dX12_reduce_105 : decode cX12_reduce 105 = .ok (.aload_n 0, 1) := by decide +kernel
theorem dX12_reduce_106 : decode cX12_reduce 106 = .ok (.getfield 45, 3) := by decide +kernel
theorem dX12_reduce_109 : decode cX12_reduce 109 = .ok (.aload_n 0, 1) := by decide +kernel
theorem dX12_reduce_110 : decode cX12_reduce 110 = .ok (.getfield 164, 3) := by decide +kernel
theorem dX12_reduce_113 : decode cX12_reduce 113 = .ok (.iconst 1, 1) := by decide +kernel
theorem dX12_reduce_114 : decode cX12_reduce 114 = .ok (.isub, 1) := by decide +kernel
theorem dX12_reduce_115 : decode cX12_reduce 115 = .ok (.iload_n 3, 1) := by decide +kernel
theorem dX12_reduce_116 : decode cX12_reduce 116 = .ok (.iastore, 1) := by decide +kernel
theorem dX12_reduce_117 : decode cX12_reduce 117 = .ok (.goto 45, 3) := by decide +kernel
theorem dX12_reduce_120 : decode cX12_reduce 120 = .ok (.iload_n 1, 1) := by decide +kernel
theorem dX12_reduce_121 : decode cX12_reduce 121 = .ok (.bipush 6, 2) := by decide +kernel
theorem dX12_reduce_123 : decode cX12_reduce 123 = .ok (.if_icmp .ne 22, 3) := by decide +kernel
theorem dX12_reduce_126 : decode cX12_reduce 126 = .ok (.aload_n 0, 1) := by decide +kernel
theorem dX12_reduce_127 : decode cX12_reduce 127 = .ok (.iload_n 3, 1) := by decide +kernel
theorem dX12_reduce_128 : decode cX12_reduce 128 = .ok (.bipush 45, 2) := by decide +kernel
theorem dX12_reduce_130 : decode cX12_reduce 130 = .ok (.if_icmp .ne 7, 3) := by decide +kernel
theorem dX12_reduce_133 : decode cX12_reduce 133 = .ok (.iconst 3, 1) := by decide +kernel
theorem dX12_reduce_134 : decode cX12_reduce 134 = .ok (.goto 4, 3) := by decide +kernel
theorem dX12_reduce_137 : decode cX12_reduce 137 = .ok (.iconst 4, 1) := by decide +kernel
theorem dX12_reduce_138 : decode cX12_reduce 138 = .ok (.lconst 0, 1) := by decide +kernel
theorem dX12_reduce_139 : decode cX12_reduce 139 = .ok (.invokevirtual 167, 3) := by decide +kernel
theorem dX12_reduce_142 : decode cX12_reduce 142 = .ok (.goto 20, 3) := by decide +kernel
theorem dX12_reduce_145 : decode cX12_reduce 145 = .ok (.aload_n 0, 1) := by decide +kernel
theorem dX12_reduce_146 : decode cX12_reduce 146 = .ok (.iconst 2, 1) := by decide +kernel
theorem dX12_reduce_147 : decode cX12_reduce 147 = .ok (.iload_n 3, 1) := by decide +kernel
theorem dX12_reduce_148 : decode cX12_reduce 148 = .ok (.i2l, 1) := by decide +kernel
theorem dX12_reduce_149 : decode cX12_reduce 149 = .ok (.invokevirtual 167, 3) := by decide +kernel
theorem dX12_reduce_152 : decode cX12_reduce 152 = .ok (.aload_n 0, 1) := by decide +kernel
theorem dX12_reduce_153 : decode cX12_reduce 153 = .ok (.dup, 1) := by decide +kernel
theorem dX12_reduce_154 : decode cX12_reduce 154 = .ok (.getfield 164, 3) := by decide +kernel
theorem dX12_reduce_157 : decode cX12_reduce 157 = .ok (.iconst 1, 1) := by decide +kernel
theorem dX12_reduce_158 : decode cX12_reduce 158 = .ok (.isub, 1) := by decide +kernel
theorem dX12_reduce_159 : decode cX12_reduce 159 = .ok (.putfield 164, 3) := by decide +kernel
theorem dX12_reduce_162 : decode cX12_reduce 162 = .ok (.return_, 1) := by decide +kernel
theorem dX12_reduceTo_0 : decode cX12_reduceTo 0 = .ok (.aload_n 0, 1) := by decide +kernel
theorem dX12_reduceTo_1 : decode cX12_reduceTo 1 = .ok (.getfield 161, 3) := by decide +kernel
theorem dX12_reduceTo_4 : decode cX12_reduceTo 4 = .ok (.ifCond .le 41, 3) := by decide +kernel
theorem dX12_reduceTo_7 : decode cX12_reduceTo 7 = .ok (.aload_n 0, 1) := by decide +kernel
theorem dX12_reduceTo_8 : decode cX12_reduceTo 8 = .ok (.getfield 33, 3) := by decide +kernel
theorem dX12_reduceTo_11 : decode cX12_reduceTo 11 = .ok (.aload_n 0, 1) := by decide +kernel
theorem dX12_reduceTo_12 : decode cX12_reduceTo 12 = .ok (.getfield 161, 3) := by decide +kernel
theorem dX12_reduceTo_15 : decode cX12_reduceTo 15 = .ok (.iconst 1, 1) := by decide +kernel
theorem dX12_reduceTo_16 : decode cX12_reduceTo 16 = .ok (.isub, 1) := by decide +kernel
theorem dX12_reduceTo_17 : decode cX12_reduceTo 17 = .ok (.iaload, 1) := by decide +kernel
theorem dX12_reduceTo_18 : decode cX12_reduceTo 18 = .ok (.iload_n 1, 1) := by decide +kernel
theorem dX12_reduceTo_19 : decode cX12_reduceTo 19 = .ok (.if_icmp .lt 26, 3) := by decide +kernel
theorem dX12_reduceTo_22 : decode cX12_reduceTo 22 = .ok (.aload_n 0, 1) := by decide +kernel
theorem dX12_reduceTo_23 : decode cX12_reduceTo 23 = .ok (.getfield 33, 3) := by decide +kernel
theorem dX12_reduceTo_26 : decode cX12_reduceTo 26 = .ok (.aload_n 0, 1) := by decide +kernel
theorem dX12_reduceTo_27 : decode cX12_reduceTo 27 = .ok (.getfield 161, 3) := by decide +kernel
theorem dX12_reduceTo_30 : decode cX12_reduceTo 30 = .ok (.iconst 1, 1) := by decide +kernel
theorem dX12_reduceTo_31 : decode cX12_reduceTo 31 = .ok (.isub, 1) := by decide +kernel
theorem dX12_reduceTo_32 : decode cX12_reduceTo 32 = .ok (.iaload, 1) := by decide +kernel
theorem dX12_reduceTo_33 : decode cX12_reduceTo 33 = .ok (.bipush 6, 2) := by decide +kernel
theorem dX12_reduceTo_35 : decode cX12_reduceTo 35 = .ok (.if_icmp .gt 10, 3) := by decide +kernel
theorem dX12_reduceTo_38 : decode cX12_reduceTo 38 = .ok (.aload_n 0, 1) := by decide +kernel
theorem dX12_reduceTo_39 : decode cX12_reduceTo 39 = .ok (.invokevirtual 171, 3) := by decide +kernel
theorem dX12_reduceTo_42 : decode cX12_reduceTo 42 = .ok (.goto (-42), 3) := by decide +kernel
theorem dX12_reduceTo_45 : decode cX12_reduceTo 45 = .ok (.return_, 1) := by decide +kernel
theorem dX12_reduceAll_0 : decode cX12_reduceAll 0 = .ok (.aload_n 0, 1) := by decide +kernel
theorem dX12_reduceAll_1 : decode cX12_reduceAll 1 = .ok (.iconst 1, 1) := by decide +kernel
theorem dX12_reduceAll_2 : decode cX12_reduceAll 2 = .ok (.invokevirtual 174, 3) := by decide +kernel
theorem dX12_reduceAll_5 : decode cX12_reduceAll 5 = .ok (.return_, 1) := by decide +kernel
theorem dX12_last_0 : decode cX12_last 0 = .ok (.aload_n 0, 1) := by decide +kernel
theorem dX12_last_1 : decode cX12_last 1 = .ok (.getfield 161, 3) := by decide +kernel
theorem dX12_last_4 : decode cX12_last 4 = .ok (.ifCond .ne 7, 3) := by decide +kernel
theorem dX12_last_7 : decode cX12_last 7 = .ok (.iconst (-1), 1) := by decide +kernel
theorem dX12_last_8 : decode cX12_last 8 = .ok (.goto 14, 3) := by decide +kernel
theorem dX12_last_11 : decode cX12_last 11 = .ok (.aload_n 0, 1) := by decide +kernel
theorem dX12_last_12 : decode cX12_last 12 = .ok (.getfield 33, 3) := by decide +kernel
theorem dX12_last_15 : decode cX12_last 15 = .ok (.aload_n 0, 1) := by decide +kernel
theorem dX12_last_16 : decode cX12_last 16 = .ok (.getfield 161, 3) := by decide +kernel
theorem dX12_last_19 : decode cX12_last 19 = .ok (.iconst 1, 1) := by decide +kernel
theorem dX12_last_20 : decode cX12_last 20 = .ok (.isub, 1) := by decide +kernel
theorem dX12_last_21 : decode cX12_last 21 = .ok (.iaload, 1) := by decide +kernel
theorem dX12_last_22 : decode cX12_last 22 = .ok (.ireturn, 1) := by decide +kernel
theorem dX12_readNumber_0 : decode cX12_readNumber 0 = .ok (.aload_n 0, 1) := by decide +kernel
theorem dX12_readNumber_1 : decode cX12_readNumber 1 = .ok (.getfield 147, 3) := by decide +kernel
theorem dX12_readNumber_4 : decode cX12_readNumber 4 = .ok (.istore_n 1, 1) := by decide +kernel
theorem dX12_readNumber_5 : decode cX12_readNumber 5 = .ok (.aload_n 0, 1) := by decide +kernel
theorem dX12_readNumber_6 : decode cX12_readNumber 6 = .ok (.iload_n 1, 1) := by decide +kernel
theorem dX12_readNumber_7 : decode cX12_readNumber 7 = .ok (.invokevirtual 178, 3) := by decide +kernel
theorem dX12_readNumber_10 : decode cX12_readNumber 10 = .ok (.ifCond .ne 4, 3) := by decide +kernel
theorem dX12_readNumber_13 : decode cX12_readNumber 13 = .ok (.return_, 1) := by decide +kernel
theorem dX12_readNumber_14 : decode cX12_readNumber 14 = .ok (.lconst 0, 1) := by decide +kernel
theorem dX12_readNumber_15 : decode cX12_readNumber 15 = .ok (.lstore_n 2, 1) := by decide +kernel
theorem dX12_readNumber_16 : decode cX12_readNumber 16 = .ok (.aload_n 0, 1) := by decide +kernel
theorem dX12_readNumber_17 : decode cX12_readNumber 17 = .ok (.aload_n 0, 1) := by decide +kernel
theorem dX12_readNumber_18 : decode cX12_readNumber 18 = .ok (.getfield 147, 3) := by decide +kernel
theorem dX12_readNumber_21 : decode cX12_readNumber 21 = .ok (.invokevirtual 130, 3) := by decide +kernel
theorem dX12_readNumber_24 : decode cX12_readNumber 24 = .ok (.invokestatic 181, 3) := by decide +kernel
theorem dX12_readNumber_27 : decode cX12_readNumber 27 = .ok (.ifCond .eq 52, 3) := by decide +kernel
theorem dX12_readNumber_30 : decode cX12_readNumber 30 = .ok (.lload_n 2, 1) := by decide +kernel
theorem dX12_readNumber_31 : decode cX12_readNumber 31 = .ok (.ldc2_w 184, 3) := by decide +kernel
theorem dX12_readNumber_34 : decode cX12_readNumber 34 = .ok (.lmul, 1) := by decide +kernel
theorem dX12_readNumber_35 : decode cX12_readNumber 35 = .ok (.aload_n 0, 1) := by decide +kernel
theorem dX12_readNumber_36 : decode cX12_readNumber 36 = .ok (.aload_n 0, 1) := by decide +kernel
theorem dX12_readNumber_37 : decode cX12_readNumber 37 = .ok (.getfield 147, 3) := by decide +kernel
theorem dX12_readNumber_40 : decode cX12_readNumber 40 = .ok (.invokevirtual 130, 3) := by decide +kernel
theorem dX12_readNumber_43 : decode cX12_readNumber 43 = .ok (.i2l, 1) := by decide +kernel
theorem dX12_readNumber_44 : decode cX12_readNumber 44 = .ok (.ladd, 1) := by decide +kernel
theorem dX12_readNumber_45 : decode cX12_readNumber 45 = .ok (.ldc2_w 186, 3) := by decide +kernel
theorem dX12_readNumber_48 : decode cX12_readNumber 48 = .ok (.lsub, 1) := by decide +kernel
theorem dX12_readNumber_49 : decode cX12_readNumber 49 = .ok (.lstore_n 2, 1) := by decide +kernel
theorem dX12_readNumber_50 : decode cX12_readNumber 50 = .ok (.lload_n 2, 1) := by decide +kernel
theorem dX12_readNumber_51 : decode cX12_readNumber 51 = .ok (.ldc2_w 188, 3) := by decide +kernel
theorem dX12_readNumber_54 : decode cX12_readNumber 54 = .ok (.lcmp, 1) := by decide +kernel
theorem dX12_readNumber_55 : decode cX12_readNumber 55 = .ok (.ifCond .le 9, 3) := by decide +kernel
theorem dX12_readNumber_58 : decode cX12_readNumber 58 = .ok (.ldc2_w 188, 3) := by decide +kernel
theorem dX12_readNumber_61 : decode cX12_readNumber 61 = .ok (.goto 4, 3) := by decide +kernel
theorem dX12_readNumber_64 : decode cX12_readNumber 64 = .ok (.lload_n 2, 1) := by decide +kernel
theorem dX12_readNumber_65 : decode cX12_readNumber 65 = .ok (.lstore_n 2, 1) := by decide +kernel
theorem dX12_readNumber_66 : decode cX12_readNumber 66 = .ok (.aload_n 0, 1) := by decide +kernel
theorem dX12_readNumber_67 : decode cX12_readNumber 67 = .ok (.dup, 1) := by decide +kernel
theorem dX12_readNumber_68 : decode cX12_readNumber 68 = .ok (.getfield 147, 3) := by decide +kernel
theorem dX12_readNumber_71 : decode cX12_readNumber 71 = .ok (.iconst 1, 1) := by decide +kernel
theorem dX12_readNumber_72 : decode cX12_readNumber 72 = .ok (.iadd, 1) := by decide +kernel
theorem dX12_readNumber_73 : decode cX12_readNumber 73 = .ok (.putfield 147, 3) := by decide +kernel
theorem dX12_readNumber_76 : decode cX12_readNumber 76 = .ok (.goto (-60), 3) := by decide +kernel
theorem dX12_readNumber_79 : decode cX12_readNumber 79 = .ok (.lload_n 2, 1) := by decide +kernel
theorem dX12_readNumber_80 : decode cX12_readNumber 80 = .ok (.ldc2_w 190, 3) := by decide +kernel
theorem dX12_readNumber_83 : decode cX12_readNumber 83 = .ok (.lcmp, 1) := by decide +kernel
theorem dX12_readNumber_84 : decode cX12_readNumber 84 = .ok (.ifCond .le 9, 3) := by decide +kernel
theorem dX12_readNumber_87 : decode cX12_readNumber 87 = .ok (.aload_n 0, 1) := by decide +kernel
theorem dX12_readNumber_88 : decode cX12_readNumber 88 = .ok (.iconst 2, 1) := by decide +kernel
theorem dX12_readNumber_89 : decode cX12_readNumber 89 = .ok (.iload_n 1, 1) := by decide +kernel
theorem dX12_readNumber_90 : decode cX12_readNumber 90 = .ok (.invokevirtual 157, 3) := by decide +kernel
theorem dX12_readNumber_93 : decode cX12_readNumber 93 = .ok (.aload_n 0, 1) := by decide +kernel
theorem dX12_readNumber_94 : decode cX12_readNumber 94 = .ok (.aload_n 0, 1) := by decide +kernel
theorem dX12_readNumber_95 : decode cX12_readNumber 95 = .ok (.getfield 144, 3) := by decide +kernel
theorem dX12_readNumber_98 : decode cX12_readNumber 98 = .ok (.invokevirtual 192, 3) := by decide +kernel
theorem dX12_readNumber_101 : decode cX12_readNumber 101 = .ok (.aload_n 0, 1) := by decide +kernel
theorem dX12_readNumber_102 : decode cX12_readNumber 102 = .ok (.iconst 0, 1) := by decide +kernel
theorem dX12_readNumber_103 : decode cX12_readNumber 103 = .ok (.lload_n 2, 1) := by decide +kernel
theorem dX12_readNumber_104 : decode cX12_readNumber 104 = .ok (.invokevirtual 167, 3) := by decide +kernel
theorem dX12_readNumber_107 : decode cX12_readNumber 107 = .ok (.return_, 1) := by decide +kernel
theorem dX12_open_0 : decode cX12_open 0 = .ok (.aload_n 0, 1) := by decide +kernel
theorem dX12_open_1 : decode cX12_open 1 = .ok (.getfield 195, 3) := by decide +kernel
theorem dX12_open_4 : decode cX12_open 4 = .ok (.bipush 12, 2) := by decide +kernel
theorem dX12_open_6 : decode cX12_open 6 = .ok (.if_icmp .ne 13, 3) := by decide +kernel
theorem dX12_open_9 : decode cX12_open 9 = .ok (.aload_n 0, 1) := by decide +kernel
theorem dX12_open_10 : decode cX12_open 10 = .ok (.iconst 3, 1) := by decide +kernel
theorem dX12_open_11 : decode cX12_open 11 = .ok (.aload_n 0, 1) := by decide +kernel
theorem dX12_open_12 : decode cX12_open 12 = .ok (.getfield 147, 3) := by decide +kernel
theorem dX12_open_15 : decode cX12_open 15 = .ok (.invokevirtual 157, 3) := by decide +kernel
theorem dX12_open_18 : decode cX12_open 18 = .ok (.return_, 1) := by decide +kernel
theorem dX12_open_19 : decode cX12_open 19 = .ok (.aload_n 0, 1) := by decide +kernel
theorem dX12_open_20 : decode cX12_open 20 = .ok (.dup, 1) := by decide +kernel
theorem dX12_open_21 : decode cX12_open 21 = .ok (.getfield 195, 3) := by decide +kernel
theorem dX12_open_24 : decode cX12_open 24 = .ok (.iconst 1, 1) := by decide +kernel
theorem dX12_open_25 : decode cX12_open 25 = .ok (.iadd, 1) := by decide +kernel
theorem dX12_open_26 : decode cX12_open 26 = .ok (.putfield 195, 3) := by decide +kernel
theorem dX12_open_29 : decode cX12_open 29 = .ok (.aload_n 0, 1) := by decide +kernel
theorem dX12_open_30 : decode cX12_open 30 = .ok (.iload_n 1, 1) := by decide +kernel
theorem dX12_open_31 : decode cX12_open 31 = .ok (.iload_n 2, 1) := by decide +kernel
theorem dX12_open_32 : decode cX12_open 32 = .ok (.iconst 0, 1) := by decide +kernel
theorem dX12_open_33 : decode cX12_open 33 = .ok (.invokevirtual 198, 3) := by decide +kernel
theorem dX12_open_36 : decode cX12_open 36 = .ok (.aload_n 0, 1) := by decide +kernel
theorem dX12_open_37 : decode cX12_open 37 = .ok (.getfield 42, 3) := by decide +kernel
theorem dX12_open_40 : decode cX12_open 40 = .ok (.aload_n 0, 1) := by decide +kernel
theorem dX12_open_41 : decode cX12_open 41 = .ok (.getfield 161, 3) := by decide +kernel
theorem dX12_open_44 : decode cX12_open 44 = .ok (.iconst 1, 1) := by decide +kernel
theorem dX12_open_45 : decode cX12_open 45 = .ok (.isub, 1) := by decide +kernel
theorem dX12_open_46 : decode cX12_open 46 = .ok (.aload_n 0, 1) := by decide +kernel
theorem dX12_open_47 : decode cX12_open 47 = .ok (.getfield 137, 3) := by decide +kernel
theorem dX12_open_50 : decode cX12_open 50 = .ok (.lastore, 1) := by decide +kernel
theorem dX12_open_51 : decode cX12_open 51 = .ok (.aload_n 0, 1) := by decide +kernel
theorem dX12_open_52 : decode cX12_open 52 = .ok (.dup, 1) := by decide +kernel
theorem dX12_open_53 : decode cX12_open 53 = .ok (.getfield 147, 3) := by decide +kernel
theorem dX12_open_56 : decode cX12_open 56 = .ok (.iconst 1, 1) := by decide +kernel
theorem dX12_open_57 : decode cX12_open 57 = .ok (.iadd, 1) := by decide +kernel
theorem dX12_open_58 : decode cX12_open 58 = .ok (.putfield 147, 3) := by decide +kernel
theorem dX12_open_61 : decode cX12_open 61 = .ok (.return_, 1) := by decide +kernel
theorem dX12_variableOf_0 : decode cX12_variableOf 0 = .ok (.iload_n 1, 1) := by decide +kernel
theorem dX12_variableOf_1 : decode cX12_variableOf 1 = .ok (.bipush 114, 2) := by decide +kernel
theorem dX12_variableOf_3 : decode cX12_variableOf 3 = .ok (.if_icmp .ne 7, 3) := by decide +kernel
theorem dX12_variableOf_6 : decode cX12_variableOf 6 = .ok (.iconst 3, 1) := by decide +kernel
theorem dX12_variableOf_7 : decode cX12_variableOf 7 = .ok (.goto 38, 3) := by decide +kernel
theorem dX12_variableOf_10 : decode cX12_variableOf 10 = .ok (.iload_n 1, 1) := by decide +kernel
theorem dX12_variableOf_11 : decode cX12_variableOf 11 = .ok (.bipush 120, 2) := by decide +kernel
theorem dX12_variableOf_13 : decode cX12_variableOf 13 = .ok (.if_icmp .ne 7, 3) := by decide +kernel
theorem dX12_variableOf_16 : decode cX12_variableOf 16 = .ok (.iconst 4, 1) := by decide +kernel
theorem dX12_variableOf_17 : decode cX12_variableOf 17 = .ok (.goto 28, 3) := by decide +kernel
theorem dX12_variableOf_20 : decode cX12_variableOf 20 = .ok (.iload_n 1, 1) := by decide +kernel
theorem dX12_variableOf_21 : decode cX12_variableOf 21 = .ok (.bipush 110, 2) := by decide +kernel
theorem dX12_variableOf_23 : decode cX12_variableOf 23 = .ok (.if_icmp .ne 7, 3) := by decide +kernel
theorem dX12_variableOf_26 : decode cX12_variableOf 26 = .ok (.iconst 5, 1) := by decide +kernel
theorem dX12_variableOf_27 : decode cX12_variableOf 27 = .ok (.goto 18, 3) := by decide +kernel
theorem dX12_variableOf_30 : decode cX12_variableOf 30 = .ok (.iload_n 1, 1) := by decide +kernel
theorem dX12_variableOf_31 : decode cX12_variableOf 31 = .ok (.bipush 107, 2) := by decide +kernel
theorem dX12_variableOf_33 : decode cX12_variableOf 33 = .ok (.if_icmp .ne 8, 3) := by decide +kernel
theorem dX12_variableOf_36 : decode cX12_variableOf 36 = .ok (.bipush 6, 2) := by decide +kernel
theorem dX12_variableOf_38 : decode cX12_variableOf 38 = .ok (.goto 7, 3) := by decide +kernel
theorem dX12_variableOf_41 : decode cX12_variableOf 41 = .ok (.iload_n 1, 1) := by decide +kernel
theorem dX12_variableOf_42 : decode cX12_variableOf 42 = .ok (.bipush 97, 2) := by decide +kernel
theorem dX12_variableOf_44 : decode cX12_variableOf 44 = .ok (.isub, 1) := by decide +kernel
theorem dX12_variableOf_45 : decode cX12_variableOf 45 = .ok (.istore_n 2, 1) := by decide +kernel
theorem dX12_variableOf_46 : decode cX12_variableOf 46 = .ok (.iload_n 1, 1) := by decide +kernel
theorem dX12_variableOf_47 : decode cX12_variableOf 47 = .ok (.bipush 97, 2) := by decide +kernel
theorem dX12_variableOf_49 : decode cX12_variableOf 49 = .ok (.if_icmp .lt 13, 3) := by decide +kernel
theorem dX12_variableOf_52 : decode cX12_variableOf 52 = .ok (.iload_n 1, 1) := by decide +kernel
theorem dX12_variableOf_53 : decode cX12_variableOf 53 = .ok (.bipush 99, 2) := by decide +kernel
theorem dX12_variableOf_55 : decode cX12_variableOf 55 = .ok (.if_icmp .gt 7, 3) := by decide +kernel
theorem dX12_variableOf_58 : decode cX12_variableOf 58 = .ok (.iconst 1, 1) := by decide +kernel
theorem dX12_variableOf_59 : decode cX12_variableOf 59 = .ok (.goto 4, 3) := by decide +kernel
theorem dX12_variableOf_62 : decode cX12_variableOf 62 = .ok (.iconst 0, 1) := by decide +kernel
theorem dX12_variableOf_63 : decode cX12_variableOf 63 = .ok (.istore_n 3, 1) := by decide +kernel
theorem dX12_variableOf_64 : decode cX12_variableOf 64 = .ok (.iload_n 3, 1) := by decide +kernel
theorem dX12_variableOf_65 : decode cX12_variableOf 65 = .ok (.ifCond .eq 11, 3) := by decide +kernel
theorem dX12_variableOf_68 : decode cX12_variableOf 68 = .ok (.iload_n 2, 1) := by decide +kernel
theorem dX12_variableOf_69 : decode cX12_variableOf 69 = .ok (.aload_n 0, 1) := by decide +kernel
theorem dX12_variableOf_70 : decode cX12_variableOf 70 = .ok (.getfield 202, 3) := by decide +kernel
theorem dX12_variableOf_73 : decode cX12_variableOf 73 = .ok (.if_icmp .lt 49, 3) := by decide +kernel
theorem dX12_variableOf_76 : decode cX12_variableOf 76 = .ok (.aload_n 0, 1) := by decide +kernel
theorem dX12_variableOf_77 : decode cX12_variableOf 77 = .ok (.getfield 150, 3) := by decide +kernel
theorem dX12_variableOf_80 : decode cX12_variableOf 80 = .ok (.ifCond .eq 46, 3) := by decide +kernel
theorem dX12_variableOf_83 : decode cX12_variableOf 83 = .ok (.iload_n 3, 1) := by decide +kernel
theorem dX12_variableOf_84 : decode cX12_variableOf 84 = .ok (.ifCond .ne 38, 3) := by decide +kernel
theorem dX12_variableOf_87 : decode cX12_variableOf 87 = .ok (.iload_n 2, 1) := by decide +kernel
theorem dX12_variableOf_88 : decode cX12_variableOf 88 = .ok (.iconst 3, 1) := by decide +kernel
theorem dX12_variableOf_89 : decode cX12_variableOf 89 = .ok (.if_icmp .lt 37, 3) := by decide +kernel
theorem dX12_variableOf_92 : decode cX12_variableOf 92 = .ok (.iload_n 2, 1) := by decide +kernel
theorem dX12_variableOf_93 : decode cX12_variableOf 93 = .ok (.bipush 6, 2) := by decide +kernel
theorem dX12_variableOf_95 : decode cX12_variableOf 95 = .ok (.if_icmp .gt 31, 3) := by decide +kernel
theorem dX12_variableOf_98 : decode cX12_variableOf 98 = .ok (.iload_n 1, 1) := by decide +kernel
theorem dX12_variableOf_99 : decode cX12_variableOf 99 = .ok (.bipush 100, 2) := by decide +kernel
theorem dX12_variableOf_101 : decode cX12_variableOf 101 = .ok (.if_icmp .eq 25, 3) := by decide +kernel
theorem dX12_variableOf_104 : decode cX12_variableOf 104 = .ok (.iload_n 1, 1) := by decide +kernel
theorem dX12_variableOf_105 : decode cX12_variableOf 105 = .ok (.bipush 101, 2) := by decide +kernel
theorem dX12_variableOf_107 : decode cX12_variableOf 107 = .ok (.if_icmp .eq 19, 3) := by decide +kernel
theorem dX12_variableOf_110 : decode cX12_variableOf 110 = .ok (.iload_n 1, 1) := by decide +kernel
theorem dX12_variableOf_111 : decode cX12_variableOf 111 = .ok (.bipush 102, 2) := by decide +kernel
theorem dX12_variableOf_113 : decode cX12_variableOf 113 = .ok (.if_icmp .eq 13, 3) := by decide +kernel
theorem dX12_variableOf_116 : decode cX12_variableOf 116 = .ok (.iload_n 1, 1) := by decide +kernel
theorem dX12_variableOf_117 : decode cX12_variableOf 117 = .ok (.bipush 103, 2) := by decide +kernel
theorem dX12_variableOf_119 : decode cX12_variableOf 119 = .ok (.if_icmp .eq 7, 3) := by decide +kernel
theorem dX12_variableOf_122 : decode cX12_variableOf 122 = .ok (.iload_n 2, 1) := by decide +kernel
theorem dX12_variableOf_123 : decode cX12_variableOf 123 = .ok (.goto 4, 3) := by decide +kernel
theorem dX12_variableOf_126 : decode cX12_variableOf 126 = .ok (.iconst (-1), 1) := by decide +kernel
theorem dX12_variableOf_127 : decode cX12_variableOf 127 = .ok (.ireturn, 1) := by decide +kernel
theorem dX12_readRow_0 : decode cX12_readRow 0 = .ok (.aload_n 0, 1) := by decide +kernel
theorem dX12_readRow_1 : decode cX12_readRow 1 = .ok (.getfield 147, 3) := by decide +kernel
theorem dX12_readRow_4 : decode cX12_readRow 4 = .ok (.istore_n 1, 1) := by decide +kernel
theorem dX12_readRow_5 : decode cX12_readRow 5 = .ok (.aload_n 0, 1) := by decide +kernel
theorem dX12_readRow_6 : decode cX12_readRow 6 = .ok (.aload_n 0, 1) := by decide +kernel
theorem dX12_readRow_7 : decode cX12_readRow 7 = .ok (.getfield 147, 3) := by decide +kernel
theorem dX12_readRow_10 : decode cX12_readRow 10 = .ok (.invokevirtual 205, 3) := by decide +kernel
theorem dX12_readRow_13 : decode cX12_readRow 13 = .ok (.istore_n 2, 1) := by decide +kernel
theorem dX12_readRow_14 : decode cX12_readRow 14 = .ok (.iload_n 2, 1) := by decide +kernel
theorem dX12_readRow_15 : decode cX12_readRow 15 = .ok (.iconst 1, 1) := by decide +kernel
theorem dX12_readRow_16 : decode cX12_readRow 16 = .ok (.if_icmp .ne 75, 3) := by decide +kernel
theorem dX12_readRow_19 : decode cX12_readRow 19 = .ok (.aload_n 0, 1) := by decide +kernel
theorem dX12_readRow_20 : decode cX12_readRow 20 = .ok (.aload_n 0, 1) := by decide +kernel
theorem dX12_readRow_21 : decode cX12_readRow 21 = .ok (.getfield 147, 3) := by decide +kernel
theorem dX12_readRow_24 : decode cX12_readRow 24 = .ok (.invokevirtual 130, 3) := by decide +kernel
theorem dX12_readRow_27 : decode cX12_readRow 27 = .ok (.invokestatic 126, 3) := by decide +kernel
theorem dX12_readRow_30 : decode cX12_readRow 30 = .ok (.ifCond .eq 61, 3) := by decide +kernel
theorem dX12_readRow_33 : decode cX12_readRow 33 = .ok (.aload_n 0, 1) := by decide +kernel
theorem dX12_readRow_34 : decode cX12_readRow 34 = .ok (.iload_n 1, 1) := by decide +kernel
theorem dX12_readRow_35 : decode cX12_readRow 35 = .ok (.invokevirtual 178, 3) := by decide +kernel
theorem dX12_readRow_38 : decode cX12_readRow 38 = .ok (.ifCond .eq 51, 3) := by decide +kernel
theorem dX12_readRow_41 : decode cX12_readRow 41 = .ok (.aload_n 0, 1) := by decide +kernel
theorem dX12_readRow_42 : decode cX12_readRow 42 = .ok (.aload_n 0, 1) := by decide +kernel
theorem dX12_readRow_43 : decode cX12_readRow 43 = .ok (.aload_n 0, 1) := by decide +kernel
theorem dX12_readRow_44 : decode cX12_readRow 44 = .ok (.getfield 147, 3) := by decide +kernel
theorem dX12_readRow_47 : decode cX12_readRow 47 = .ok (.invokevirtual 130, 3) := by decide +kernel
theorem dX12_readRow_50 : decode cX12_readRow 50 = .ok (.invokevirtual 208, 3) := by decide +kernel
theorem dX12_readRow_53 : decode cX12_readRow 53 = .ok (.istore_n 3, 1) := by decide +kernel
theorem dX12_readRow_54 : decode cX12_readRow 54 = .ok (.iload_n 3, 1) := by decide +kernel
theorem dX12_readRow_55 : decode cX12_readRow 55 = .ok (.ifCond .ge 9, 3) := by decide +kernel
theorem dX12_readRow_58 : decode cX12_readRow 58 = .ok (.aload_n 0, 1) := by decide +kernel
theorem dX12_readRow_59 : decode cX12_readRow 59 = .ok (.iconst 4, 1) := by decide +kernel
theorem dX12_readRow_60 : decode cX12_readRow 60 = .ok (.iload_n 1, 1) := by decide +kernel
theorem dX12_readRow_61 : decode cX12_readRow 61 = .ok (.invokevirtual 157, 3) := by decide +kernel
theorem dX12_readRow_64 : decode cX12_readRow 64 = .ok (.aload_n 0, 1) := by decide +kernel
theorem dX12_readRow_65 : decode cX12_readRow 65 = .ok (.aload_n 0, 1) := by decide +kernel
theorem dX12_readRow_66 : decode cX12_readRow 66 = .ok (.getfield 144, 3) := by decide +kernel
theorem dX12_readRow_69 : decode cX12_readRow 69 = .ok (.invokevirtual 192, 3) := by decide +kernel
theorem dX12_readRow_72 : decode cX12_readRow 72 = .ok (.aload_n 0, 1) := by decide +kernel
theorem dX12_readRow_73 : decode cX12_readRow 73 = .ok (.iconst 1, 1) := by decide +kernel
theorem dX12_readRow_74 : decode cX12_readRow 74 = .ok (.iload_n 3, 1) := by decide +kernel
theorem dX12_readRow_75 : decode cX12_readRow 75 = .ok (.i2l, 1) := by decide +kernel
theorem dX12_readRow_76 : decode cX12_readRow 76 = .ok (.invokevirtual 167, 3) := by decide +kernel
theorem dX12_readRow_79 : decode cX12_readRow 79 = .ok (.aload_n 0, 1) := by decide +kernel
theorem dX12_readRow_80 : decode cX12_readRow 80 = .ok (.dup, 1) := by decide +kernel
theorem dX12_readRow_81 : decode cX12_readRow 81 = .ok (.getfield 147, 3) := by decide +kernel
theorem dX12_readRow_84 : decode cX12_readRow 84 = .ok (.iconst 1, 1) := by decide +kernel
theorem dX12_readRow_85 : decode cX12_readRow 85 = .ok (.iadd, 1) := by decide +kernel
theorem dX12_readRow_86 : decode cX12_readRow 86 = .ok (.putfield 147, 3) := by decide +kernel
theorem dX12_readRow_89 : decode cX12_readRow 89 = .ok (.iconst 1, 1) := by decide +kernel
theorem dX12_readRow_90 : decode cX12_readRow 90 = .ok (.ireturn, 1) := by decide +kernel
theorem dX12_readRow_91 : decode cX12_readRow 91 = .ok (.aload_n 0, 1) := by decide +kernel
theorem dX12_readRow_92 : decode cX12_readRow 92 = .ok (.getfield 154, 3) := by decide +kernel
theorem dX12_readRow_95 : decode cX12_readRow 95 = .ok (.bipush 20, 2) := by decide +kernel
theorem dX12_readRow_97 : decode cX12_readRow 97 = .ok (.if_icmp .ne 11, 3) := by decide +kernel
theorem dX12_readRow_100 : decode cX12_readRow 100 = .ok (.aload_n 0, 1) := by decide +kernel
theorem dX12_readRow_101 : decode cX12_readRow 101 = .ok (.iconst 3, 1) := by decide +kernel
theorem dX12_readRow_102 : decode cX12_readRow 102 = .ok (.iload_n 1, 1) := by decide +kernel
theorem dX12_readRow_103 : decode cX12_readRow 103 = .ok (.invokevirtual 157, 3) := by decide +kernel
theorem dX12_readRow_106 : decode cX12_readRow 106 = .ok (.iconst 1, 1) := by decide +kernel
theorem dX12_readRow_107 : decode cX12_readRow 107 = .ok (.ireturn, 1) := by decide +kernel
theorem dX12_readRow_108 : decode cX12_readRow 108 = .ok (.iload_n 2, 1) := by decide +kernel
theorem dX12_readRow_109 : decode cX12_readRow 109 = .ok (.bipush 12, 2) := by decide +kernel
theorem dX12_readRow_111 : decode cX12_readRow 111 = .ok (.if_icmp .le 14, 3) := by decide +kernel
theorem dX12_readRow_114 : decode cX12_readRow 114 = .ok (.aload_n 0, 1) := by decide +kernel
theorem dX12_readRow_115 : decode cX12_readRow 115 = .ok (.iconst 3, 1) := by decide +kernel
theorem dX12_readRow_116 : decode cX12_readRow 116 = .ok (.iload_n 1, 1) := by decide +kernel
theorem dX12_readRow_117 : decode cX12_readRow 117 = .ok (.bipush 12, 2) := by decide +kernel
theorem dX12_readRow_119 : decode cX12_readRow 119 = .ok (.iadd, 1) := by decide +kernel
theorem dX12_readRow_120 : decode cX12_readRow 120 = .ok (.invokevirtual 157, 3) := by decide +kernel
theorem dX12_readRow_123 : decode cX12_readRow 123 = .ok (.iconst 1, 1) := by decide +kernel
theorem dX12_readRow_124 : decode cX12_readRow 124 = .ok (.ireturn, 1) := by decide +kernel
theorem dX12_readRow_125 : decode cX12_readRow 125 = .ok (.aload_n 0, 1) := by decide +kernel
theorem dX12_readRow_126 : decode cX12_readRow 126 = .ok (.iload_n 1, 1) := by decide +kernel
theorem dX12_readRow_127 : decode cX12_readRow 127 = .ok (.iload_n 2, 1) := by decide +kernel
theorem dX12_readRow_128 : decode cX12_readRow 128 = .ok (.invokevirtual 211, 3) := by decide +kernel
theorem dX12_readRow_131 : decode cX12_readRow 131 = .ok (.ifCond .ne 11, 3) := by decide +kernel
theorem dX12_readRow_134 : decode cX12_readRow 134 = .ok (.aload_n 0, 1) := by decide +kernel
theorem dX12_readRow_135 : decode cX12_readRow 135 = .ok (.iconst 1, 1) := by decide +kernel
theorem dX12_readRow_136 : decode cX12_readRow 136 = .ok (.iload_n 1, 1) := by decide +kernel
theorem dX12_readRow_137 : decode cX12_readRow 137 = .ok (.invokevirtual 157, 3) := by decide +kernel
theorem dX12_readRow_140 : decode cX12_readRow 140 = .ok (.iconst 1, 1) := by decide +kernel
theorem dX12_readRow_141 : decode cX12_readRow 141 = .ok (.ireturn, 1) := by decide +kernel
theorem dX12_readRow_142 : decode cX12_readRow 142 = .ok (.aload_n 0, 1) := by decide +kernel
theorem dX12_readRow_143 : decode cX12_readRow 143 = .ok (.getfield 150, 3) := by decide +kernel
theorem dX12_readRow_146 : decode cX12_readRow 146 = .ok (.ifCond .eq 11, 3) := by decide +kernel
theorem dX12_readRow_149 : decode cX12_readRow 149 = .ok (.aload_n 0, 1) := by decide +kernel
theorem dX12_readRow_150 : decode cX12_readRow 150 = .ok (.iconst 4, 1) := by decide +kernel
theorem dX12_readRow_151 : decode cX12_readRow 151 = .ok (.iload_n 1, 1) := by decide +kernel
theorem dX12_readRow_152 : decode cX12_readRow 152 = .ok (.invokevirtual 157, 3) := by decide +kernel
theorem dX12_readRow_155 : decode cX12_readRow 155 = .ok (.iconst 1, 1) := by decide +kernel
theorem dX12_readRow_156 : decode cX12_readRow 156 = .ok (.ireturn, 1) := by decide +kernel
theorem dX12_readRow_157 : decode cX12_readRow 157 = .ok (.aload_n 0, 1) := by decide +kernel
theorem dX12_readRow_158 : decode cX12_readRow 158 = .ok (.dup, 1) := by decide +kernel
theorem dX12_readRow_159 : decode cX12_readRow 159 = .ok (.getfield 154, 3) := by decide +kernel
theorem dX12_readRow_162 : decode cX12_readRow 162 = .ok (.iconst 1, 1) := by decide +kernel
theorem dX12_readRow_163 : decode cX12_readRow 163 = .ok (.iadd, 1) := by decide +kernel
theorem dX12_readRow_164 : decode cX12_readRow 164 = .ok (.putfield 154, 3) := by decide +kernel
theorem dX12_readRow_167 : decode cX12_readRow 167 = .ok (.aload_n 0, 1) := by decide +kernel
theorem dX12_readRow_168 : decode cX12_readRow 168 = .ok (.iload_n 1, 1) := by decide +kernel
theorem dX12_readRow_169 : decode cX12_readRow 169 = .ok (.iload_n 2, 1) := by decide +kernel
theorem dX12_readRow_170 : decode cX12_readRow 170 = .ok (.iadd, 1) := by decide +kernel
theorem dX12_readRow_171 : decode cX12_readRow 171 = .ok (.putfield 147, 3) := by decide +kernel
theorem dX12_readRow_174 : decode cX12_readRow 174 = .ok (.aload_n 0, 1) := by decide +kernel
theorem dX12_readRow_175 : decode cX12_readRow 175 = .ok (.aload_n 0, 1) := by decide +kernel
theorem dX12_readRow_176 : decode cX12_readRow 176 = .ok (.getfield 147, 3) := by decide +kernel
theorem dX12_readRow_179 : decode cX12_readRow 179 = .ok (.invokevirtual 130, 3) := by decide +kernel
theorem dX12_readRow_182 : decode cX12_readRow 182 = .ok (.bipush 40, 2) := by decide +kernel
theorem dX12_readRow_184 : decode cX12_readRow 184 = .ok (.if_icmp .eq 14, 3) := by decide +kernel
theorem dX12_readRow_187 : decode cX12_readRow 187 = .ok (.aload_n 0, 1) := by decide +kernel
theorem dX12_readRow_188 : decode cX12_readRow 188 = .ok (.iconst 1, 1) := by decide +kernel
theorem dX12_readRow_189 : decode cX12_readRow 189 = .ok (.aload_n 0, 1) := by decide +kernel
theorem dX12_readRow_190 : decode cX12_readRow 190 = .ok (.getfield 147, 3) := by decide +kernel
theorem dX12_readRow_193 : decode cX12_readRow 193 = .ok (.invokevirtual 157, 3) := by decide +kernel
theorem dX12_readRow_196 : decode cX12_readRow 196 = .ok (.iconst 1, 1) := by decide +kernel
theorem dX12_readRow_197 : decode cX12_readRow 197 = .ok (.ireturn, 1) := by decide +kernel
theorem dX12_readRow_198 : decode cX12_readRow 198 = .ok (.aload_n 0, 1) := by decide +kernel
theorem dX12_readRow_199 : decode cX12_readRow 199 = .ok (.bipush 8, 2) := by decide +kernel
theorem dX12_readRow_201 : decode cX12_readRow 201 = .ok (.aload_n 0, 1) := by decide +kernel
theorem dX12_readRow_202 : decode cX12_readRow 202 = .ok (.getfield 144, 3) := by decide +kernel
theorem dX12_readRow_205 : decode cX12_readRow 205 = .ok (.invokevirtual 215, 3) := by decide +kernel
theorem dX12_readRow_208 : decode cX12_readRow 208 = .ok (.iconst 0, 1) := by decide +kernel
theorem dX12_readRow_209 : decode cX12_readRow 209 = .ok (.ireturn, 1) := by decide +kernel
theorem dX12_readOperand_0 : decode cX12_readOperand 0 = .ok (.aload_n 0, 1) := by decide +kernel
theorem dX12_readOperand_1 : decode cX12_readOperand 1 = .ok (.aload_n 0, 1) := by decide +kernel
theorem dX12_readOperand_2 : decode cX12_readOperand 2 = .ok (.getfield 147, 3) := by decide +kernel
theorem dX12_readOperand_5 : decode cX12_readOperand 5 = .ok (.invokevirtual 130, 3) := by decide +kernel
theorem dX12_readOperand_8 : decode cX12_readOperand 8 = .ok (.istore_n 2, 1) := by decide +kernel
theorem dX12_readOperand_9 : decode cX12_readOperand 9 = .ok (.iload_n 1, 1) := by decide +kernel
theorem dX12_readOperand_10 : decode cX12_readOperand 10 = .ok (.ifCond .eq 16, 3) := by decide +kernel
theorem dX12_readOperand_13 : decode cX12_readOperand 13 = .ok (.aload_n 0, 1) := by decide +kernel
theorem dX12_readOperand_14 : decode cX12_readOperand 14 = .ok (.invokevirtual 218, 3) := by decide +kernel
theorem dX12_readOperand_17 : decode cX12_readOperand 17 = .ok (.bipush 8, 2) := by decide +kernel
theorem dX12_readOperand_19 : decode cX12_readOperand 19 = .ok (.if_icmp .ne 7, 3) := by decide +kernel
theorem dX12_readOperand_22 : decode cX12_readOperand 22 = .ok (.iconst 1, 1) := by decide +kernel
theorem dX12_readOperand_23 : decode cX12_readOperand 23 = .ok (.goto 4, 3) := by decide +kernel
theorem dX12_readOperand_26 : decode cX12_readOperand 26 = .ok (.iconst 0, 1) := by decide +kernel
theorem dX12_readOperand_27 : decode cX12_readOperand 27 = .ok (.istore_n 3, 1) := by decide +kernel
theorem dX12_readOperand_28 : decode cX12_readOperand 28 = .ok (.aload_n 0, 1) := by decide +kernel
theorem dX12_readOperand_29 : decode cX12_readOperand 29 = .ok (.invokevirtual 222, 3) := by decide +kernel
theorem dX12_readOperand_32 : decode cX12_readOperand 32 = .ok (.ifCond .eq 15, 3) := by decide +kernel
theorem dX12_readOperand_35 : decode cX12_readOperand 35 = .ok (.aload_n 0, 1) := by decide +kernel
theorem dX12_readOperand_36 : decode cX12_readOperand 36 = .ok (.iconst 1, 1) := by decide +kernel
theorem dX12_readOperand_37 : decode cX12_readOperand 37 = .ok (.aload_n 0, 1) := by decide +kernel
theorem dX12_readOperand_38 : decode cX12_readOperand 38 = .ok (.getfield 147, 3) := by decide +kernel
theorem dX12_readOperand_41 : decode cX12_readOperand 41 = .ok (.invokevirtual 157, 3) := by decide +kernel
theorem dX12_readOperand_44 : decode cX12_readOperand 44 = .ok (.goto 148, 3) := by decide +kernel
theorem dX12_readOperand_47 : decode cX12_readOperand 47 = .ok (.iload_n 3, 1) := by decide +kernel
theorem dX12_readOperand_48 : decode cX12_readOperand 48 = .ok (.ifCond .eq 15, 3) := by decide +kernel
theorem dX12_readOperand_51 : decode cX12_readOperand 51 = .ok (.iload_n 2, 1) := by decide +kernel
theorem dX12_readOperand_52 : decode cX12_readOperand 52 = .ok (.bipush 41, 2) := by decide +kernel
theorem dX12_readOperand_54 : decode cX12_readOperand 54 = .ok (.if_icmp .ne 9, 3) := by decide +kernel
theorem dX12_readOperand_57 : decode cX12_readOperand 57 = .ok (.aload_n 0, 1) := by decide +kernel
theorem dX12_readOperand_58 : decode cX12_readOperand 58 = .ok (.invokevirtual 226, 3) := by decide +kernel
theorem dX12_readOperand_61 : decode cX12_readOperand 61 = .ok (.iconst 1, 1) := by decide +kernel
theorem dX12_readOperand_62 : decode cX12_readOperand 62 = .ok (.ireturn, 1) := by decide +kernel
theorem dX12_readOperand_63 : decode cX12_readOperand 63 = .ok (.aload_n 0, 1) := by decide +kernel
theorem dX12_readOperand_64 : decode cX12_readOperand 64 = .ok (.invokevirtual 218, 3) := by decide +kernel
theorem dX12_readOperand_67 : decode cX12_readOperand 67 = .ok (.bipush 8, 2) := by decide +kernel
theorem dX12_readOperand_69 : decode cX12_readOperand 69 = .ok (.if_icmp .ne 30, 3) := by decide +kernel
theorem dX12_readOperand_72 : decode cX12_readOperand 72 = .ok (.aload_n 0, 1) := by decide +kernel
theorem dX12_readOperand_73 : decode cX12_readOperand 73 = .ok (.getfield 39, 3) := by decide +kernel
theorem dX12_readOperand_76 : decode cX12_readOperand 76 = .ok (.aload_n 0, 1) := by decide +kernel
theorem dX12_readOperand_77 : decode cX12_readOperand 77 = .ok (.getfield 161, 3) := by decide +kernel
theorem dX12_readOperand_80 : decode cX12_readOperand 80 = .ok (.iconst 1, 1) := by decide +kernel
theorem dX12_readOperand_81 : decode cX12_readOperand 81 = .ok (.isub, 1) := by decide +kernel
theorem dX12_readOperand_82 : decode cX12_readOperand 82 = .ok (.iaload, 1) := by decide +kernel
theorem dX12_readOperand_83 : decode cX12_readOperand 83 = .ok (.iconst 3, 1) := by decide +kernel
theorem dX12_readOperand_84 : decode cX12_readOperand 84 = .ok (.if_icmp .ne 15, 3) := by decide +kernel
theorem dX12_readOperand_87 : decode cX12_readOperand 87 = .ok (.aload_n 0, 1) := by decide +kernel
theorem dX12_readOperand_88 : decode cX12_readOperand 88 = .ok (.iconst 3, 1) := by decide +kernel
theorem dX12_readOperand_89 : decode cX12_readOperand 89 = .ok (.aload_n 0, 1) := by decide +kernel
theorem dX12_readOperand_90 : decode cX12_readOperand 90 = .ok (.getfield 147, 3) := by decide +kernel
theorem dX12_readOperand_93 : decode cX12_readOperand 93 = .ok (.invokevirtual 157, 3) := by decide +kernel
theorem dX12_readOperand_96 : decode cX12_readOperand 96 = .ok (.goto 96, 3) := by decide +kernel
theorem dX12_readOperand_99 : decode cX12_readOperand 99 = .ok (.iload_n 2, 1) := by decide +kernel
theorem dX12_readOperand_100 : decode cX12_readOperand 100 = .ok (.invokestatic 181, 3) := by decide +kernel
theorem dX12_readOperand_103 : decode cX12_readOperand 103 = .ok (.ifCond .eq 9, 3) := by decide +kernel
theorem dX12_readOperand_106 : decode cX12_readOperand 106 = .ok (.aload_n 0, 1) := by decide +kernel
theorem dX12_readOperand_107 : decode cX12_readOperand 107 = .ok (.invokevirtual 229, 3) := by decide +kernel
theorem dX12_readOperand_110 : decode cX12_readOperand 110 = .ok (.iconst 1, 1) := by decide +kernel
theorem dX12_readOperand_111 : decode cX12_readOperand 111 = .ok (.ireturn, 1) := by decide +kernel
theorem dX12_readOperand_112 : decode cX12_readOperand 112 = .ok (.iload_n 2, 1) := by decide +kernel
theorem dX12_readOperand_113 : decode cX12_readOperand 113 = .ok (.bipush 45, 2) := by decide +kernel
theorem dX12_readOperand_115 : decode cX12_readOperand 115 = .ok (.if_icmp .eq 9, 3) := by decide +kernel
theorem dX12_readOperand_118 : decode cX12_readOperand 118 = .ok (.iload_n 2, 1) := by decide +kernel
theorem dX12_readOperand_119 : decode cX12_readOperand 119 = .ok (.bipush 33, 2) := by decide +kernel
theorem dX12_readOperand_121 : decode cX12_readOperand 121 = .ok (.if_icmp .ne 35, 3) := by decide +kernel
theorem dX12_readOperand_124 : decode cX12_readOperand 124 = .ok (.aload_n 0, 1) := by decide +kernel
theorem dX12_readOperand_125 : decode cX12_readOperand 125 = .ok (.aload_n 0, 1) := by decide +kernel
theorem dX12_readOperand_126 : decode cX12_readOperand 126 = .ok (.getfield 147, 3) := by decide +kernel
theorem dX12_readOperand_129 : decode cX12_readOperand 129 = .ok (.invokevirtual 178, 3) := by decide +kernel
theorem dX12_readOperand_132 : decode cX12_readOperand 132 = .ok (.ifCond .eq 60, 3) := by decide +kernel
theorem dX12_readOperand_135 : decode cX12_readOperand 135 = .ok (.aload_n 0, 1) := by decide +kernel
theorem dX12_readOperand_136 : decode cX12_readOperand 136 = .ok (.bipush 6, 2) := by decide +kernel
theorem dX12_readOperand_138 : decode cX12_readOperand 138 = .ok (.iconst 0, 1) := by decide +kernel
theorem dX12_readOperand_139 : decode cX12_readOperand 139 = .ok (.iload_n 2, 1) := by decide +kernel
theorem dX12_readOperand_140 : decode cX12_readOperand 140 = .ok (.invokevirtual 198, 3) := by decide +kernel
theorem dX12_readOperand_143 : decode cX12_readOperand 143 = .ok (.aload_n 0, 1) := by decide +kernel
theorem dX12_readOperand_144 : decode cX12_readOperand 144 = .ok (.dup, 1) := by decide +kernel
theorem dX12_readOperand_145 : decode cX12_readOperand 145 = .ok (.getfield 147, 3) := by decide +kernel
theorem dX12_readOperand_148 : decode cX12_readOperand 148 = .ok (.iconst 1, 1) := by decide +kernel
theorem dX12_readOperand_149 : decode cX12_readOperand 149 = .ok (.iadd, 1) := by decide +kernel
theorem dX12_readOperand_150 : decode cX12_readOperand 150 = .ok (.putfield 147, 3) := by decide +kernel
theorem dX12_readOperand_153 : decode cX12_readOperand 153 = .ok (.goto 39, 3) := by decide +kernel
theorem dX12_readOperand_156 : decode cX12_readOperand 156 = .ok (.iload_n 2, 1) := by decide +kernel
theorem dX12_readOperand_157 : decode cX12_readOperand 157 = .ok (.bipush 40, 2) := by decide +kernel
theorem dX12_readOperand_159 : decode cX12_readOperand 159 = .ok (.if_icmp .ne 12, 3) := by decide +kernel
theorem dX12_readOperand_162 : decode cX12_readOperand 162 = .ok (.aload_n 0, 1) := by decide +kernel
theorem dX12_readOperand_163 : decode cX12_readOperand 163 = .ok (.iconst 0, 1) := by decide +kernel
theorem dX12_readOperand_164 : decode cX12_readOperand 164 = .ok (.iconst 0, 1) := by decide +kernel
theorem dX12_readOperand_165 : decode cX12_readOperand 165 = .ok (.invokevirtual 215, 3) := by decide +kernel
theorem dX12_readOperand_168 : decode cX12_readOperand 168 = .ok (.goto 24, 3) := by decide +kernel
theorem dX12_readOperand_171 : decode cX12_readOperand 171 = .ok (.iload_n 2, 1) := by decide +kernel
theorem dX12_readOperand_172 : decode cX12_readOperand 172 = .ok (.invokestatic 134, 3) := by decide +kernel
theorem dX12_readOperand_175 : decode cX12_readOperand 175 = .ok (.ifCond .eq 8, 3) := by decide +kernel
theorem dX12_readOperand_178 : decode cX12_readOperand 178 = .ok (.aload_n 0, 1) := by decide +kernel
theorem dX12_readOperand_179 : decode cX12_readOperand 179 = .ok (.invokevirtual 232, 3) := by decide +kernel
theorem dX12_readOperand_182 : decode cX12_readOperand 182 = .ok (.ireturn, 1) := by decide +kernel
theorem dX12_readOperand_183 : decode cX12_readOperand 183 = .ok (.aload_n 0, 1) := by decide +kernel
theorem dX12_readOperand_184 : decode cX12_readOperand 184 = .ok (.iconst 1, 1) := by decide +kernel
theorem dX12_readOperand_185 : decode cX12_readOperand 185 = .ok (.aload_n 0, 1) := by decide +kernel
theorem dX12_readOperand_186 : decode cX12_readOperand 186 = .ok (.getfield 147, 3) := by decide +kernel
theorem dX12_readOperand_189 : decode cX12_readOperand 189 = .ok (.invokevirtual 157, 3) := by decide +kernel
theorem dX12_readOperand_192 : decode cX12_readOperand 192 = .ok (.iconst 0, 1) := by decide +kernel
theorem dX12_readOperand_193 : decode cX12_readOperand 193 = .ok (.ireturn, 1) := by decide +kernel
theorem dX12_close_0 : decode cX12_close 0 = .ok (.aload_n 0, 1) := by decide +kernel
theorem dX12_close_1 : decode cX12_close 1 = .ok (.invokevirtual 235, 3) := by decide +kernel
theorem dX12_close_4 : decode cX12_close 4 = .ok (.aload_n 0, 1) := by decide +kernel
theorem dX12_close_5 : decode cX12_close 5 = .ok (.invokevirtual 218, 3) := by decide +kernel
theorem dX12_close_8 : decode cX12_close 8 = .ok (.ifCond .ne 36, 3) := by decide +kernel
theorem dX12_close_11 : decode cX12_close 11 = .ok (.aload_n 0, 1) := by decide +kernel
theorem dX12_close_12 : decode cX12_close 12 = .ok (.dup, 1) := by decide +kernel
theorem dX12_close_13 : decode cX12_close 13 = .ok (.getfield 161, 3) := by decide +kernel
theorem dX12_close_16 : decode cX12_close 16 = .ok (.iconst 1, 1) := by decide +kernel
theorem dX12_close_17 : decode cX12_close 17 = .ok (.isub, 1) := by decide +kernel
theorem dX12_close_18 : decode cX12_close 18 = .ok (.putfield 161, 3) := by decide +kernel
theorem dX12_close_21 : decode cX12_close 21 = .ok (.aload_n 0, 1) := by decide +kernel
theorem dX12_close_22 : decode cX12_close 22 = .ok (.dup, 1) := by decide +kernel
theorem dX12_close_23 : decode cX12_close 23 = .ok (.getfield 195, 3) := by decide +kernel
theorem dX12_close_26 : decode cX12_close 26 = .ok (.iconst 1, 1) := by decide +kernel
theorem dX12_close_27 : decode cX12_close 27 = .ok (.isub, 1) := by decide +kernel
theorem dX12_close_28 : decode cX12_close 28 = .ok (.putfield 195, 3) := by decide +kernel
theorem dX12_close_31 : decode cX12_close 31 = .ok (.aload_n 0, 1) := by decide +kernel
theorem dX12_close_32 : decode cX12_close 32 = .ok (.dup, 1) := by decide +kernel
theorem dX12_close_33 : decode cX12_close 33 = .ok (.getfield 147, 3) := by decide +kernel
theorem dX12_close_36 : decode cX12_close 36 = .ok (.iconst 1, 1) := by decide +kernel
theorem dX12_close_37 : decode cX12_close 37 = .ok (.iadd, 1) := by decide +kernel
theorem dX12_close_38 : decode cX12_close 38 = .ok (.putfield 147, 3) := by decide +kernel
theorem dX12_close_41 : decode cX12_close 41 = .ok (.goto 123, 3) := by decide +kernel
theorem dX12_close_44 : decode cX12_close 44 = .ok (.aload_n 0, 1) := by decide +kernel
theorem dX12_close_45 : decode cX12_close 45 = .ok (.invokevirtual 218, 3) := by decide +kernel
theorem dX12_close_48 : decode cX12_close 48 = .ok (.bipush 8, 2) := by decide +kernel
theorem dX12_close_50 : decode cX12_close 50 = .ok (.if_icmp .ne 105, 3) := by decide +kernel
theorem dX12_close_53 : decode cX12_close 53 = .ok (.aload_n 0, 1) := by decide +kernel
theorem dX12_close_54 : decode cX12_close 54 = .ok (.dup, 1) := by decide +kernel
theorem dX12_close_55 : decode cX12_close 55 = .ok (.getfield 161, 3) := by decide +kernel
theorem dX12_close_58 : decode cX12_close 58 = .ok (.iconst 1, 1) := by decide +kernel
theorem dX12_close_59 : decode cX12_close 59 = .ok (.isub, 1) := by decide +kernel
theorem dX12_close_60 : decode cX12_close 60 = .ok (.putfield 161, 3) := by decide +kernel
theorem dX12_close_63 : decode cX12_close 63 = .ok (.aload_n 0, 1) := by decide +kernel
theorem dX12_close_64 : decode cX12_close 64 = .ok (.dup, 1) := by decide +kernel
theorem dX12_close_65 : decode cX12_close 65 = .ok (.getfield 195, 3) := by decide +kernel
theorem dX12_close_68 : decode cX12_close 68 = .ok (.iconst 1, 1) := by decide +kernel
theorem dX12_close_69 : decode cX12_close 69 = .ok (.isub, 1) := by decide +kernel
theorem dX12_close_70 : decode cX12_close 70 = .ok (.putfield 195, 3) := by decide +kernel
theorem dX12_close_73 : decode cX12_close 73 = .ok (.aload_n 0, 1) := by decide +kernel
theorem dX12_close_74 : decode cX12_close 74 = .ok (.getfield 36, 3) := by decide +kernel
theorem dX12_close_77 : decode cX12_close 77 = .ok (.aload_n 0, 1) := by decide +kernel
theorem dX12_close_78 : decode cX12_close 78 = .ok (.getfield 161, 3) := by decide +kernel
theorem dX12_close_81 : decode cX12_close 81 = .ok (.iaload, 1) := by decide +kernel
theorem dX12_close_82 : decode cX12_close 82 = .ok (.istore_n 1, 1) := by decide +kernel
theorem dX12_close_83 : decode cX12_close 83 = .ok (.aload_n 0, 1) := by decide +kernel
theorem dX12_close_84 : decode cX12_close 84 = .ok (.getfield 144, 3) := by decide +kernel
theorem dX12_close_87 : decode cX12_close 87 = .ok (.iload_n 1, 1) := by decide +kernel
theorem dX12_close_88 : decode cX12_close 88 = .ok (.if_icmp .ne 7, 3) := by decide +kernel
theorem dX12_close_91 : decode cX12_close 91 = .ok (.iconst 0, 1) := by decide +kernel
theorem dX12_close_92 : decode cX12_close 92 = .ok (.goto 14, 3) := by decide +kernel
theorem dX12_close_95 : decode cX12_close 95 = .ok (.aload_n 0, 1) := by decide +kernel
theorem dX12_close_96 : decode cX12_close 96 = .ok (.getfield 39, 3) := by decide +kernel
theorem dX12_close_99 : decode cX12_close 99 = .ok (.aload_n 0, 1) := by decide +kernel
theorem dX12_close_100 : decode cX12_close 100 = .ok (.getfield 161, 3) := by decide +kernel
theorem dX12_close_103 : decode cX12_close 103 = .ok (.iaload, 1) := by decide +kernel
theorem dX12_close_104 : decode cX12_close 104 = .ok (.iconst 1, 1) := by decide +kernel
theorem dX12_close_105 : decode cX12_close 105 = .ok (.iadd, 1) := by decide +kernel
theorem dX12_close_106 : decode cX12_close 106 = .ok (.istore_n 2, 1) := by decide +kernel
theorem dX12_close_107 : decode cX12_close 107 = .ok (.aload_n 0, 1) := by decide +kernel
theorem dX12_close_108 : decode cX12_close 108 = .ok (.aload_n 0, 1) := by decide +kernel
theorem dX12_close_109 : decode cX12_close 109 = .ok (.getfield 164, 3) := by decide +kernel
theorem dX12_close_112 : decode cX12_close 112 = .ok (.iload_n 2, 1) := by decide +kernel
theorem dX12_close_113 : decode cX12_close 113 = .ok (.isub, 1) := by decide +kernel
theorem dX12_close_114 : decode cX12_close 114 = .ok (.putfield 164, 3) := by decide +kernel
theorem dX12_close_117 : decode cX12_close 117 = .ok (.aload_n 0, 1) := by decide +kernel
theorem dX12_close_118 : decode cX12_close 118 = .ok (.iload_n 1, 1) := by decide +kernel
theorem dX12_close_119 : decode cX12_close 119 = .ok (.invokevirtual 192, 3) := by decide +kernel


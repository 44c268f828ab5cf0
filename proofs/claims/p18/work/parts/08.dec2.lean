theorem dX12_smallNumber_37 : decode cX12_smallNumber 37 = .ok (.aload_n 0, 1) := by decide +kernel
theorem dX12_smallNumber_38 : decode cX12_smallNumber 38 = .ok (.getfield 147, 3) := by decide +kernel
theorem dX12_smallNumber_41 : decode cX12_smallNumber 41 = .ok (.invokevirtual 130, 3) := by decide +kernel
theorem dX12_smallNumber_44 : decode cX12_smallNumber 44 = .ok (.invokestatic 181, 3) := by decide +kernel
theorem dX12_smallNumber_47 : decode cX12_smallNumber 47 = .ok (.ifCond .eq 48, 3) := by decide +kernel
theorem dX12_smallNumber_50 : decode cX12_smallNumber 50 = .ok (.iload_n 3, 1) := by decide +kernel
theorem dX12_smallNumber_51 : decode cX12_smallNumber 51 = .ok (.bipush 10, 2) := by decide +kernel
theorem dX12_smallNumber_53 : decode cX12_smallNumber 53 = .ok (.imul, 1) := by decide +kernel
theorem dX12_smallNumber_54 : decode cX12_smallNumber 54 = .ok (.aload_n 0, 1) := by decide +kernel
theorem dX12_smallNumber_55 : decode cX12_smallNumber 55 = .ok (.aload_n 0, 1) := by decide +kernel
theorem dX12_smallNumber_56 : decode cX12_smallNumber 56 = .ok (.getfield 147, 3) := by decide +kernel
theorem dX12_smallNumber_59 : decode cX12_smallNumber 59 = .ok (.invokevirtual 130, 3) := by decide +kernel
theorem dX12_smallNumber_62 : decode cX12_smallNumber 62 = .ok (.iadd, 1) := by decide +kernel
theorem dX12_smallNumber_63 : decode cX12_smallNumber 63 = .ok (.bipush 48, 2) := by decide +kernel
theorem dX12_smallNumber_65 : decode cX12_smallNumber 65 = .ok (.isub, 1) := by decide +kernel
theorem dX12_smallNumber_66 : decode cX12_smallNumber 66 = .ok (.istore_n 3, 1) := by decide +kernel
theorem dX12_smallNumber_67 : decode cX12_smallNumber 67 = .ok (.iload_n 3, 1) := by decide +kernel
theorem dX12_smallNumber_68 : decode cX12_smallNumber 68 = .ok (.sipush 999, 3) := by decide +kernel
theorem dX12_smallNumber_71 : decode cX12_smallNumber 71 = .ok (.if_icmp .le 9, 3) := by decide +kernel
theorem dX12_smallNumber_74 : decode cX12_smallNumber 74 = .ok (.sipush 999, 3) := by decide +kernel
theorem dX12_smallNumber_77 : decode cX12_smallNumber 77 = .ok (.goto 4, 3) := by decide +kernel
theorem dX12_smallNumber_80 : decode cX12_smallNumber 80 = .ok (.iload_n 3, 1) := by decide +kernel
theorem dX12_smallNumber_81 : decode cX12_smallNumber 81 = .ok (.istore_n 3, 1) := by decide +kernel
theorem dX12_smallNumber_82 : decode cX12_smallNumber 82 = .ok (.aload_n 0, 1) := by decide +kernel
theorem dX12_smallNumber_83 : decode cX12_smallNumber 83 = .ok (.dup, 1) := by decide +kernel
theorem dX12_smallNumber_84 : decode cX12_smallNumber 84 = .ok (.getfield 147, 3) := by decide +kernel
theorem dX12_smallNumber_87 : decode cX12_smallNumber 87 = .ok (.iconst 1, 1) := by decide +kernel
theorem dX12_smallNumber_88 : decode cX12_smallNumber 88 = .ok (.iadd, 1) := by decide +kernel
theorem dX12_smallNumber_89 : decode cX12_smallNumber 89 = .ok (.putfield 147, 3) := by decide +kernel
theorem dX12_smallNumber_92 : decode cX12_smallNumber 92 = .ok (.goto (-56), 3) := by decide +kernel
theorem dX12_smallNumber_95 : decode cX12_smallNumber 95 = .ok (.iload_n 3, 1) := by decide +kernel
theorem dX12_smallNumber_96 : decode cX12_smallNumber 96 = .ok (.iload_n 1, 1) := by decide +kernel
theorem dX12_smallNumber_97 : decode cX12_smallNumber 97 = .ok (.if_icmp .lt 9, 3) := by decide +kernel
theorem dX12_smallNumber_100 : decode cX12_smallNumber 100 = .ok (.iload_n 3, 1) := by decide +kernel
theorem dX12_smallNumber_101 : decode cX12_smallNumber 101 = .ok (.bipush 99, 2) := by decide +kernel
theorem dX12_smallNumber_103 : decode cX12_smallNumber 103 = .ok (.if_icmp .le 9, 3) := by decide +kernel
theorem dX12_smallNumber_106 : decode cX12_smallNumber 106 = .ok (.aload_n 0, 1) := by decide +kernel
theorem dX12_smallNumber_107 : decode cX12_smallNumber 107 = .ok (.iconst 2, 1) := by decide +kernel
theorem dX12_smallNumber_108 : decode cX12_smallNumber 108 = .ok (.iload_n 2, 1) := by decide +kernel
theorem dX12_smallNumber_109 : decode cX12_smallNumber 109 = .ok (.invokevirtual 157, 3) := by decide +kernel
theorem dX12_smallNumber_112 : decode cX12_smallNumber 112 = .ok (.aload_n 0, 1) := by decide +kernel
theorem dX12_smallNumber_113 : decode cX12_smallNumber 113 = .ok (.invokevirtual 287, 3) := by decide +kernel
theorem dX12_smallNumber_116 : decode cX12_smallNumber 116 = .ok (.iload_n 3, 1) := by decide +kernel
theorem dX12_smallNumber_117 : decode cX12_smallNumber 117 = .ok (.ireturn, 1) := by decide +kernel
theorem dX12_freeJob_0 : decode cX12_freeJob 0 = .ok (.iconst 0, 1) := by decide +kernel
theorem dX12_freeJob_1 : decode cX12_freeJob 1 = .ok (.istore_n 1, 1) := by decide +kernel
theorem dX12_freeJob_2 : decode cX12_freeJob 2 = .ok (.iload_n 1, 1) := by decide +kernel
theorem dX12_freeJob_3 : decode cX12_freeJob 3 = .ok (.bipush 8, 2) := by decide +kernel
theorem dX12_freeJob_5 : decode cX12_freeJob 5 = .ok (.if_icmp .ge 20, 3) := by decide +kernel
theorem dX12_freeJob_8 : decode cX12_freeJob 8 = .ok (.aload_n 0, 1) := by decide +kernel
theorem dX12_freeJob_9 : decode cX12_freeJob 9 = .ok (.getfield 48, 3) := by decide +kernel
theorem dX12_freeJob_12 : decode cX12_freeJob 12 = .ok (.iload_n 1, 1) := by decide +kernel
theorem dX12_freeJob_13 : decode cX12_freeJob 13 = .ok (.iaload, 1) := by decide +kernel
theorem dX12_freeJob_14 : decode cX12_freeJob 14 = .ok (.ifCond .ne 5, 3) := by decide +kernel
theorem dX12_freeJob_17 : decode cX12_freeJob 17 = .ok (.iload_n 1, 1) := by decide +kernel
theorem dX12_freeJob_18 : decode cX12_freeJob 18 = .ok (.ireturn, 1) := by decide +kernel
theorem dX12_freeJob_19 : decode cX12_freeJob 19 = .ok (.iinc 1 1, 3) := by decide +kernel
theorem dX12_freeJob_22 : decode cX12_freeJob 22 = .ok (.goto (-20), 3) := by decide +kernel
theorem dX12_freeJob_25 : decode cX12_freeJob 25 = .ok (.iconst (-1), 1) := by decide +kernel
theorem dX12_freeJob_26 : decode cX12_freeJob 26 = .ok (.ireturn, 1) := by decide +kernel
theorem dX12_newJob_0 : decode cX12_newJob 0 = .ok (.aload_n 0, 1) := by decide +kernel
theorem dX12_newJob_1 : decode cX12_newJob 1 = .ok (.getfield 48, 3) := by decide +kernel
theorem dX12_newJob_4 : decode cX12_newJob 4 = .ok (.iload_n 2, 1) := by decide +kernel
theorem dX12_newJob_5 : decode cX12_newJob 5 = .ok (.iload_n 1, 1) := by decide +kernel
theorem dX12_newJob_6 : decode cX12_newJob 6 = .ok (.iastore, 1) := by decide +kernel
theorem dX12_newJob_7 : decode cX12_newJob 7 = .ok (.aload_n 0, 1) := by decide +kernel
theorem dX12_newJob_8 : decode cX12_newJob 8 = .ok (.getfield 57, 3) := by decide +kernel
theorem dX12_newJob_11 : decode cX12_newJob 11 = .ok (.iload_n 2, 1) := by decide +kernel
theorem dX12_newJob_12 : decode cX12_newJob 12 = .ok (.iconst 0, 1) := by decide +kernel
theorem dX12_newJob_13 : decode cX12_newJob 13 = .ok (.iastore, 1) := by decide +kernel
theorem dX12_newJob_14 : decode cX12_newJob 14 = .ok (.aload_n 0, 1) := by decide +kernel
theorem dX12_newJob_15 : decode cX12_newJob 15 = .ok (.getfield 54, 3) := by decide +kernel
theorem dX12_newJob_18 : decode cX12_newJob 18 = .ok (.iload_n 2, 1) := by decide +kernel
theorem dX12_newJob_19 : decode cX12_newJob 19 = .ok (.iconst 0, 1) := by decide +kernel
theorem dX12_newJob_20 : decode cX12_newJob 20 = .ok (.iastore, 1) := by decide +kernel
theorem dX12_newJob_21 : decode cX12_newJob 21 = .ok (.aload_n 0, 1) := by decide +kernel
theorem dX12_newJob_22 : decode cX12_newJob 22 = .ok (.getfield 60, 3) := by decide +kernel
theorem dX12_newJob_25 : decode cX12_newJob 25 = .ok (.iload_n 2, 1) := by decide +kernel
theorem dX12_newJob_26 : decode cX12_newJob 26 = .ok (.iconst 0, 1) := by decide +kernel
theorem dX12_newJob_27 : decode cX12_newJob 27 = .ok (.bastore, 1) := by decide +kernel
theorem dX12_newJob_28 : decode cX12_newJob 28 = .ok (.aload_n 0, 1) := by decide +kernel
theorem dX12_newJob_29 : decode cX12_newJob 29 = .ok (.getfield 67, 3) := by decide +kernel
theorem dX12_newJob_32 : decode cX12_newJob 32 = .ok (.iload_n 2, 1) := by decide +kernel
theorem dX12_newJob_33 : decode cX12_newJob 33 = .ok (.aload_n 0, 1) := by decide +kernel
theorem dX12_newJob_34 : decode cX12_newJob 34 = .ok (.getfield 284, 3) := by decide +kernel
theorem dX12_newJob_37 : decode cX12_newJob 37 = .ok (.iastore, 1) := by decide +kernel
theorem dX12_newJob_38 : decode cX12_newJob 38 = .ok (.iconst 0, 1) := by decide +kernel
theorem dX12_newJob_39 : decode cX12_newJob 39 = .ok (.istore_n 3, 1) := by decide +kernel
theorem dX12_newJob_40 : decode cX12_newJob 40 = .ok (.iload_n 3, 1) := by decide +kernel
theorem dX12_newJob_41 : decode cX12_newJob 41 = .ok (.aload_n 0, 1) := by decide +kernel
theorem dX12_newJob_42 : decode cX12_newJob 42 = .ok (.getfield 284, 3) := by decide +kernel
theorem dX12_newJob_45 : decode cX12_newJob 45 = .ok (.if_icmp .ge 26, 3) := by decide +kernel
theorem dX12_newJob_48 : decode cX12_newJob 48 = .ok (.aload_n 0, 1) := by decide +kernel
theorem dX12_newJob_49 : decode cX12_newJob 49 = .ok (.getfield 64, 3) := by decide +kernel
theorem dX12_newJob_52 : decode cX12_newJob 52 = .ok (.bipush 12, 2) := by decide +kernel
theorem dX12_newJob_54 : decode cX12_newJob 54 = .ok (.iload_n 2, 1) := by decide +kernel
theorem dX12_newJob_55 : decode cX12_newJob 55 = .ok (.imul, 1) := by decide +kernel
theorem dX12_newJob_56 : decode cX12_newJob 56 = .ok (.iload_n 3, 1) := by decide +kernel
theorem dX12_newJob_57 : decode cX12_newJob 57 = .ok (.iadd, 1) := by decide +kernel
theorem dX12_newJob_58 : decode cX12_newJob 58 = .ok (.aload_n 0, 1) := by decide +kernel
theorem dX12_newJob_59 : decode cX12_newJob 59 = .ok (.getfield 70, 3) := by decide +kernel
theorem dX12_newJob_62 : decode cX12_newJob 62 = .ok (.iload_n 3, 1) := by decide +kernel
theorem dX12_newJob_63 : decode cX12_newJob 63 = .ok (.iaload, 1) := by decide +kernel
theorem dX12_newJob_64 : decode cX12_newJob 64 = .ok (.iastore, 1) := by decide +kernel
theorem dX12_newJob_65 : decode cX12_newJob 65 = .ok (.iinc 3 1, 3) := by decide +kernel
theorem dX12_newJob_68 : decode cX12_newJob 68 = .ok (.goto (-28), 3) := by decide +kernel
theorem dX12_newJob_71 : decode cX12_newJob 71 = .ok (.iconst 0, 1) := by decide +kernel
theorem dX12_newJob_72 : decode cX12_newJob 72 = .ok (.istore_n 3, 1) := by decide +kernel
theorem dX12_newJob_73 : decode cX12_newJob 73 = .ok (.iload_n 3, 1) := by decide +kernel
theorem dX12_newJob_74 : decode cX12_newJob 74 = .ok (.bipush 48, 2) := by decide +kernel
theorem dX12_newJob_76 : decode cX12_newJob 76 = .ok (.if_icmp .ge 21, 3) := by decide +kernel
theorem dX12_newJob_79 : decode cX12_newJob 79 = .ok (.aload_n 0, 1) := by decide +kernel
theorem dX12_newJob_80 : decode cX12_newJob 80 = .ok (.getfield 73, 3) := by decide +kernel
theorem dX12_newJob_83 : decode cX12_newJob 83 = .ok (.bipush 48, 2) := by decide +kernel
theorem dX12_newJob_85 : decode cX12_newJob 85 = .ok (.iload_n 2, 1) := by decide +kernel
theorem dX12_newJob_86 : decode cX12_newJob 86 = .ok (.imul, 1) := by decide +kernel
theorem dX12_newJob_87 : decode cX12_newJob 87 = .ok (.iload_n 3, 1) := by decide +kernel
theorem dX12_newJob_88 : decode cX12_newJob 88 = .ok (.iadd, 1) := by decide +kernel
theorem dX12_newJob_89 : decode cX12_newJob 89 = .ok (.iconst 0, 1) := by decide +kernel
theorem dX12_newJob_90 : decode cX12_newJob 90 = .ok (.iastore, 1) := by decide +kernel
theorem dX12_newJob_91 : decode cX12_newJob 91 = .ok (.iinc 3 1, 3) := by decide +kernel
theorem dX12_newJob_94 : decode cX12_newJob 94 = .ok (.goto (-21), 3) := by decide +kernel
theorem dX12_newJob_97 : decode cX12_newJob 97 = .ok (.iload_n 2, 1) := by decide +kernel
theorem dX12_newJob_98 : decode cX12_newJob 98 = .ok (.ireturn, 1) := by decide +kernel
theorem dX12_readPoint_0 : decode cX12_readPoint 0 = .ok (.aload_n 0, 1) := by decide +kernel
theorem dX12_readPoint_1 : decode cX12_readPoint 1 = .ok (.invokevirtual 281, 3) := by decide +kernel
theorem dX12_readPoint_4 : decode cX12_readPoint 4 = .ok (.aload_n 0, 1) := by decide +kernel
theorem dX12_readPoint_5 : decode cX12_readPoint 5 = .ok (.getfield 147, 3) := by decide +kernel
theorem dX12_readPoint_8 : decode cX12_readPoint 8 = .ok (.istore_n 1, 1) := by decide +kernel
theorem dX12_readPoint_9 : decode cX12_readPoint 9 = .ok (.aload_n 0, 1) := by decide +kernel
theorem dX12_readPoint_10 : decode cX12_readPoint 10 = .ok (.aload_n 0, 1) := by decide +kernel
theorem dX12_readPoint_11 : decode cX12_readPoint 11 = .ok (.getfield 147, 3) := by decide +kernel
theorem dX12_readPoint_14 : decode cX12_readPoint 14 = .ok (.invokevirtual 290, 3) := by decide +kernel
theorem dX12_readPoint_17 : decode cX12_readPoint 17 = .ok (.lstore_n 2, 1) := by decide +kernel
theorem dX12_readPoint_18 : decode cX12_readPoint 18 = .ok (.aload_n 0, 1) := by decide +kernel
theorem dX12_readPoint_19 : decode cX12_readPoint 19 = .ok (.aload_n 0, 1) := by decide +kernel
theorem dX12_readPoint_20 : decode cX12_readPoint 20 = .ok (.getfield 147, 3) := by decide +kernel
theorem dX12_readPoint_23 : decode cX12_readPoint 23 = .ok (.invokevirtual 205, 3) := by decide +kernel
theorem dX12_readPoint_26 : decode cX12_readPoint 26 = .ok (.istore 4, 2) := by decide +kernel
theorem dX12_readPoint_28 : decode cX12_readPoint 28 = .ok (.iconst (-1), 1) := by decide +kernel
theorem dX12_readPoint_29 : decode cX12_readPoint 29 = .ok (.istore 5, 2) := by decide +kernel
theorem dX12_readPoint_31 : decode cX12_readPoint 31 = .ok (.iload 4, 2) := by decide +kernel
theorem dX12_readPoint_33 : decode cX12_readPoint 33 = .ok (.iconst 5, 1) := by decide +kernel
theorem dX12_readPoint_34 : decode cX12_readPoint 34 = .ok (.if_icmp .ne 33, 3) := by decide +kernel
theorem dX12_readPoint_37 : decode cX12_readPoint 37 = .ok (.lload_n 2, 1) := by decide +kernel
theorem dX12_readPoint_38 : decode cX12_readPoint 38 = .ok (.iconst 0, 1) := by decide +kernel
theorem dX12_readPoint_39 : decode cX12_readPoint 39 = .ok (.iconst 5, 1) := by decide +kernel
theorem dX12_readPoint_40 : decode cX12_readPoint 40 = .ok (.bipush 14, 2) := by decide +kernel
theorem dX12_readPoint_42 : decode cX12_readPoint 42 = .ok (.bipush 20, 2) := by decide +kernel
theorem dX12_readPoint_44 : decode cX12_readPoint 44 = .ok (.invokestatic 294, 3) := by decide +kernel
theorem dX12_readPoint_47 : decode cX12_readPoint 47 = .ok (.bipush 10, 2) := by decide +kernel
theorem dX12_readPoint_49 : decode cX12_readPoint 49 = .ok (.lshl, 1) := by decide +kernel
theorem dX12_readPoint_50 : decode cX12_readPoint 50 = .ok (.iconst 0, 1) := by decide +kernel
theorem dX12_readPoint_51 : decode cX12_readPoint 51 = .ok (.iconst 0, 1) := by decide +kernel
theorem dX12_readPoint_52 : decode cX12_readPoint 52 = .ok (.iconst 5, 1) := by decide +kernel
theorem dX12_readPoint_53 : decode cX12_readPoint 53 = .ok (.bipush 18, 2) := by decide +kernel
theorem dX12_readPoint_55 : decode cX12_readPoint 55 = .ok (.invokestatic 294, 3) := by decide +kernel
theorem dX12_readPoint_58 : decode cX12_readPoint 58 = .ok (.lor, 1) := by decide +kernel
theorem dX12_readPoint_59 : decode cX12_readPoint 59 = .ok (.lcmp, 1) := by decide +kernel
theorem dX12_readPoint_60 : decode cX12_readPoint 60 = .ok (.ifCond .ne 7, 3) := by decide +kernel
theorem dX12_readPoint_63 : decode cX12_readPoint 63 = .ok (.iconst 0, 1) := by decide +kernel
theorem dX12_readPoint_64 : decode cX12_readPoint 64 = .ok (.goto 5, 3) := by decide +kernel
theorem dX12_readPoint_67 : decode cX12_readPoint 67 = .ok (.iload 5, 2) := by decide +kernel
theorem dX12_readPoint_69 : decode cX12_readPoint 69 = .ok (.istore 5, 2) := by decide +kernel
theorem dX12_readPoint_71 : decode cX12_readPoint 71 = .ok (.iload 4, 2) := by decide +kernel
theorem dX12_readPoint_73 : decode cX12_readPoint 73 = .ok (.bipush 6, 2) := by decide +kernel
theorem dX12_readPoint_75 : decode cX12_readPoint 75 = .ok (.if_icmp .ne 35, 3) := by decide +kernel
theorem dX12_readPoint_78 : decode cX12_readPoint 78 = .ok (.lload_n 2, 1) := by decide +kernel
theorem dX12_readPoint_79 : decode cX12_readPoint 79 = .ok (.bipush 18, 2) := by decide +kernel
theorem dX12_readPoint_81 : decode cX12_readPoint 81 = .ok (.iconst 5, 1) := by decide +kernel
theorem dX12_readPoint_82 : decode cX12_readPoint 82 = .ok (.bipush 20, 2) := by decide +kernel
theorem dX12_readPoint_84 : decode cX12_readPoint 84 = .ok (.bipush 21, 2) := by decide +kernel
theorem dX12_readPoint_86 : decode cX12_readPoint 86 = .ok (.invokestatic 294, 3) := by decide +kernel
theorem dX12_readPoint_89 : decode cX12_readPoint 89 = .ok (.bipush 10, 2) := by decide +kernel
theorem dX12_readPoint_91 : decode cX12_readPoint 91 = .ok (.lshl, 1) := by decide +kernel
theorem dX12_readPoint_92 : decode cX12_readPoint 92 = .ok (.iconst 0, 1) := by decide +kernel
theorem dX12_readPoint_93 : decode cX12_readPoint 93 = .ok (.iconst 0, 1) := by decide +kernel
theorem dX12_readPoint_94 : decode cX12_readPoint 94 = .ok (.bipush 18, 2) := by decide +kernel
theorem dX12_readPoint_96 : decode cX12_readPoint 96 = .ok (.bipush 14, 2) := by decide +kernel
theorem dX12_readPoint_98 : decode cX12_readPoint 98 = .ok (.invokestatic 294, 3) := by decide +kernel
theorem dX12_readPoint_101 : decode cX12_readPoint 101 = .ok (.lor, 1) := by decide +kernel
theorem dX12_readPoint_102 : decode cX12_readPoint 102 = .ok (.lcmp, 1) := by decide +kernel
theorem dX12_readPoint_103 : decode cX12_readPoint 103 = .ok (.ifCond .ne 7, 3) := by decide +kernel
theorem dX12_readPoint_106 : decode cX12_readPoint 106 = .ok (.iconst 1, 1) := by decide +kernel
theorem dX12_readPoint_107 : decode cX12_readPoint 107 = .ok (.goto 5, 3) := by decide +kernel
theorem dX12_readPoint_110 : decode cX12_readPoint 110 = .ok (.iload 5, 2) := by decide +kernel
theorem dX12_readPoint_112 : decode cX12_readPoint 112 = .ok (.istore 5, 2) := by decide +kernel
theorem dX12_readPoint_114 : decode cX12_readPoint 114 = .ok (.iload 4, 2) := by decide +kernel
theorem dX12_readPoint_116 : decode cX12_readPoint 116 = .ok (.iconst 5, 1) := by decide +kernel
theorem dX12_readPoint_117 : decode cX12_readPoint 117 = .ok (.if_icmp .ne 35, 3) := by decide +kernel
theorem dX12_readPoint_120 : decode cX12_readPoint 120 = .ok (.lload_n 2, 1) := by decide +kernel
theorem dX12_readPoint_121 : decode cX12_readPoint 121 = .ok (.iconst 0, 1) := by decide +kernel
theorem dX12_readPoint_122 : decode cX12_readPoint 122 = .ok (.bipush 20, 2) := by decide +kernel
theorem dX12_readPoint_124 : decode cX12_readPoint 124 = .ok (.bipush 8, 2) := by decide +kernel
theorem dX12_readPoint_126 : decode cX12_readPoint 126 = .ok (.bipush 18, 2) := by decide +kernel
theorem dX12_readPoint_128 : decode cX12_readPoint 128 = .ok (.invokestatic 294, 3) := by decide +kernel
theorem dX12_readPoint_131 : decode cX12_readPoint 131 = .ok (.bipush 10, 2) := by decide +kernel
theorem dX12_readPoint_133 : decode cX12_readPoint 133 = .ok (.lshl, 1) := by decide +kernel
theorem dX12_readPoint_134 : decode cX12_readPoint 134 = .ok (.iconst 0, 1) := by decide +kernel
theorem dX12_readPoint_135 : decode cX12_readPoint 135 = .ok (.iconst 0, 1) := by decide +kernel
theorem dX12_readPoint_136 : decode cX12_readPoint 136 = .ok (.bipush 15, 2) := by decide +kernel
theorem dX12_readPoint_138 : decode cX12_readPoint 138 = .ok (.bipush 23, 2) := by decide +kernel
theorem dX12_readPoint_140 : decode cX12_readPoint 140 = .ok (.invokestatic 294, 3) := by decide +kernel
theorem dX12_readPoint_143 : decode cX12_readPoint 143 = .ok (.lor, 1) := by decide +kernel
theorem dX12_readPoint_144 : decode cX12_readPoint 144 = .ok (.lcmp, 1) := by decide +kernel
theorem dX12_readPoint_145 : decode cX12_readPoint 145 = .ok (.ifCond .ne 7, 3) := by decide +kernel
theorem dX12_readPoint_148 : decode cX12_readPoint 148 = .ok (.iconst 2, 1) := by decide +kernel
theorem dX12_readPoint_149 : decode cX12_readPoint 149 = .ok (.goto 5, 3) := by decide +kernel
theorem dX12_readPoint_152 : decode cX12_readPoint 152 = .ok (.iload 5, 2) := by decide +kernel
theorem dX12_readPoint_154 : decode cX12_readPoint 154 = .ok (.istore 5, 2) := by decide +kernel
theorem dX12_readPoint_156 : decode cX12_readPoint 156 = .ok (.iload 5, 2) := by decide +kernel
theorem dX12_readPoint_158 : decode cX12_readPoint 158 = .ok (.ifCond .lt 14, 3) := by decide +kernel
theorem dX12_readPoint_161 : decode cX12_readPoint 161 = .ok (.aload_n 0, 1) := by decide +kernel
theorem dX12_readPoint_162 : decode cX12_readPoint 162 = .ok (.iload_n 1, 1) := by decide +kernel
theorem dX12_readPoint_163 : decode cX12_readPoint 163 = .ok (.iload 4, 2) := by decide +kernel
theorem dX12_readPoint_165 : decode cX12_readPoint 165 = .ok (.iadd, 1) := by decide +kernel
theorem dX12_readPoint_166 : decode cX12_readPoint 166 = .ok (.invokevirtual 298, 3) := by decide +kernel
theorem dX12_readPoint_169 : decode cX12_readPoint 169 = .ok (.ifCond .ne 11, 3) := by decide +kernel
theorem dX12_readPoint_172 : decode cX12_readPoint 172 = .ok (.aload_n 0, 1) := by decide +kernel
theorem dX12_readPoint_173 : decode cX12_readPoint 173 = .ok (.iconst 1, 1) := by decide +kernel
theorem dX12_readPoint_174 : decode cX12_readPoint 174 = .ok (.iload_n 1, 1) := by decide +kernel
theorem dX12_readPoint_175 : decode cX12_readPoint 175 = .ok (.invokevirtual 157, 3) := by decide +kernel
theorem dX12_readPoint_178 : decode cX12_readPoint 178 = .ok (.iconst (-1), 1) := by decide +kernel
theorem dX12_readPoint_179 : decode cX12_readPoint 179 = .ok (.ireturn, 1) := by decide +kernel
theorem dX12_readPoint_180 : decode cX12_readPoint 180 = .ok (.aload_n 0, 1) := by decide +kernel
theorem dX12_readPoint_181 : decode cX12_readPoint 181 = .ok (.iload_n 1, 1) := by decide +kernel
theorem dX12_readPoint_182 : decode cX12_readPoint 182 = .ok (.iload 4, 2) := by decide +kernel
theorem dX12_readPoint_184 : decode cX12_readPoint 184 = .ok (.iadd, 1) := by decide +kernel
theorem dX12_readPoint_185 : decode cX12_readPoint 185 = .ok (.putfield 147, 3) := by decide +kernel
theorem dX12_readPoint_188 : decode cX12_readPoint 188 = .ok (.iload 5, 2) := by decide +kernel
theorem dX12_readPoint_190 : decode cX12_readPoint 190 = .ok (.ireturn, 1) := by decide +kernel
theorem dX12_watch_0 : decode cX12_watch 0 = .ok (.aload_n 0, 1) := by decide +kernel
theorem dX12_watch_1 : decode cX12_watch 1 = .ok (.invokevirtual 301, 3) := by decide +kernel
theorem dX12_watch_4 : decode cX12_watch 4 = .ok (.istore_n 1, 1) := by decide +kernel
theorem dX12_watch_5 : decode cX12_watch 5 = .ok (.aload_n 0, 1) := by decide +kernel
theorem dX12_watch_6 : decode cX12_watch 6 = .ok (.getfield 123, 3) := by decide +kernel
theorem dX12_watch_9 : decode cX12_watch 9 = .ok (.ifCond .ne 7, 3) := by decide +kernel
theorem dX12_watch_12 : decode cX12_watch 12 = .ok (.aload_n 0, 1) := by decide +kernel
theorem dX12_watch_13 : decode cX12_watch 13 = .ok (.invokevirtual 304, 3) := by decide +kernel
theorem dX12_watch_16 : decode cX12_watch 16 = .ok (.aload_n 0, 1) := by decide +kernel
theorem dX12_watch_17 : decode cX12_watch 17 = .ok (.invokevirtual 307, 3) := by decide +kernel
theorem dX12_watch_20 : decode cX12_watch 20 = .ok (.istore_n 2, 1) := by decide +kernel
theorem dX12_watch_21 : decode cX12_watch 21 = .ok (.iconst 0, 1) := by decide +kernel
theorem dX12_watch_22 : decode cX12_watch 22 = .ok (.istore_n 3, 1) := by decide +kernel
theorem dX12_watch_23 : decode cX12_watch 23 = .ok (.bipush 99, 2) := by decide +kernel
theorem dX12_watch_25 : decode cX12_watch 25 = .ok (.istore 4, 2) := by decide +kernel
theorem dX12_watch_27 : decode cX12_watch 27 = .ok (.aload_n 0, 1) := by decide +kernel
theorem dX12_watch_28 : decode cX12_watch 28 = .ok (.getfield 123, 3) := by decide +kernel
theorem dX12_watch_31 : decode cX12_watch 31 = .ok (.ifCond .ne 11, 3) := by decide +kernel
theorem dX12_watch_34 : decode cX12_watch 34 = .ok (.aload_n 0, 1) := by decide +kernel
theorem dX12_watch_35 : decode cX12_watch 35 = .ok (.invokevirtual 281, 3) := by decide +kernel
theorem dX12_watch_38 : decode cX12_watch 38 = .ok (.aload_n 0, 1) := by decide +kernel
theorem dX12_watch_39 : decode cX12_watch 39 = .ok (.invokevirtual 269, 3) := by decide +kernel
theorem dX12_watch_42 : decode cX12_watch 42 = .ok (.aload_n 0, 1) := by decide +kernel
theorem dX12_watch_43 : decode cX12_watch 43 = .ok (.getfield 123, 3) := by decide +kernel
theorem dX12_watch_46 : decode cX12_watch 46 = .ok (.ifCond .ne 17, 3) := by decide +kernel
theorem dX12_watch_49 : decode cX12_watch 49 = .ok (.iload_n 2, 1) := by decide +kernel
theorem dX12_watch_50 : decode cX12_watch 50 = .ok (.ifCond .lt 13, 3) := by decide +kernel
theorem dX12_watch_53 : decode cX12_watch 53 = .ok (.aload_n 0, 1) := by decide +kernel
theorem dX12_watch_54 : decode cX12_watch 54 = .ok (.bipush 16, 2) := by decide +kernel
theorem dX12_watch_56 : decode cX12_watch 56 = .ok (.iconst 2, 1) := by decide +kernel
theorem dX12_watch_57 : decode cX12_watch 57 = .ok (.iload_n 2, 1) := by decide +kernel
theorem dX12_watch_58 : decode cX12_watch 58 = .ok (.imul, 1) := by decide +kernel
theorem dX12_watch_59 : decode cX12_watch 59 = .ok (.iadd, 1) := by decide +kernel
theorem dX12_watch_60 : decode cX12_watch 60 = .ok (.invokevirtual 276, 3) := by decide +kernel
theorem dX12_watch_63 : decode cX12_watch 63 = .ok (.aload_n 0, 1) := by decide +kernel
theorem dX12_watch_64 : decode cX12_watch 64 = .ok (.getfield 123, 3) := by decide +kernel
theorem dX12_watch_67 : decode cX12_watch 67 = .ok (.ifCond .ne 45, 3) := by decide +kernel
theorem dX12_watch_70 : decode cX12_watch 70 = .ok (.aload_n 0, 1) := by decide +kernel
theorem dX12_watch_71 : decode cX12_watch 71 = .ok (.invokevirtual 281, 3) := by decide +kernel
theorem dX12_watch_74 : decode cX12_watch 74 = .ok (.aload_n 0, 1) := by decide +kernel
theorem dX12_watch_75 : decode cX12_watch 75 = .ok (.getfield 147, 3) := by decide +kernel
theorem dX12_watch_78 : decode cX12_watch 78 = .ok (.aload_n 0, 1) := by decide +kernel
theorem dX12_watch_79 : decode cX12_watch 79 = .ok (.getfield 118, 3) := by decide +kernel
theorem dX12_watch_82 : decode cX12_watch 82 = .ok (.if_icmp .ge 30, 3) := by decide +kernel
theorem dX12_watch_85 : decode cX12_watch 85 = .ok (.aload_n 0, 1) := by decide +kernel
theorem dX12_watch_86 : decode cX12_watch 86 = .ok (.invokevirtual 269, 3) := by decide +kernel
theorem dX12_watch_89 : decode cX12_watch 89 = .ok (.iconst 1, 1) := by decide +kernel
theorem dX12_watch_90 : decode cX12_watch 90 = .ok (.istore_n 3, 1) := by decide +kernel
theorem dX12_watch_91 : decode cX12_watch 91 = .ok (.aload_n 0, 1) := by decide +kernel
theorem dX12_watch_92 : decode cX12_watch 92 = .ok (.getfield 123, 3) := by decide +kernel
theorem dX12_watch_95 : decode cX12_watch 95 = .ok (.ifCond .ne 17, 3) := by decide +kernel
theorem dX12_watch_98 : decode cX12_watch 98 = .ok (.iload_n 2, 1) := by decide +kernel
theorem dX12_watch_99 : decode cX12_watch 99 = .ok (.ifCond .lt 13, 3) := by decide +kernel
theorem dX12_watch_102 : decode cX12_watch 102 = .ok (.aload_n 0, 1) := by decide +kernel
theorem dX12_watch_103 : decode cX12_watch 103 = .ok (.bipush 17, 2) := by decide +kernel
theorem dX12_watch_105 : decode cX12_watch 105 = .ok (.iconst 2, 1) := by decide +kernel
theorem dX12_watch_106 : decode cX12_watch 106 = .ok (.iload_n 2, 1) := by decide +kernel
theorem dX12_watch_107 : decode cX12_watch 107 = .ok (.imul, 1) := by decide +kernel
theorem dX12_watch_108 : decode cX12_watch 108 = .ok (.iadd, 1) := by decide +kernel
theorem dX12_watch_109 : decode cX12_watch 109 = .ok (.invokevirtual 276, 3) := by decide +kernel
theorem dX12_watch_112 : decode cX12_watch 112 = .ok (.aload_n 0, 1) := by decide +kernel
theorem dX12_watch_113 : decode cX12_watch 113 = .ok (.getfield 123, 3) := by decide +kernel
theorem dX12_watch_116 : decode cX12_watch 116 = .ok (.ifCond .ne 25, 3) := by decide +kernel
theorem dX12_watch_119 : decode cX12_watch 119 = .ok (.aload_n 0, 1) := by decide +kernel
theorem dX12_watch_120 : decode cX12_watch 120 = .ok (.invokevirtual 281, 3) := by decide +kernel
theorem dX12_watch_123 : decode cX12_watch 123 = .ok (.aload_n 0, 1) := by decide +kernel
theorem dX12_watch_124 : decode cX12_watch 124 = .ok (.getfield 147, 3) := by decide +kernel
theorem dX12_watch_127 : decode cX12_watch 127 = .ok (.aload_n 0, 1) := by decide +kernel
theorem dX12_watch_128 : decode cX12_watch 128 = .ok (.getfield 118, 3) := by decide +kernel
theorem dX12_watch_131 : decode cX12_watch 131 = .ok (.if_icmp .ge 10, 3) := by decide +kernel
theorem dX12_watch_134 : decode cX12_watch 134 = .ok (.aload_n 0, 1) := by decide +kernel
theorem dX12_watch_135 : decode cX12_watch 135 = .ok (.iconst 1, 1) := by decide +kernel
theorem dX12_watch_136 : decode cX12_watch 136 = .ok (.invokevirtual 310, 3) := by decide +kernel
theorem dX12_watch_139 : decode cX12_watch 139 = .ok (.istore 4, 2) := by decide +kernel
theorem dX12_watch_141 : decode cX12_watch 141 = .ok (.aload_n 0, 1) := by decide +kernel
theorem dX12_watch_142 : decode cX12_watch 142 = .ok (.invokevirtual 313, 3) := by decide +kernel
theorem dX12_watch_145 : decode cX12_watch 145 = .ok (.aload_n 0, 1) := by decide +kernel
theorem dX12_watch_146 : decode cX12_watch 146 = .ok (.getfield 123, 3) := by decide +kernel
theorem dX12_watch_149 : decode cX12_watch 149 = .ok (.ifCond .ne 16, 3) := by decide +kernel
theorem dX12_watch_152 : decode cX12_watch 152 = .ok (.iload_n 2, 1) := by decide +kernel
theorem dX12_watch_153 : decode cX12_watch 153 = .ok (.ifCond .ge 12, 3) := by decide +kernel
theorem dX12_watch_156 : decode cX12_watch 156 = .ok (.aload_n 0, 1) := by decide +kernel
theorem dX12_watch_157 : decode cX12_watch 157 = .ok (.iconst 5, 1) := by decide +kernel
theorem dX12_watch_158 : decode cX12_watch 158 = .ok (.aload_n 0, 1) := by decide +kernel
theorem dX12_watch_159 : decode cX12_watch 159 = .ok (.getfield 118, 3) := by decide +kernel
theorem dX12_watch_162 : decode cX12_watch 162 = .ok (.invokevirtual 157, 3) := by decide +kernel
theorem dX12_watch_165 : decode cX12_watch 165 = .ok (.aload_n 0, 1) := by decide +kernel
theorem dX12_watch_166 : decode cX12_watch 166 = .ok (.getfield 123, 3) := by decide +kernel
theorem dX12_watch_169 : decode cX12_watch 169 = .ok (.ifCond .le 5, 3) := by decide +kernel
theorem dX12_watch_172 : decode cX12_watch 172 = .ok (.iconst (-1), 1) := by decide +kernel
theorem dX12_watch_173 : decode cX12_watch 173 = .ok (.ireturn, 1) := by decide +kernel
theorem dX12_watch_174 : decode cX12_watch 174 = .ok (.aload_n 0, 1) := by decide +kernel
theorem dX12_watch_175 : decode cX12_watch 175 = .ok (.iconst 1, 1) := by decide +kernel
theorem dX12_watch_176 : decode cX12_watch 176 = .ok (.iload_n 2, 1) := by decide +kernel
theorem dX12_watch_177 : decode cX12_watch 177 = .ok (.invokevirtual 316, 3) := by decide +kernel
theorem dX12_watch_180 : decode cX12_watch 180 = .ok (.pop, 1) := by decide +kernel
theorem dX12_watch_181 : decode cX12_watch 181 = .ok (.aload_n 0, 1) := by decide +kernel
theorem dX12_watch_182 : decode cX12_watch 182 = .ok (.getfield 51, 3) := by decide +kernel
theorem dX12_watch_185 : decode cX12_watch 185 = .ok (.iload_n 2, 1) := by decide +kernel
theorem dX12_watch_186 : decode cX12_watch 186 = .ok (.iload_n 1, 1) := by decide +kernel
theorem dX12_watch_187 : decode cX12_watch 187 = .ok (.iastore, 1) := by decide +kernel
theorem dX12_watch_188 : decode cX12_watch 188 = .ok (.aload_n 0, 1) := by decide +kernel
theorem dX12_watch_189 : decode cX12_watch 189 = .ok (.getfield 54, 3) := by decide +kernel
theorem dX12_watch_192 : decode cX12_watch 192 = .ok (.iload_n 2, 1) := by decide +kernel
theorem dX12_watch_193 : decode cX12_watch 193 = .ok (.iload 4, 2) := by decide +kernel
theorem dX12_watch_195 : decode cX12_watch 195 = .ok (.iastore, 1) := by decide +kernel
theorem dX12_watch_196 : decode cX12_watch 196 = .ok (.aload_n 0, 1) := by decide +kernel
theorem dX12_watch_197 : decode cX12_watch 197 = .ok (.getfield 60, 3) := by decide +kernel
theorem dX12_watch_200 : decode cX12_watch 200 = .ok (.iload_n 2, 1) := by decide +kernel
theorem dX12_watch_201 : decode cX12_watch 201 = .ok (.iload_n 3, 1) := by decide +kernel
theorem dX12_watch_202 : decode cX12_watch 202 = .ok (.bastore, 1) := by decide +kernel
theorem dX12_watch_203 : decode cX12_watch 203 = .ok (.iload_n 2, 1) := by decide +kernel
theorem dX12_watch_204 : decode cX12_watch 204 = .ok (.ireturn, 1) := by decide +kernel
theorem dX12_simple_0 : decode cX12_simple 0 = .ok (.aload_n 0, 1) := by decide +kernel
theorem dX12_simple_1 : decode cX12_simple 1 = .ok (.invokevirtual 304, 3) := by decide +kernel
theorem dX12_simple_4 : decode cX12_simple 4 = .ok (.aload_n 0, 1) := by decide +kernel
theorem dX12_simple_5 : decode cX12_simple 5 = .ok (.invokevirtual 313, 3) := by decide +kernel
theorem dX12_simple_8 : decode cX12_simple 8 = .ok (.aload_n 0, 1) := by decide +kernel
theorem dX12_simple_9 : decode cX12_simple 9 = .ok (.invokevirtual 307, 3) := by decide +kernel
theorem dX12_simple_12 : decode cX12_simple 12 = .ok (.istore_n 2, 1) := by decide +kernel
theorem dX12_simple_13 : decode cX12_simple 13 = .ok (.aload_n 0, 1) := by decide +kernel
theorem dX12_simple_14 : decode cX12_simple 14 = .ok (.getfield 123, 3) := by decide +kernel
theorem dX12_simple_17 : decode cX12_simple 17 = .ok (.ifCond .ne 16, 3) := by decide +kernel
theorem dX12_simple_20 : decode cX12_simple 20 = .ok (.iload_n 2, 1) := by decide +kernel
theorem dX12_simple_21 : decode cX12_simple 21 = .ok (.ifCond .ge 12, 3) := by decide +kernel
theorem dX12_simple_24 : decode cX12_simple 24 = .ok (.aload_n 0, 1) := by decide +kernel
theorem dX12_simple_25 : decode cX12_simple 25 = .ok (.iconst 5, 1) := by decide +kernel
theorem dX12_simple_26 : decode cX12_simple 26 = .ok (.aload_n 0, 1) := by decide +kernel
theorem dX12_simple_27 : decode cX12_simple 27 = .ok (.getfield 118, 3) := by decide +kernel
theorem dX12_simple_30 : decode cX12_simple 30 = .ok (.invokevirtual 157, 3) := by decide +kernel
theorem dX12_simple_33 : decode cX12_simple 33 = .ok (.aload_n 0, 1) := by decide +kernel
theorem dX12_simple_34 : decode cX12_simple 34 = .ok (.getfield 123, 3) := by decide +kernel
theorem dX12_simple_37 : decode cX12_simple 37 = .ok (.ifCond .le 7, 3) := by decide +kernel
theorem dX12_simple_40 : decode cX12_simple 40 = .ok (.iconst (-1), 1) := by decide +kernel
theorem dX12_simple_41 : decode cX12_simple 41 = .ok (.goto 9, 3) := by decide +kernel
theorem dX12_simple_44 : decode cX12_simple 44 = .ok (.aload_n 0, 1) := by decide +kernel
theorem dX12_simple_45 : decode cX12_simple 45 = .ok (.iload_n 1, 1) := by decide +kernel
theorem dX12_simple_46 : decode cX12_simple 46 = .ok (.iload_n 2, 1) := by decide +kernel
theorem dX12_simple_47 : decode cX12_simple 47 = .ok (.invokevirtual 316, 3) := by decide +kernel
theorem dX12_simple_50 : decode cX12_simple 50 = .ok (.ireturn, 1) := by decide +kernel
theorem dX12_kill_0 : decode cX12_kill 0 = .ok (.aload_n 0, 1) := by decide +kernel
theorem dX12_kill_1 : decode cX12_kill 1 = .ok (.iconst 0, 1) := by decide +kernel
theorem dX12_kill_2 : decode cX12_kill 2 = .ok (.invokevirtual 310, 3) := by decide +kernel
theorem dX12_kill_5 : decode cX12_kill 5 = .ok (.istore_n 1, 1) := by decide +kernel
theorem dX12_kill_6 : decode cX12_kill 6 = .ok (.aload_n 0, 1) := by decide +kernel
theorem dX12_kill_7 : decode cX12_kill 7 = .ok (.invokevirtual 313, 3) := by decide +kernel
theorem dX12_kill_10 : decode cX12_kill 10 = .ok (.aload_n 0, 1) := by decide +kernel
theorem dX12_kill_11 : decode cX12_kill 11 = .ok (.getfield 123, 3) := by decide +kernel
theorem dX12_kill_14 : decode cX12_kill 14 = .ok (.ifCond .ne 27, 3) := by decide +kernel
theorem dX12_kill_17 : decode cX12_kill 17 = .ok (.iload_n 1, 1) := by decide +kernel
theorem dX12_kill_18 : decode cX12_kill 18 = .ok (.bipush 8, 2) := by decide +kernel
theorem dX12_kill_20 : decode cX12_kill 20 = .ok (.if_icmp .ge 12, 3) := by decide +kernel
theorem dX12_kill_23 : decode cX12_kill 23 = .ok (.aload_n 0, 1) := by decide +kernel
theorem dX12_kill_24 : decode cX12_kill 24 = .ok (.getfield 48, 3) := by decide +kernel
theorem dX12_kill_27 : decode cX12_kill 27 = .ok (.iload_n 1, 1) := by decide +kernel
theorem dX12_kill_28 : decode cX12_kill 28 = .ok (.iaload, 1) := by decide +kernel
theorem dX12_kill_29 : decode cX12_kill 29 = .ok (.ifCond .ne 12, 3) := by decide +kernel
theorem dX12_kill_32 : decode cX12_kill 32 = .ok (.aload_n 0, 1) := by decide +kernel
theorem dX12_kill_33 : decode cX12_kill 33 = .ok (.iconst 5, 1) := by decide +kernel
theorem dX12_kill_34 : decode cX12_kill 34 = .ok (.aload_n 0, 1) := by decide +kernel
theorem dX12_kill_35 : decode cX12_kill 35 = .ok (.getfield 118, 3) := by decide +kernel
theorem dX12_kill_38 : decode cX12_kill 38 = .ok (.invokevirtual 157, 3) := by decide +kernel
theorem dX12_kill_41 : decode cX12_kill 41 = .ok (.aload_n 0, 1) := by decide +kernel
theorem dX12_kill_42 : decode cX12_kill 42 = .ok (.getfield 123, 3) := by decide +kernel
theorem dX12_kill_45 : decode cX12_kill 45 = .ok (.ifCond .le 5, 3) := by decide +kernel
theorem dX12_kill_48 : decode cX12_kill 48 = .ok (.iconst (-1), 1) := by decide +kernel
theorem dX12_kill_49 : decode cX12_kill 49 = .ok (.ireturn, 1) := by decide +kernel
theorem dX12_kill_50 : decode cX12_kill 50 = .ok (.aload_n 0, 1) := by decide +kernel
theorem dX12_kill_51 : decode cX12_kill 51 = .ok (.getfield 48, 3) := by decide +kernel
theorem dX12_kill_54 : decode cX12_kill 54 = .ok (.iload_n 1, 1) := by decide +kernel
theorem dX12_kill_55 : decode cX12_kill 55 = .ok (.iconst 0, 1) := by decide +kernel
theorem dX12_kill_56 : decode cX12_kill 56 = .ok (.iastore, 1) := by decide +kernel
theorem dX12_kill_57 : decode cX12_kill 57 = .ok (.iload_n 1, 1) := by decide +kernel
theorem dX12_kill_58 : decode cX12_kill 58 = .ok (.ireturn, 1) := by decide +kernel
theorem dX12_reset_0 : decode cX12_reset 0 = .ok (.aload_n 0, 1) := by decide +kernel
theorem dX12_reset_1 : decode cX12_reset 1 = .ok (.invokevirtual 313, 3) := by decide +kernel
theorem dX12_reset_4 : decode cX12_reset 4 = .ok (.aload_n 0, 1) := by decide +kernel
theorem dX12_reset_5 : decode cX12_reset 5 = .ok (.getfield 123, 3) := by decide +kernel
theorem dX12_reset_8 : decode cX12_reset 8 = .ok (.ifCond .le 5, 3) := by decide +kernel
theorem dX12_reset_11 : decode cX12_reset 11 = .ok (.iconst (-1), 1) := by decide +kernel
theorem dX12_reset_12 : decode cX12_reset 12 = .ok (.ireturn, 1) := by decide +kernel
theorem dX12_reset_13 : decode cX12_reset 13 = .ok (.iconst 0, 1) := by decide +kernel
theorem dX12_reset_14 : decode cX12_reset 14 = .ok (.istore_n 1, 1) := by decide +kernel
theorem dX12_reset_15 : decode cX12_reset 15 = .ok (.iconst 0, 1) := by decide +kernel
theorem dX12_reset_16 : decode cX12_reset 16 = .ok (.istore_n 2, 1) := by decide +kernel
theorem dX12_reset_17 : decode cX12_reset 17 = .ok (.iload_n 2, 1) := by decide +kernel
theorem dX12_reset_18 : decode cX12_reset 18 = .ok (.bipush 8, 2) := by decide +kernel
theorem dX12_reset_20 : decode cX12_reset 20 = .ok (.if_icmp .ge 33, 3) := by decide +kernel
theorem dX12_reset_23 : decode cX12_reset 23 = .ok (.aload_n 0, 1) := by decide +kernel
theorem dX12_reset_24 : decode cX12_reset 24 = .ok (.getfield 48, 3) := by decide +kernel
theorem dX12_reset_27 : decode cX12_reset 27 = .ok (.iload_n 2, 1) := by decide +kernel
theorem dX12_reset_28 : decode cX12_reset 28 = .ok (.iaload, 1) := by decide +kernel
theorem dX12_reset_29 : decode cX12_reset 29 = .ok (.ifCond .le 9, 3) := by decide +kernel
theorem dX12_reset_32 : decode cX12_reset 32 = .ok (.iload_n 1, 1) := by decide +kernel
theorem dX12_reset_33 : decode cX12_reset 33 = .ok (.iconst 1, 1) := by decide +kernel
theorem dX12_reset_34 : decode cX12_reset 34 = .ok (.iadd, 1) := by decide +kernel
theorem dX12_reset_35 : decode cX12_reset 35 = .ok (.goto 4, 3) := by decide +kernel
theorem dX12_reset_38 : decode cX12_reset 38 = .ok (.iload_n 1, 1) := by decide +kernel
theorem dX12_reset_39 : decode cX12_reset 39 = .ok (.istore_n 1, 1) := by decide +kernel
theorem dX12_reset_40 : decode cX12_reset 40 = .ok (.aload_n 0, 1) := by decide +kernel
theorem dX12_reset_41 : decode cX12_reset 41 = .ok (.getfield 48, 3) := by decide +kernel
theorem dX12_reset_44 : decode cX12_reset 44 = .ok (.iload_n 2, 1) := by decide +kernel
theorem dX12_reset_45 : decode cX12_reset 45 = .ok (.iconst 0, 1) := by decide +kernel
theorem dX12_reset_46 : decode cX12_reset 46 = .ok (.iastore, 1) := by decide +kernel
theorem dX12_reset_47 : decode cX12_reset 47 = .ok (.iinc 2 1, 3) := by decide +kernel
theorem dX12_reset_50 : decode cX12_reset 50 = .ok (.goto (-33), 3) := by decide +kernel
theorem dX12_reset_53 : decode cX12_reset 53 = .ok (.iload_n 1, 1) := by decide +kernel
theorem dX12_reset_54 : decode cX12_reset 54 = .ok (.ireturn, 1) := by decide +kernel
theorem dX12_command_0 : decode cX12_command 0 = .ok (.aload_n 0, 1) := by decide +kernel
theorem dX12_command_1 : decode cX12_command 1 = .ok (.invokevirtual 263, 3) := by decide +kernel
theorem dX12_command_4 : decode cX12_command 4 = .ok (.aload_n 0, 1) := by decide +kernel
theorem dX12_command_5 : decode cX12_command 5 = .ok (.iconst 1, 1) := by decide +kernel
theorem dX12_command_6 : decode cX12_command 6 = .ok (.putfield 150, 3) := by decide +kernel
theorem dX12_command_9 : decode cX12_command 9 = .ok (.aload_n 0, 1) := by decide +kernel
theorem dX12_command_10 : decode cX12_command 10 = .ok (.iconst 3, 1) := by decide +kernel
theorem dX12_command_11 : decode cX12_command 11 = .ok (.putfield 202, 3) := by decide +kernel
theorem dX12_command_14 : decode cX12_command 14 = .ok (.aload_n 0, 1) := by decide +kernel
theorem dX12_command_15 : decode cX12_command 15 = .ok (.invokevirtual 281, 3) := by decide +kernel
theorem dX12_command_18 : decode cX12_command 18 = .ok (.aload_n 0, 1) := by decide +kernel
theorem dX12_command_19 : decode cX12_command 19 = .ok (.getfield 147, 3) := by decide +kernel
theorem dX12_command_22 : decode cX12_command 22 = .ok (.istore_n 1, 1) := by decide +kernel
theorem dX12_command_23 : decode cX12_command 23 = .ok (.aload_n 0, 1) := by decide +kernel
theorem dX12_command_24 : decode cX12_command 24 = .ok (.aload_n 0, 1) := by decide +kernel
theorem dX12_command_25 : decode cX12_command 25 = .ok (.getfield 147, 3) := by decide +kernel
theorem dX12_command_28 : decode cX12_command 28 = .ok (.invokevirtual 290, 3) := by decide +kernel
theorem dX12_command_31 : decode cX12_command 31 = .ok (.lstore_n 2, 1) := by decide +kernel
theorem dX12_command_32 : decode cX12_command 32 = .ok (.aload_n 0, 1) := by decide +kernel
theorem dX12_command_33 : decode cX12_command 33 = .ok (.aload_n 0, 1) := by decide +kernel
theorem dX12_command_34 : decode cX12_command 34 = .ok (.getfield 147, 3) := by decide +kernel
theorem dX12_command_37 : decode cX12_command 37 = .ok (.invokevirtual 205, 3) := by decide +kernel
theorem dX12_command_40 : decode cX12_command 40 = .ok (.istore 4, 2) := by decide +kernel
theorem dX12_command_42 : decode cX12_command 42 = .ok (.iconst 0, 1) := by decide +kernel
theorem dX12_command_43 : decode cX12_command 43 = .ok (.bipush 23, 2) := by decide +kernel
theorem dX12_command_45 : decode cX12_command 45 = .ok (.iconst 1, 1) := by decide +kernel
theorem dX12_command_46 : decode cX12_command 46 = .ok (.bipush 20, 2) := by decide +kernel
theorem dX12_command_48 : decode cX12_command 48 = .ok (.invokestatic 294, 3) := by decide +kernel
theorem dX12_command_51 : decode cX12_command 51 = .ok (.bipush 10, 2) := by decide +kernel
theorem dX12_command_53 : decode cX12_command 53 = .ok (.lshl, 1) := by decide +kernel
theorem dX12_command_54 : decode cX12_command 54 = .ok (.iconst 0, 1) := by decide +kernel
theorem dX12_command_55 : decode cX12_command 55 = .ok (.iconst 0, 1) := by decide +kernel
theorem dX12_command_56 : decode cX12_command 56 = .ok (.iconst 3, 1) := by decide +kernel
theorem dX12_command_57 : decode cX12_command 57 = .ok (.bipush 8, 2) := by decide +kernel
theorem dX12_command_59 : decode cX12_command 59 = .ok (.invokestatic 294, 3) := by decide +kernel
theorem dX12_command_62 : decode cX12_command 62 = .ok (.lor, 1) := by decide +kernel
theorem dX12_command_63 : decode cX12_command 63 = .ok (.lstore 5, 2) := by decide +kernel
theorem dX12_command_65 : decode cX12_command 65 = .ok (.bipush 13, 2) := by decide +kernel
theorem dX12_command_67 : decode cX12_command 67 = .ok (.bipush 15, 2) := by decide +kernel
theorem dX12_command_69 : decode cX12_command 69 = .ok (.bipush 14, 2) := by decide +kernel
theorem dX12_command_71 : decode cX12_command 71 = .ok (.bipush 9, 2) := by decide +kernel
theorem dX12_command_73 : decode cX12_command 73 = .ok (.invokestatic 294, 3) := by decide +kernel
theorem dX12_command_76 : decode cX12_command 76 = .ok (.bipush 15, 2) := by decide +kernel
theorem dX12_command_78 : decode cX12_command 78 = .ok (.lshl, 1) := by decide +kernel
theorem dX12_command_79 : decode cX12_command 79 = .ok (.iconst 0, 1) := by decide +kernel
theorem dX12_command_80 : decode cX12_command 80 = .ok (.bipush 20, 2) := by decide +kernel
theorem dX12_command_82 : decode cX12_command 82 = .ok (.bipush 15, 2) := by decide +kernel
theorem dX12_command_84 : decode cX12_command 84 = .ok (.bipush 18, 2) := by decide +kernel
theorem dX12_command_86 : decode cX12_command 86 = .ok (.invokestatic 294, 3) := by decide +kernel
theorem dX12_command_89 : decode cX12_command 89 = .ok (.lor, 1) := by decide +kernel
theorem dX12_command_90 : decode cX12_command 90 = .ok (.lstore 7, 2) := by decide +kernel
theorem dX12_command_92 : decode cX12_command 92 = .ok (.bipush 11, 2) := by decide +kernel
theorem dX12_command_94 : decode cX12_command 94 = .ok (.iconst 5, 1) := by decide +kernel
theorem dX12_command_95 : decode cX12_command 95 = .ok (.iconst 5, 1) := by decide +kernel
theorem dX12_command_96 : decode cX12_command 96 = .ok (.bipush 16, 2) := by decide +kernel
theorem dX12_command_98 : decode cX12_command 98 = .ok (.invokestatic 294, 3) := by decide +kernel
theorem dX12_command_101 : decode cX12_command 101 = .ok (.lstore 9, 2) := by decide +kernel
theorem dX12_command_103 : decode cX12_command 103 = .ok (.bipush 11, 2) := by decide +kernel
theorem dX12_command_105 : decode cX12_command 105 = .ok (.bipush 9, 2) := by decide +kernel
theorem dX12_command_107 : decode cX12_command 107 = .ok (.bipush 12, 2) := by decide +kernel
theorem dX12_command_109 : decode cX12_command 109 = .ok (.bipush 12, 2) := by decide +kernel
theorem dX12_command_111 : decode cX12_command 111 = .ok (.invokestatic 294, 3) := by decide +kernel
theorem dX12_command_114 : decode cX12_command 114 = .ok (.lstore 11, 2) := by decide +kernel
theorem dX12_command_116 : decode cX12_command 116 = .ok (.iconst 0, 1) := by decide +kernel
theorem dX12_command_117 : decode cX12_command 117 = .ok (.bipush 18, 2) := by decide +kernel
theorem dX12_command_119 : decode cX12_command 119 = .ok (.iconst 5, 1) := by decide +kernel
theorem dX12_command_120 : decode cX12_command 120 = .ok (.bipush 19, 2) := by decide +kernel
theorem dX12_command_122 : decode cX12_command 122 = .ok (.invokestatic 294, 3) := by decide +kernel
theorem dX12_command_125 : decode cX12_command 125 = .ok (.bipush 10, 2) := by decide +kernel
theorem dX12_command_127 : decode cX12_command 127 = .ok (.lshl, 1) := by decide +kernel
theorem dX12_command_128 : decode cX12_command 128 = .ok (.iconst 0, 1) := by decide +kernel
theorem dX12_command_129 : decode cX12_command 129 = .ok (.iconst 0, 1) := by decide +kernel
theorem dX12_command_130 : decode cX12_command 130 = .ok (.iconst 5, 1) := by decide +kernel
theorem dX12_command_131 : decode cX12_command 131 = .ok (.bipush 20, 2) := by decide +kernel
theorem dX12_command_133 : decode cX12_command 133 = .ok (.invokestatic 294, 3) := by decide +kernel
theorem dX12_command_136 : decode cX12_command 136 = .ok (.lor, 1) := by decide +kernel
theorem dX12_command_137 : decode cX12_command 137 = .ok (.lstore 13, 2) := by decide +kernel
theorem dX12_command_139 : decode cX12_command 139 = .ok (.iload 4, 2) := by decide +kernel
theorem dX12_command_141 : decode cX12_command 141 = .ok (.iconst 5, 1) := by decide +kernel
theorem dX12_command_142 : decode cX12_command 142 = .ok (.if_icmp .ne 14, 3) := by decide +kernel
theorem dX12_command_145 : decode cX12_command 145 = .ok (.lload_n 2, 1) := by decide +kernel
theorem dX12_command_146 : decode cX12_command 146 = .ok (.lload 5, 2) := by decide +kernel
theorem dX12_command_148 : decode cX12_command 148 = .ok (.lcmp, 1) := by decide +kernel
theorem dX12_command_149 : decode cX12_command 149 = .ok (.ifCond .ne 7, 3) := by decide +kernel
theorem dX12_command_152 : decode cX12_command 152 = .ok (.iconst 1, 1) := by decide +kernel
theorem dX12_command_153 : decode cX12_command 153 = .ok (.goto 73, 3) := by decide +kernel
theorem dX12_command_156 : decode cX12_command 156 = .ok (.iload 4, 2) := by decide +kernel
theorem dX12_command_158 : decode cX12_command 158 = .ok (.bipush 7, 2) := by decide +kernel
theorem dX12_command_160 : decode cX12_command 160 = .ok (.if_icmp .ne 14, 3) := by decide +kernel
theorem dX12_command_163 : decode cX12_command 163 = .ok (.lload_n 2, 1) := by decide +kernel
theorem dX12_command_164 : decode cX12_command 164 = .ok (.lload 7, 2) := by decide +kernel
theorem dX12_command_166 : decode cX12_command 166 = .ok (.lcmp, 1) := by decide +kernel
theorem dX12_command_167 : decode cX12_command 167 = .ok (.ifCond .ne 7, 3) := by decide +kernel
theorem dX12_command_170 : decode cX12_command 170 = .ok (.iconst 2, 1) := by decide +kernel
theorem dX12_command_171 : decode cX12_command 171 = .ok (.goto 55, 3) := by decide +kernel
theorem dX12_command_174 : decode cX12_command 174 = .ok (.iload 4, 2) := by decide +kernel
theorem dX12_command_176 : decode cX12_command 176 = .ok (.iconst 4, 1) := by decide +kernel
theorem dX12_command_177 : decode cX12_command 177 = .ok (.if_icmp .ne 14, 3) := by decide +kernel
theorem dX12_command_180 : decode cX12_command 180 = .ok (.lload_n 2, 1) := by decide +kernel
theorem dX12_command_181 : decode cX12_command 181 = .ok (.lload 9, 2) := by decide +kernel
theorem dX12_command_183 : decode cX12_command 183 = .ok (.lcmp, 1) := by decide +kernel
theorem dX12_command_184 : decode cX12_command 184 = .ok (.ifCond .ne 7, 3) := by decide +kernel
theorem dX12_command_187 : decode cX12_command 187 = .ok (.iconst 3, 1) := by decide +kernel
theorem dX12_command_188 : decode cX12_command 188 = .ok (.goto 38, 3) := by decide +kernel
theorem dX12_command_191 : decode cX12_command 191 = .ok (.iload 4, 2) := by decide +kernel
theorem dX12_command_193 : decode cX12_command 193 = .ok (.iconst 4, 1) := by decide +kernel
theorem dX12_command_194 : decode cX12_command 194 = .ok (.if_icmp .ne 14, 3) := by decide +kernel
theorem dX12_command_197 : decode cX12_command 197 = .ok (.lload_n 2, 1) := by decide +kernel
theorem dX12_command_198 : decode cX12_command 198 = .ok (.lload 11, 2) := by decide +kernel
theorem dX12_command_200 : decode cX12_command 200 = .ok (.lcmp, 1) := by decide +kernel
theorem dX12_command_201 : decode cX12_command 201 = .ok (.ifCond .ne 7, 3) := by decide +kernel
theorem dX12_command_204 : decode cX12_command 204 = .ok (.iconst 4, 1) := by decide +kernel
theorem dX12_command_205 : decode cX12_command 205 = .ok (.goto 21, 3) := by decide +kernel
theorem dX12_command_208 : decode cX12_command 208 = .ok (.iload 4, 2) := by decide +kernel
theorem dX12_command_210 : decode cX12_command 210 = .ok (.iconst 5, 1) := by decide +kernel
theorem dX12_command_211 : decode cX12_command 211 = .ok (.if_icmp .ne 14, 3) := by decide +kernel
theorem dX12_command_214 : decode cX12_command 214 = .ok (.lload_n 2, 1) := by decide +kernel
theorem dX12_command_215 : decode cX12_command 215 = .ok (.lload 13, 2) := by decide +kernel
theorem dX12_command_217 : decode cX12_command 217 = .ok (.lcmp, 1) := by decide +kernel
theorem dX12_command_218 : decode cX12_command 218 = .ok (.ifCond .ne 7, 3) := by decide +kernel
theorem dX12_command_221 : decode cX12_command 221 = .ok (.iconst 5, 1) := by decide +kernel
theorem dX12_command_222 : decode cX12_command 222 = .ok (.goto 4, 3) := by decide +kernel
theorem dX12_command_225 : decode cX12_command 225 = .ok (.iconst 0, 1) := by decide +kernel
theorem dX12_command_226 : decode cX12_command 226 = .ok (.istore 15, 2) := by decide +kernel
theorem dX12_command_228 : decode cX12_command 228 = .ok (.iload 15, 2) := by decide +kernel
theorem dX12_command_230 : decode cX12_command 230 = .ok (.ifCond .eq 14, 3) := by decide +kernel
theorem dX12_command_233 : decode cX12_command 233 = .ok (.aload_n 0, 1) := by decide +kernel
theorem dX12_command_234 : decode cX12_command 234 = .ok (.iload_n 1, 1) := by decide +kernel
theorem dX12_command_235 : decode cX12_command 235 = .ok (.iload 4, 2) := by decide +kernel
theorem dX12_command_237 : decode cX12_command 237 = .ok (.iadd, 1) := by decide +kernel
theorem dX12_command_238 : decode cX12_command 238 = .ok (.invokevirtual 298, 3) := by decide +kernel
theorem dX12_command_241 : decode cX12_command 241 = .ok (.ifCond .ne 11, 3) := by decide +kernel
theorem dX12_command_244 : decode cX12_command 244 = .ok (.aload_n 0, 1) := by decide +kernel
theorem dX12_command_245 : decode cX12_command 245 = .ok (.iconst 1, 1) := by decide +kernel
theorem dX12_command_246 : decode cX12_command 246 = .ok (.iload_n 1, 1) := by decide +kernel
theorem dX12_command_247 : decode cX12_command 247 = .ok (.invokevirtual 157, 3) := by decide +kernel
theorem dX12_command_250 : decode cX12_command 250 = .ok (.iconst (-1), 1) := by decide +kernel
theorem dX12_command_251 : decode cX12_command 251 = .ok (.ireturn, 1) := by decide +kernel
theorem dX12_command_252 : decode cX12_command 252 = .ok (.aload_n 0, 1) := by decide +kernel
theorem dX12_command_253 : decode cX12_command 253 = .ok (.iload_n 1, 1) := by decide +kernel
theorem dX12_command_254 : decode cX12_command 254 = .ok (.iload 4, 2) := by decide +kernel
theorem dX12_command_256 : decode cX12_command 256 = .ok (.iadd, 1) := by decide +kernel
theorem dX12_command_257 : decode cX12_command 257 = .ok (.putfield 147, 3) := by decide +kernel
theorem dX12_command_260 : decode cX12_command 260 = .ok (.iload 15, 2) := by decide +kernel
theorem dX12_command_262 : decode cX12_command 262 = .ok (.iconst 1, 1) := by decide +kernel
theorem dX12_command_263 : decode cX12_command 263 = .ok (.if_icmp .ne 10, 3) := by decide +kernel
theorem dX12_command_266 : decode cX12_command 266 = .ok (.aload_n 0, 1) := by decide +kernel
theorem dX12_command_267 : decode cX12_command 267 = .ok (.invokevirtual 320, 3) := by decide +kernel
theorem dX12_command_270 : decode cX12_command 270 = .ok (.goto 35, 3) := by decide +kernel
theorem dX12_command_273 : decode cX12_command 273 = .ok (.iload 15, 2) := by decide +kernel
theorem dX12_command_275 : decode cX12_command 275 = .ok (.iconst 4, 1) := by decide +kernel
theorem dX12_command_276 : decode cX12_command 276 = .ok (.if_icmp .ge 12, 3) := by decide +kernel
theorem dX12_command_279 : decode cX12_command 279 = .ok (.aload_n 0, 1) := by decide +kernel
theorem dX12_command_280 : decode cX12_command 280 = .ok (.iload 15, 2) := by decide +kernel
theorem dX12_command_282 : decode cX12_command 282 = .ok (.invokevirtual 323, 3) := by decide +kernel
theorem dX12_command_285 : decode cX12_command 285 = .ok (.goto 20, 3) := by decide +kernel
theorem dX12_command_288 : decode cX12_command 288 = .ok (.iload 15, 2) := by decide +kernel
theorem dX12_command_290 : decode cX12_command 290 = .ok (.iconst 4, 1) := by decide +kernel
theorem dX12_command_291 : decode cX12_command 291 = .ok (.if_icmp .ne 10, 3) := by decide +kernel
theorem dX12_command_294 : decode cX12_command 294 = .ok (.aload_n 0, 1) := by decide +kernel
theorem dX12_command_295 : decode cX12_command 295 = .ok (.invokevirtual 326, 3) := by decide +kernel
theorem dX12_command_298 : decode cX12_command 298 = .ok (.goto 7, 3) := by decide +kernel
theorem dX12_command_301 : decode cX12_command 301 = .ok (.aload_n 0, 1) := by decide +kernel
theorem dX12_command_302 : decode cX12_command 302 = .ok (.invokevirtual 329, 3) := by decide +kernel
theorem dX12_command_305 : decode cX12_command 305 = .ok (.ireturn, 1) := by decide +kernel
theorem dX12_fault_0 : decode cX12_fault 0 = .ok (.aload_n 0, 1) := by decide +kernel
theorem dX12_fault_1 : decode cX12_fault 1 = .ok (.iconst 0, 1) := by decide +kernel
theorem dX12_fault_2 : decode cX12_fault 2 = .ok (.putfield 115, 3) := by decide +kernel
theorem dX12_fault_5 : decode cX12_fault 5 = .ok (.aload_n 0, 1) := by decide +kernel
theorem dX12_fault_6 : decode cX12_fault 6 = .ok (.getfield 123, 3) := by decide +kernel
theorem dX12_fault_9 : decode cX12_fault 9 = .ok (.ireturn, 1) := by decide +kernel
theorem dX12_place_0 : decode cX12_place 0 = .ok (.aload_n 0, 1) := by decide +kernel
theorem dX12_place_1 : decode cX12_place 1 = .ok (.iconst 0, 1) := by decide +kernel
theorem dX12_place_2 : decode cX12_place 2 = .ok (.putfield 115, 3) := by decide +kernel
theorem dX12_place_5 : decode cX12_place 5 = .ok (.aload_n 0, 1) := by decide +kernel
theorem dX12_place_6 : decode cX12_place 6 = .ok (.getfield 13, 3) := by decide +kernel
theorem dX12_place_9 : decode cX12_place 9 = .ok (.ireturn, 1) := by decide +kernel
theorem dX12_nameByte_0 : decode cX12_nameByte 0 = .ok (.aload_n 0, 1) := by decide +kernel
theorem dX12_nameByte_1 : decode cX12_nameByte 1 = .ok (.getfield 27, 3) := by decide +kernel
theorem dX12_nameByte_4 : decode cX12_nameByte 4 = .ok (.iload_n 1, 1) := by decide +kernel
theorem dX12_nameByte_5 : decode cX12_nameByte 5 = .ok (.laload, 1) := by decide +kernel
theorem dX12_nameByte_6 : decode cX12_nameByte 6 = .ok (.iconst 5, 1) := by decide +kernel
theorem dX12_nameByte_7 : decode cX12_nameByte 7 = .ok (.iload_n 3, 1) := by decide +kernel
theorem dX12_nameByte_8 : decode cX12_nameByte 8 = .ok (.iconst 1, 1) := by decide +kernel
theorem dX12_nameByte_9 : decode cX12_nameByte 9 = .ok (.isub, 1) := by decide +kernel
theorem dX12_nameByte_10 : decode cX12_nameByte 10 = .ok (.iload_n 2, 1) := by decide +kernel
theorem dX12_nameByte_11 : decode cX12_nameByte 11 = .ok (.isub, 1) := by decide +kernel
theorem dX12_nameByte_12 : decode cX12_nameByte 12 = .ok (.imul, 1) := by decide +kernel
theorem dX12_nameByte_13 : decode cX12_nameByte 13 = .ok (.lshr, 1) := by decide +kernel
theorem dX12_nameByte_14 : decode cX12_nameByte 14 = .ok (.ldc2_w 332, 3) := by decide +kernel
theorem dX12_nameByte_17 : decode cX12_nameByte 17 = .ok (.land, 1) := by decide +kernel
theorem dX12_nameByte_18 : decode cX12_nameByte 18 = .ok (.l2i, 1) := by decide +kernel
theorem dX12_nameByte_19 : decode cX12_nameByte 19 = .ok (.istore 4, 2) := by decide +kernel
theorem dX12_nameByte_21 : decode cX12_nameByte 21 = .ok (.iload 4, 2) := by decide +kernel
theorem dX12_nameByte_23 : decode cX12_nameByte 23 = .ok (.bipush 27, 2) := by decide +kernel
theorem dX12_nameByte_25 : decode cX12_nameByte 25 = .ok (.if_icmp .ne 8, 3) := by decide +kernel
theorem dX12_nameByte_28 : decode cX12_nameByte 28 = .ok (.bipush 46, 2) := by decide +kernel
theorem dX12_nameByte_30 : decode cX12_nameByte 30 = .ok (.goto 8, 3) := by decide +kernel
theorem dX12_nameByte_33 : decode cX12_nameByte 33 = .ok (.bipush 96, 2) := by decide +kernel
theorem dX12_nameByte_35 : decode cX12_nameByte 35 = .ok (.iload 4, 2) := by decide +kernel
theorem dX12_nameByte_37 : decode cX12_nameByte 37 = .ok (.iadd, 1) := by decide +kernel
theorem dX12_nameByte_38 : decode cX12_nameByte 38 = .ok (.ireturn, 1) := by decide +kernel
theorem dX12_nameSize_0 : decode cX12_nameSize 0 = .ok (.iconst 0, 1) := by decide +kernel
theorem dX12_nameSize_1 : decode cX12_nameSize 1 = .ok (.istore_n 2, 1) := by decide +kernel
theorem dX12_nameSize_2 : decode cX12_nameSize 2 = .ok (.iload_n 2, 1) := by decide +kernel
theorem dX12_nameSize_3 : decode cX12_nameSize 3 = .ok (.bipush 12, 2) := by decide +kernel
theorem dX12_nameSize_5 : decode cX12_nameSize 5 = .ok (.if_icmp .ge 24, 3) := by decide +kernel
theorem dX12_nameSize_8 : decode cX12_nameSize 8 = .ok (.aload_n 0, 1) := by decide +kernel
theorem dX12_nameSize_9 : decode cX12_nameSize 9 = .ok (.getfield 27, 3) := by decide +kernel
theorem dX12_nameSize_12 : decode cX12_nameSize 12 = .ok (.iload_n 1, 1) := by decide +kernel
theorem dX12_nameSize_13 : decode cX12_nameSize 13 = .ok (.laload, 1) := by decide +kernel
theorem dX12_nameSize_14 : decode cX12_nameSize 14 = .ok (.iconst 5, 1) := by decide +kernel
theorem dX12_nameSize_15 : decode cX12_nameSize 15 = .ok (.iload_n 2, 1) := by decide +kernel
theorem dX12_nameSize_16 : decode cX12_nameSize 16 = .ok (.imul, 1) := by decide +kernel
theorem dX12_nameSize_17 : decode cX12_nameSize 17 = .ok (.lshr, 1) := by decide +kernel
theorem dX12_nameSize_18 : decode cX12_nameSize 18 = .ok (.lconst 0, 1) := by decide +kernel
theorem dX12_nameSize_19 : decode cX12_nameSize 19 = .ok (.lcmp, 1) := by decide +kernel
theorem dX12_nameSize_20 : decode cX12_nameSize 20 = .ok (.ifCond .eq 9, 3) := by decide +kernel
theorem dX12_nameSize_23 : decode cX12_nameSize 23 = .ok (.iinc 2 1, 3) := by decide +kernel
theorem dX12_nameSize_26 : decode cX12_nameSize 26 = .ok (.goto (-24), 3) := by decide +kernel
theorem dX12_nameSize_29 : decode cX12_nameSize 29 = .ok (.iload_n 2, 1) := by decide +kernel
theorem dX12_nameSize_30 : decode cX12_nameSize 30 = .ok (.ireturn, 1) := by decide +kernel
theorem dX12_fits_0 : decode cX12_fits 0 = .ok (.aload_n 0, 1) := by decide +kernel
theorem dX12_fits_1 : decode cX12_fits 1 = .ok (.iload_n 2, 1) := by decide +kernel
theorem dX12_fits_2 : decode cX12_fits 2 = .ok (.invokevirtual 334, 3) := by decide +kernel
theorem dX12_fits_5 : decode cX12_fits 5 = .ok (.istore_n 3, 1) := by decide +kernel
theorem dX12_fits_6 : decode cX12_fits 6 = .ok (.aload_n 0, 1) := by decide +kernel
theorem dX12_fits_7 : decode cX12_fits 7 = .ok (.getfield 67, 3) := by decide +kernel
theorem dX12_fits_10 : decode cX12_fits 10 = .ok (.iload_n 1, 1) := by decide +kernel
theorem dX12_fits_11 : decode cX12_fits 11 = .ok (.iaload, 1) := by decide +kernel
theorem dX12_fits_12 : decode cX12_fits 12 = .ok (.istore 4, 2) := by decide +kernel
theorem dX12_fits_14 : decode cX12_fits 14 = .ok (.aload_n 0, 1) := by decide +kernel
theorem dX12_fits_15 : decode cX12_fits 15 = .ok (.iload_n 1, 1) := by decide +kernel
theorem dX12_fits_16 : decode cX12_fits 16 = .ok (.iconst 1, 1) := by decide +kernel
theorem dX12_fits_17 : decode cX12_fits 17 = .ok (.invokevirtual 337, 3) := by decide +kernel
theorem dX12_fits_20 : decode cX12_fits 20 = .ok (.istore 5, 2) := by decide +kernel
theorem dX12_fits_22 : decode cX12_fits 22 = .ok (.iconst 0, 1) := by decide +kernel
theorem dX12_fits_23 : decode cX12_fits 23 = .ok (.istore 6, 2) := by decide +kernel
theorem dX12_fits_25 : decode cX12_fits 25 = .ok (.iload 6, 2) := by decide +kernel
theorem dX12_fits_27 : decode cX12_fits 27 = .ok (.iload_n 3, 1) := by decide +kernel
theorem dX12_fits_28 : decode cX12_fits 28 = .ok (.if_icmp .ge 113, 3) := by decide +kernel
theorem dX12_fits_31 : decode cX12_fits 31 = .ok (.iconst 0, 1) := by decide +kernel
theorem dX12_fits_32 : decode cX12_fits 32 = .ok (.istore 7, 2) := by decide +kernel
theorem dX12_fits_34 : decode cX12_fits 34 = .ok (.iconst 0, 1) := by decide +kernel
theorem dX12_fits_35 : decode cX12_fits 35 = .ok (.istore 8, 2) := by decide +kernel
theorem dX12_fits_37 : decode cX12_fits 37 = .ok (.iload 8, 2) := by decide +kernel
theorem dX12_fits_39 : decode cX12_fits 39 = .ok (.iload 4, 2) := by decide +kernel
theorem dX12_fits_41 : decode cX12_fits 41 = .ok (.if_icmp .ge 85, 3) := by decide +kernel
theorem dX12_fits_44 : decode cX12_fits 44 = .ok (.iload 5, 2) := by decide +kernel
theorem dX12_fits_46 : decode cX12_fits 46 = .ok (.iload 8, 2) := by decide +kernel
theorem dX12_fits_48 : decode cX12_fits 48 = .ok (.ishr, 1) := by decide +kernel
theorem dX12_fits_49 : decode cX12_fits 49 = .ok (.iconst 1, 1) := by decide +kernel
theorem dX12_fits_50 : decode cX12_fits 50 = .ok (.iand, 1) := by decide +kernel
theorem dX12_fits_51 : decode cX12_fits 51 = .ok (.iconst 1, 1) := by decide +kernel
theorem dX12_fits_52 : decode cX12_fits 52 = .ok (.if_icmp .ne 68, 3) := by decide +kernel
theorem dX12_fits_55 : decode cX12_fits 55 = .ok (.aload_n 0, 1) := by decide +kernel
theorem dX12_fits_56 : decode cX12_fits 56 = .ok (.getfield 64, 3) := by decide +kernel
theorem dX12_fits_59 : decode cX12_fits 59 = .ok (.bipush 12, 2) := by decide +kernel
theorem dX12_fits_61 : decode cX12_fits 61 = .ok (.iload_n 1, 1) := by decide +kernel
theorem dX12_fits_62 : decode cX12_fits 62 = .ok (.imul, 1) := by decide +kernel
theorem dX12_fits_63 : decode cX12_fits 63 = .ok (.iload 8, 2) := by decide +kernel
theorem dX12_fits_65 : decode cX12_fits 65 = .ok (.iadd, 1) := by decide +kernel
theorem dX12_fits_66 : decode cX12_fits 66 = .ok (.iaload, 1) := by decide +kernel
theorem dX12_fits_67 : decode cX12_fits 67 = .ok (.istore 9, 2) := by decide +kernel
theorem dX12_fits_69 : decode cX12_fits 69 = .ok (.iload 9, 2) := by decide +kernel
theorem dX12_fits_71 : decode cX12_fits 71 = .ok (.bipush 42, 2) := by decide +kernel
theorem dX12_fits_73 : decode cX12_fits 73 = .ok (.if_icmp .ne 13, 3) := by decide +kernel
theorem dX12_fits_76 : decode cX12_fits 76 = .ok (.iload 7, 2) := by decide +kernel
theorem dX12_fits_78 : decode cX12_fits 78 = .ok (.iconst 1, 1) := by decide +kernel
theorem dX12_fits_79 : decode cX12_fits 79 = .ok (.iload 8, 2) := by decide +kernel
theorem dX12_fits_81 : decode cX12_fits 81 = .ok (.ishl, 1) := by decide +kernel
theorem dX12_fits_82 : decode cX12_fits 82 = .ok (.ior, 1) := by decide +kernel
theorem dX12_fits_83 : decode cX12_fits 83 = .ok (.goto 35, 3) := by decide +kernel
theorem dX12_fits_86 : decode cX12_fits 86 = .ok (.iload 9, 2) := by decide +kernel
theorem dX12_fits_88 : decode cX12_fits 88 = .ok (.bipush 63, 2) := by decide +kernel
theorem dX12_fits_90 : decode cX12_fits 90 = .ok (.if_icmp .eq 16, 3) := by decide +kernel
theorem dX12_fits_93 : decode cX12_fits 93 = .ok (.iload 9, 2) := by decide +kernel
theorem dX12_fits_95 : decode cX12_fits 95 = .ok (.aload_n 0, 1) := by decide +kernel
theorem dX12_fits_96 : decode cX12_fits 96 = .ok (.iload_n 2, 1) := by decide +kernel
theorem dX12_fits_97 : decode cX12_fits 97 = .ok (.iload 6, 2) := by decide +kernel
theorem dX12_fits_99 : decode cX12_fits 99 = .ok (.iload_n 3, 1) := by decide +kernel
theorem dX12_fits_100 : decode cX12_fits 100 = .ok (.invokevirtual 340, 3) := by decide +kernel
theorem dX12_fits_103 : decode cX12_fits 103 = .ok (.if_icmp .ne 13, 3) := by decide +kernel
theorem dX12_fits_106 : decode cX12_fits 106 = .ok (.iload 7, 2) := by decide +kernel
theorem dX12_fits_108 : decode cX12_fits 108 = .ok (.iconst 2, 1) := by decide +kernel
theorem dX12_fits_109 : decode cX12_fits 109 = .ok (.iload 8, 2) := by decide +kernel
theorem dX12_fits_111 : decode cX12_fits 111 = .ok (.ishl, 1) := by decide +kernel
theorem dX12_fits_112 : decode cX12_fits 112 = .ok (.ior, 1) := by decide +kernel
theorem dX12_fits_113 : decode cX12_fits 113 = .ok (.goto 5, 3) := by decide +kernel
theorem dX12_fits_116 : decode cX12_fits 116 = .ok (.iload 7, 2) := by decide +kernel
theorem dX12_fits_118 : decode cX12_fits 118 = .ok (.istore 7, 2) := by decide +kernel
theorem dX12_fits_120 : decode cX12_fits 120 = .ok (.iinc 8 1, 3) := by decide +kernel
theorem dX12_fits_123 : decode cX12_fits 123 = .ok (.goto (-86), 3) := by decide +kernel
theorem dX12_fits_126 : decode cX12_fits 126 = .ok (.aload_n 0, 1) := by decide +kernel
theorem dX12_fits_127 : decode cX12_fits 127 = .ok (.iload_n 1, 1) := by decide +kernel
theorem dX12_fits_128 : decode cX12_fits 128 = .ok (.iload 7, 2) := by decide +kernel
theorem dX12_fits_130 : decode cX12_fits 130 = .ok (.invokevirtual 337, 3) := by decide +kernel
theorem dX12_fits_133 : decode cX12_fits 133 = .ok (.istore 5, 2) := by decide +kernel
theorem dX12_fits_135 : decode cX12_fits 135 = .ok (.iinc 6 1, 3) := by decide +kernel
theorem dX12_fits_138 : decode cX12_fits 138 = .ok (.goto (-113), 3) := by decide +kernel
theorem dX12_fits_141 : decode cX12_fits 141 = .ok (.iload 5, 2) := by decide +kernel
theorem dX12_fits_143 : decode cX12_fits 143 = .ok (.iload 4, 2) := by decide +kernel
theorem dX12_fits_145 : decode cX12_fits 145 = .ok (.ishr, 1) := by decide +kernel
theorem dX12_fits_146 : decode cX12_fits 146 = .ok (.iconst 1, 1) := by decide +kernel
theorem dX12_fits_147 : decode cX12_fits 147 = .ok (.iand, 1) := by decide +kernel
theorem dX12_fits_148 : decode cX12_fits 148 = .ok (.iconst 1, 1) := by decide +kernel
theorem dX12_fits_149 : decode cX12_fits 149 = .ok (.if_icmp .ne 7, 3) := by decide +kernel
theorem dX12_fits_152 : decode cX12_fits 152 = .ok (.iconst 1, 1) := by decide +kernel
theorem dX12_fits_153 : decode cX12_fits 153 = .ok (.goto 4, 3) := by decide +kernel
theorem dX12_fits_156 : decode cX12_fits 156 = .ok (.iconst 0, 1) := by decide +kernel
theorem dX12_fits_157 : decode cX12_fits 157 = .ok (.ireturn, 1) := by decide +kernel
theorem dX12_starred_0 : decode cX12_starred 0 = .ok (.iload_n 2, 1) := by decide +kernel
theorem dX12_starred_1 : decode cX12_starred 1 = .ok (.istore_n 3, 1) := by decide +kernel
theorem dX12_starred_2 : decode cX12_starred 2 = .ok (.iconst 0, 1) := by decide +kernel
theorem dX12_starred_3 : decode cX12_starred 3 = .ok (.istore 4, 2) := by decide +kernel
theorem dX12_starred_5 : decode cX12_starred 5 = .ok (.iload 4, 2) := by decide +kernel
theorem dX12_starred_7 : decode cX12_starred 7 = .ok (.aload_n 0, 1) := by decide +kernel
theorem dX12_starred_8 : decode cX12_starred 8 = .ok (.getfield 67, 3) := by decide +kernel
theorem dX12_starred_11 : decode cX12_starred 11 = .ok (.iload_n 1, 1) := by decide +kernel
theorem dX12_starred_12 : decode cX12_starred 12 = .ok (.iaload, 1) := by decide +kernel
theorem dX12_starred_13 : decode cX12_starred 13 = .ok (.if_icmp .ge 47, 3) := by decide +kernel
theorem dX12_starred_16 : decode cX12_starred 16 = .ok (.iload_n 3, 1) := by decide +kernel
theorem dX12_starred_17 : decode cX12_starred 17 = .ok (.iload 4, 2) := by decide +kernel
theorem dX12_starred_19 : decode cX12_starred 19 = .ok (.ishr, 1) := by decide +kernel
theorem dX12_starred_20 : decode cX12_starred 20 = .ok (.iconst 1, 1) := by decide +kernel
theorem dX12_starred_21 : decode cX12_starred 21 = .ok (.iand, 1) := by decide +kernel
theorem dX12_starred_22 : decode cX12_starred 22 = .ok (.iconst 1, 1) := by decide +kernel
theorem dX12_starred_23 : decode cX12_starred 23 = .ok (.if_icmp .ne 29, 3) := by decide +kernel
theorem dX12_starred_26 : decode cX12_starred 26 = .ok (.aload_n 0, 1) := by decide +kernel
theorem dX12_starred_27 : decode cX12_starred 27 = .ok (.getfield 64, 3) := by decide +kernel
theorem dX12_starred_30 : decode cX12_starred 30 = .ok (.bipush 12, 2) := by decide +kernel
theorem dX12_starred_32 : decode cX12_starred 32 = .ok (.iload_n 1, 1) := by decide +kernel
theorem dX12_starred_33 : decode cX12_starred 33 = .ok (.imul, 1) := by decide +kernel
theorem dX12_starred_34 : decode cX12_starred 34 = .ok (.iload 4, 2) := by decide +kernel
theorem dX12_starred_36 : decode cX12_starred 36 = .ok (.iadd, 1) := by decide +kernel
theorem dX12_starred_37 : decode cX12_starred 37 = .ok (.iaload, 1) := by decide +kernel
theorem dX12_starred_38 : decode cX12_starred 38 = .ok (.bipush 42, 2) := by decide +kernel
theorem dX12_starred_40 : decode cX12_starred 40 = .ok (.if_icmp .ne 12, 3) := by decide +kernel
theorem dX12_starred_43 : decode cX12_starred 43 = .ok (.iload_n 3, 1) := by decide +kernel
theorem dX12_starred_44 : decode cX12_starred 44 = .ok (.iconst 2, 1) := by decide +kernel
theorem dX12_starred_45 : decode cX12_starred 45 = .ok (.iload 4, 2) := by decide +kernel
theorem dX12_starred_47 : decode cX12_starred 47 = .ok (.ishl, 1) := by decide +kernel
theorem dX12_starred_48 : decode cX12_starred 48 = .ok (.ior, 1) := by decide +kernel
theorem dX12_starred_49 : decode cX12_starred 49 = .ok (.goto 4, 3) := by decide +kernel
theorem dX12_starred_52 : decode cX12_starred 52 = .ok (.iload_n 3, 1) := by decide +kernel
theorem dX12_starred_53 : decode cX12_starred 53 = .ok (.istore_n 3, 1) := by decide +kernel
theorem dX12_starred_54 : decode cX12_starred 54 = .ok (.iinc 4 1, 3) := by decide +kernel
theorem dX12_starred_57 : decode cX12_starred 57 = .ok (.goto (-52), 3) := by decide +kernel
theorem dX12_starred_60 : decode cX12_starred 60 = .ok (.iload_n 3, 1) := by decide +kernel
theorem dX12_starred_61 : decode cX12_starred 61 = .ok (.ireturn, 1) := by decide +kernel
theorem dX12_isOver_0 : decode cX12_isOver 0 = .ok (.iload_n 0, 1) := by decide +kernel
theorem dX12_isOver_1 : decode cX12_isOver 1 = .ok (.bipush 47, 2) := by decide +kernel
theorem dX12_isOver_3 : decode cX12_isOver 3 = .ok (.if_icmp .eq 9, 3) := by decide +kernel
theorem dX12_isOver_6 : decode cX12_isOver 6 = .ok (.iload_n 0, 1) := by decide +kernel
theorem dX12_isOver_7 : decode cX12_isOver 7 = .ok (.bipush 37, 2) := by decide +kernel
theorem dX12_isOver_9 : decode cX12_isOver 9 = .ok (.if_icmp .ne 11, 3) := by decide +kernel
theorem dX12_isOver_12 : decode cX12_isOver 12 = .ok (.iload_n 1, 1) := by decide +kernel
theorem dX12_isOver_13 : decode cX12_isOver 13 = .ok (.ifCond .ne 7, 3) := by decide +kernel
theorem dX12_isOver_16 : decode cX12_isOver 16 = .ok (.iconst 1, 1) := by decide +kernel
theorem dX12_isOver_17 : decode cX12_isOver 17 = .ok (.goto 4, 3) := by decide +kernel
theorem dX12_isOver_20 : decode cX12_isOver 20 = .ok (.iconst 0, 1) := by decide +kernel
theorem dX12_isOver_21 : decode cX12_isOver 21 = .ok (.ireturn, 1) := by decide +kernel
theorem dX12_result_0 : decode cX12_result 0 = .ok (.iload_n 0, 1) := by decide +kernel
theorem dX12_result_1 : decode cX12_result 1 = .ok (.lookupswitch 109 #[(37, 83), (42, 75), (43, 67), (45, 71), (47, 79), (60, 87), (62, 98)], 67) := by decide +kernel
theorem dX12_result_68 : decode cX12_result 68 = .ok (.iload_n 1, 1) := by decide +kernel
theorem dX12_result_69 : decode cX12_result 69 = .ok (.iload_n 2, 1) := by decide +kernel
theorem dX12_result_70 : decode cX12_result 70 = .ok (.iadd, 1) := by decide +kernel
theorem dX12_result_71 : decode cX12_result 71 = .ok (.ireturn, 1) := by decide +kernel
theorem dX12_result_72 : decode cX12_result 72 = .ok (.iload_n 1, 1) := by decide +kernel
theorem dX12_result_73 : decode cX12_result 73 = .ok (.iload_n 2, 1) := by decide +kernel
theorem dX12_result_74 : decode cX12_result 74 = .ok (.isub, 1) := by decide +kernel
theorem dX12_result_75 : decode cX12_result 75 = .ok (.ireturn, 1) := by decide +kernel
theorem dX12_result_76 : decode cX12_result 76 = .ok (.iload_n 1, 1) := by decide +kernel
theorem dX12_result_77 : decode cX12_result 77 = .ok (.iload_n 2, 1) := by decide +kernel
theorem dX12_result_78 : decode cX12_result 78 = .ok (.imul, 1) := by decide +kernel
theorem dX12_result_79 : decode cX12_result 79 = .ok (.ireturn, 1) := by decide +kernel
theorem dX12_result_80 : decode cX12_result 80 = .ok (.iload_n 1, 1) := by decide +kernel
theorem dX12_result_81 : decode cX12_result 81 = .ok (.iload_n 2, 1) := by decide +kernel
theorem dX12_result_82 : decode cX12_result 82 = .ok (.idiv, 1) := by decide +kernel
theorem dX12_result_83 : decode cX12_result 83 = .ok (.ireturn, 1) := by decide +kernel
theorem dX12_result_84 : decode cX12_result 84 = .ok (.iload_n 1, 1) := by decide +kernel
theorem dX12_result_85 : decode cX12_result 85 = .ok (.iload_n 2, 1) := by decide +kernel
theorem dX12_result_86 : decode cX12_result 86 = .ok (.irem, 1) := by decide +kernel
theorem dX12_result_87 : decode cX12_result 87 = .ok (.ireturn, 1) := by decide +kernel
theorem dX12_result_88 : decode cX12_result 88 = .ok (.iload_n 1, 1) := by decide +kernel
theorem dX12_result_89 : decode cX12_result 89 = .ok (.iload_n 2, 1) := by decide +kernel
theorem dX12_result_90 : decode cX12_result 90 = .ok (.if_icmp .ge 7, 3) := by decide +kernel
theorem dX12_result_93 : decode cX12_result 93 = .ok (.iconst 1, 1) := by decide +kernel
theorem dX12_result_94 : decode cX12_result 94 = .ok (.goto 4, 3) := by decide +kernel
theorem dX12_result_97 : decode cX12_result 97 = .ok (.iconst 0, 1) := by decide +kernel
theorem dX12_result_98 : decode cX12_result 98 = .ok (.ireturn, 1) := by decide +kernel
theorem dX12_result_99 : decode cX12_result 99 = .ok (.iload_n 1, 1) := by decide +kernel
theorem dX12_result_100 : decode cX12_result 100 = .ok (.iload_n 2, 1) := by decide +kernel
theorem dX12_result_101 : decode cX12_result 101 = .ok (.if_icmp .le 7, 3) := by decide +kernel
theorem dX12_result_104 : decode cX12_result 104 = .ok (.iconst 1, 1) := by decide +kernel
theorem dX12_result_105 : decode cX12_result 105 = .ok (.goto 4, 3) := by decide +kernel
theorem dX12_result_108 : decode cX12_result 108 = .ok (.iconst 0, 1) := by decide +kernel
theorem dX12_result_109 : decode cX12_result 109 = .ok (.ireturn, 1) := by decide +kernel
theorem dX12_result_110 : decode cX12_result 110 = .ok (.iload_n 1, 1) := by decide +kernel
theorem dX12_result_111 : decode cX12_result 111 = .ok (.iload_n 2, 1) := by decide +kernel
theorem dX12_result_112 : decode cX12_result 112 = .ok (.if_icmp .ne 7, 3) := by decide +kernel
theorem dX12_result_115 : decode cX12_result 115 = .ok (.iconst 1, 1) := by decide +kernel
theorem dX12_result_116 : decode cX12_result 116 = .ok (.goto 4, 3) := by decide +kernel
theorem dX12_result_119 : decode cX12_result 119 = .ok (.iconst 0, 1) := by decide +kernel
theorem dX12_result_120 : decode cX12_result 120 = .ok (.ireturn, 1) := by decide +kernel
theorem dX12_probeExpression_0 : decode cX12_probeExpression 0 = .ok (.iload_n 1, 1) := by decide +kernel
theorem dX12_probeExpression_1 : decode cX12_probeExpression 1 = .ok (.invokestatic 141, 3) := by decide +kernel
theorem dX12_probeExpression_4 : decode cX12_probeExpression 4 = .ok (.istore_n 2, 1) := by decide +kernel
theorem dX12_probeExpression_5 : decode cX12_probeExpression 5 = .ok (.iconst 0, 1) := by decide +kernel
theorem dX12_probeExpression_6 : decode cX12_probeExpression 6 = .ok (.istore_n 3, 1) := by decide +kernel
theorem dX12_probeExpression_7 : decode cX12_probeExpression 7 = .ok (.iconst 0, 1) := by decide +kernel
theorem dX12_probeExpression_8 : decode cX12_probeExpression 8 = .ok (.istore 4, 2) := by decide +kernel
theorem dX12_probeExpression_10 : decode cX12_probeExpression 10 = .ok (.iconst 0, 1) := by decide +kernel
theorem dX12_probeExpression_11 : decode cX12_probeExpression 11 = .ok (.istore 5, 2) := by decide +kernel
theorem dX12_probeExpression_13 : decode cX12_probeExpression 13 = .ok (.aload_n 0, 1) := by decide +kernel
theorem dX12_probeExpression_14 : decode cX12_probeExpression 14 = .ok (.iconst 0, 1) := by decide +kernel
theorem dX12_probeExpression_15 : decode cX12_probeExpression 15 = .ok (.putfield 344, 3) := by decide +kernel
theorem dX12_probeExpression_18 : decode cX12_probeExpression 18 = .ok (.iload 5, 2) := by decide +kernel
theorem dX12_probeExpression_20 : decode cX12_probeExpression 20 = .ok (.aload_n 0, 1) := by decide +kernel
theorem dX12_probeExpression_21 : decode cX12_probeExpression 21 = .ok (.getfield 24, 3) := by decide +kernel
theorem dX12_probeExpression_24 : decode cX12_probeExpression 24 = .ok (.iload_n 1, 1) := by decide +kernel
theorem dX12_probeExpression_25 : decode cX12_probeExpression 25 = .ok (.iaload, 1) := by decide +kernel
theorem dX12_probeExpression_26 : decode cX12_probeExpression 26 = .ok (.if_icmp .ge 325, 3) := by decide +kernel
theorem dX12_probeExpression_29 : decode cX12_probeExpression 29 = .ok (.aload_n 0, 1) := by decide +kernel
theorem dX12_probeExpression_30 : decode cX12_probeExpression 30 = .ok (.getfield 17, 3) := by decide +kernel
theorem dX12_probeExpression_33 : decode cX12_probeExpression 33 = .ok (.iload_n 2, 1) := by decide +kernel
theorem dX12_probeExpression_34 : decode cX12_probeExpression 34 = .ok (.iload 5, 2) := by decide +kernel
theorem dX12_probeExpression_36 : decode cX12_probeExpression 36 = .ok (.iadd, 1) := by decide +kernel
theorem dX12_probeExpression_37 : decode cX12_probeExpression 37 = .ok (.iaload, 1) := by decide +kernel
theorem dX12_probeExpression_38 : decode cX12_probeExpression 38 = .ok (.istore 6, 2) := by decide +kernel
theorem dX12_probeExpression_40 : decode cX12_probeExpression 40 = .ok (.aload_n 0, 1) := by decide +kernel
theorem dX12_probeExpression_41 : decode cX12_probeExpression 41 = .ok (.getfield 20, 3) := by decide +kernel
theorem dX12_probeExpression_44 : decode cX12_probeExpression 44 = .ok (.iload_n 2, 1) := by decide +kernel
theorem dX12_probeExpression_45 : decode cX12_probeExpression 45 = .ok (.iload 5, 2) := by decide +kernel
theorem dX12_probeExpression_47 : decode cX12_probeExpression 47 = .ok (.iadd, 1) := by decide +kernel
theorem dX12_probeExpression_48 : decode cX12_probeExpression 48 = .ok (.laload, 1) := by decide +kernel
theorem dX12_probeExpression_49 : decode cX12_probeExpression 49 = .ok (.l2i, 1) := by decide +kernel
theorem dX12_probeExpression_50 : decode cX12_probeExpression 50 = .ok (.istore 7, 2) := by decide +kernel
theorem dX12_probeExpression_52 : decode cX12_probeExpression 52 = .ok (.iinc 5 1, 3) := by decide +kernel
theorem dX12_probeExpression_55 : decode cX12_probeExpression 55 = .ok (.iconst 0, 1) := by decide +kernel
theorem dX12_probeExpression_56 : decode cX12_probeExpression 56 = .ok (.istore 8, 2) := by decide +kernel
theorem dX12_probeExpression_58 : decode cX12_probeExpression 58 = .ok (.iload 6, 2) := by decide +kernel
theorem dX12_probeExpression_60 : decode cX12_probeExpression 60 = .ok (.ifCond .ne 17, 3) := by decide +kernel
theorem dX12_probeExpression_63 : decode cX12_probeExpression 63 = .ok (.aload_n 0, 1) := by decide +kernel
theorem dX12_probeExpression_64 : decode cX12_probeExpression 64 = .ok (.getfield 106, 3) := by decide +kernel
theorem dX12_probeExpression_67 : decode cX12_probeExpression 67 = .ok (.iload_n 3, 1) := by decide +kernel
theorem dX12_probeExpression_68 : decode cX12_probeExpression 68 = .ok (.iload 7, 2) := by decide +kernel
theorem dX12_probeExpression_70 : decode cX12_probeExpression 70 = .ok (.iastore, 1) := by decide +kernel
theorem dX12_probeExpression_71 : decode cX12_probeExpression 71 = .ok (.iinc 3 1, 3) := by decide +kernel
theorem dX12_probeExpression_74 : decode cX12_probeExpression 74 = .ok (.goto 238, 3) := by decide +kernel
theorem dX12_probeExpression_77 : decode cX12_probeExpression 77 = .ok (.iload 6, 2) := by decide +kernel
theorem dX12_probeExpression_79 : decode cX12_probeExpression 79 = .ok (.iconst 1, 1) := by decide +kernel
theorem dX12_probeExpression_80 : decode cX12_probeExpression 80 = .ok (.if_icmp .ne 22, 3) := by decide +kernel
theorem dX12_probeExpression_83 : decode cX12_probeExpression 83 = .ok (.aload_n 0, 1) := by decide +kernel
theorem dX12_probeExpression_84 : decode cX12_probeExpression 84 = .ok (.getfield 106, 3) := by decide +kernel
theorem dX12_probeExpression_87 : decode cX12_probeExpression 87 = .ok (.iload_n 3, 1) := by decide +kernel
theorem dX12_probeExpression_88 : decode cX12_probeExpression 88 = .ok (.aload_n 0, 1) := by decide +kernel
theorem dX12_probeExpression_89 : decode cX12_probeExpression 89 = .ok (.getfield 103, 3) := by decide +kernel
theorem dX12_probeExpression_92 : decode cX12_probeExpression 92 = .ok (.iload 7, 2) := by decide +kernel
theorem dX12_probeExpression_94 : decode cX12_probeExpression 94 = .ok (.iaload, 1) := by decide +kernel
theorem dX12_probeExpression_95 : decode cX12_probeExpression 95 = .ok (.iastore, 1) := by decide +kernel


theorem dX4_setParameters_8 : decode cX4_setParameters 8 = .ok (.aload 5, 2) := by decide +kernel
theorem dX4_setParameters_10 : decode cX4_setParameters 10 = .ok (.iconst 0, 1) := by decide +kernel
theorem dX4_setParameters_11 : decode cX4_setParameters 11 = .ok (.iload_n 1, 1) := by decide +kernel
theorem dX4_setParameters_12 : decode cX4_setParameters 12 = .ok (.ifCond .le 7, 3) := by decide +kernel
theorem dX4_setParameters_15 : decode cX4_setParameters 15 = .ok (.iload_n 2, 1) := by decide +kernel
theorem dX4_setParameters_16 : decode cX4_setParameters 16 = .ok (.goto 4, 3) := by decide +kernel
theorem dX4_setParameters_19 : decode cX4_setParameters 19 = .ok (.iconst 0, 1) := by decide +kernel
theorem dX4_setParameters_20 : decode cX4_setParameters 20 = .ok (.iastore, 1) := by decide +kernel
theorem dX4_setParameters_21 : decode cX4_setParameters 21 = .ok (.aload 5, 2) := by decide +kernel
theorem dX4_setParameters_23 : decode cX4_setParameters 23 = .ok (.iconst 1, 1) := by decide +kernel
theorem dX4_setParameters_24 : decode cX4_setParameters 24 = .ok (.iload_n 1, 1) := by decide +kernel
theorem dX4_setParameters_25 : decode cX4_setParameters 25 = .ok (.iconst 1, 1) := by decide +kernel
theorem dX4_setParameters_26 : decode cX4_setParameters 26 = .ok (.if_icmp .le 7, 3) := by decide +kernel
theorem dX4_setParameters_29 : decode cX4_setParameters 29 = .ok (.iload_n 3, 1) := by decide +kernel
theorem dX4_setParameters_30 : decode cX4_setParameters 30 = .ok (.goto 4, 3) := by decide +kernel
theorem dX4_setParameters_33 : decode cX4_setParameters 33 = .ok (.iconst 0, 1) := by decide +kernel
theorem dX4_setParameters_34 : decode cX4_setParameters 34 = .ok (.iastore, 1) := by decide +kernel
theorem dX4_setParameters_35 : decode cX4_setParameters 35 = .ok (.aload 5, 2) := by decide +kernel
theorem dX4_setParameters_37 : decode cX4_setParameters 37 = .ok (.iconst 2, 1) := by decide +kernel
theorem dX4_setParameters_38 : decode cX4_setParameters 38 = .ok (.iload_n 1, 1) := by decide +kernel
theorem dX4_setParameters_39 : decode cX4_setParameters 39 = .ok (.iconst 2, 1) := by decide +kernel
theorem dX4_setParameters_40 : decode cX4_setParameters 40 = .ok (.if_icmp .le 8, 3) := by decide +kernel
theorem dX4_setParameters_43 : decode cX4_setParameters 43 = .ok (.iload 4, 2) := by decide +kernel
theorem dX4_setParameters_45 : decode cX4_setParameters 45 = .ok (.goto 4, 3) := by decide +kernel
theorem dX4_setParameters_48 : decode cX4_setParameters 48 = .ok (.iconst 0, 1) := by decide +kernel
theorem dX4_setParameters_49 : decode cX4_setParameters 49 = .ok (.iastore, 1) := by decide +kernel
theorem dX4_setParameters_50 : decode cX4_setParameters 50 = .ok (.return_, 1) := by decide +kernel
theorem dX4_start_0 : decode cX4_start 0 = .ok (.aload_n 0, 1) := by decide +kernel
theorem dX4_start_1 : decode cX4_start 1 = .ok (.iload_n 2, 1) := by decide +kernel
theorem dX4_start_2 : decode cX4_start 2 = .ok (.putfield 37, 3) := by decide +kernel
theorem dX4_start_5 : decode cX4_start 5 = .ok (.aload_n 0, 1) := by decide +kernel
theorem dX4_start_6 : decode cX4_start 6 = .ok (.iconst 0, 1) := by decide +kernel
theorem dX4_start_7 : decode cX4_start 7 = .ok (.putfield 41, 3) := by decide +kernel
theorem dX4_start_10 : decode cX4_start 10 = .ok (.aload_n 0, 1) := by decide +kernel
theorem dX4_start_11 : decode cX4_start 11 = .ok (.iconst 0, 1) := by decide +kernel
theorem dX4_start_12 : decode cX4_start 12 = .ok (.putfield 45, 3) := by decide +kernel
theorem dX4_start_15 : decode cX4_start 15 = .ok (.aload_n 0, 1) := by decide +kernel
theorem dX4_start_16 : decode cX4_start 16 = .ok (.iconst 0, 1) := by decide +kernel
theorem dX4_start_17 : decode cX4_start 17 = .ok (.putfield 48, 3) := by decide +kernel
theorem dX4_start_20 : decode cX4_start 20 = .ok (.aload_n 0, 1) := by decide +kernel
theorem dX4_start_21 : decode cX4_start 21 = .ok (.aload_n 0, 1) := by decide +kernel
theorem dX4_start_22 : decode cX4_start 22 = .ok (.iload_n 1, 1) := by decide +kernel
theorem dX4_start_23 : decode cX4_start 23 = .ok (.iconst 1, 1) := by decide +kernel
theorem dX4_start_24 : decode cX4_start 24 = .ok (.invokevirtual 51, 3) := by decide +kernel
theorem dX4_start_27 : decode cX4_start 27 = .ok (.putfield 55, 3) := by decide +kernel
theorem dX4_start_30 : decode cX4_start 30 = .ok (.aload_n 0, 1) := by decide +kernel
theorem dX4_start_31 : decode cX4_start 31 = .ok (.getfield 58, 3) := by decide +kernel
theorem dX4_start_34 : decode cX4_start 34 = .ok (.ifCond .eq 7, 3) := by decide +kernel
theorem dX4_start_37 : decode cX4_start 37 = .ok (.iconst 1, 1) := by decide +kernel
theorem dX4_start_38 : decode cX4_start 38 = .ok (.goto 4, 3) := by decide +kernel
theorem dX4_start_41 : decode cX4_start 41 = .ok (.iconst 0, 1) := by decide +kernel
theorem dX4_start_42 : decode cX4_start 42 = .ok (.ireturn, 1) := by decide +kernel
theorem dX4_invoke_0 : decode cX4_invoke 0 = .ok (.iload_n 2, 1) := by decide +kernel
theorem dX4_invoke_1 : decode cX4_invoke 1 = .ok (.bipush 10, 2) := by decide +kernel
theorem dX4_invoke_3 : decode cX4_invoke 3 = .ok (.if_icmp .le 11, 3) := by decide +kernel
theorem dX4_invoke_6 : decode cX4_invoke 6 = .ok (.aload_n 0, 1) := by decide +kernel
theorem dX4_invoke_7 : decode cX4_invoke 7 = .ok (.iconst 1, 1) := by decide +kernel
theorem dX4_invoke_8 : decode cX4_invoke 8 = .ok (.putfield 58, 3) := by decide +kernel
theorem dX4_invoke_11 : decode cX4_invoke 11 = .ok (.bipush (-2), 2) := by decide +kernel
theorem dX4_invoke_13 : decode cX4_invoke 13 = .ok (.ireturn, 1) := by decide +kernel
theorem dX4_invoke_14 : decode cX4_invoke 14 = .ok (.aload_n 0, 1) := by decide +kernel
theorem dX4_invoke_15 : decode cX4_invoke 15 = .ok (.getfield 41, 3) := by decide +kernel
theorem dX4_invoke_18 : decode cX4_invoke 18 = .ok (.sipush 1000, 3) := by decide +kernel
theorem dX4_invoke_21 : decode cX4_invoke 21 = .ok (.if_icmp .lt 16, 3) := by decide +kernel
theorem dX4_invoke_24 : decode cX4_invoke 24 = .ok (.aload_n 0, 1) := by decide +kernel
theorem dX4_invoke_25 : decode cX4_invoke 25 = .ok (.iconst 1, 1) := by decide +kernel
theorem dX4_invoke_26 : decode cX4_invoke 26 = .ok (.putfield 58, 3) := by decide +kernel
theorem dX4_invoke_29 : decode cX4_invoke 29 = .ok (.aload_n 0, 1) := by decide +kernel
theorem dX4_invoke_30 : decode cX4_invoke 30 = .ok (.iconst 1, 1) := by decide +kernel
theorem dX4_invoke_31 : decode cX4_invoke 31 = .ok (.putfield 45, 3) := by decide +kernel
theorem dX4_invoke_34 : decode cX4_invoke 34 = .ok (.bipush (-3), 2) := by decide +kernel
theorem dX4_invoke_36 : decode cX4_invoke 36 = .ok (.ireturn, 1) := by decide +kernel
theorem dX4_invoke_37 : decode cX4_invoke 37 = .ok (.aload_n 0, 1) := by decide +kernel
theorem dX4_invoke_38 : decode cX4_invoke 38 = .ok (.dup, 1) := by decide +kernel
theorem dX4_invoke_39 : decode cX4_invoke 39 = .ok (.getfield 41, 3) := by decide +kernel
theorem dX4_invoke_42 : decode cX4_invoke 42 = .ok (.iconst 1, 1) := by decide +kernel
theorem dX4_invoke_43 : decode cX4_invoke 43 = .ok (.iadd, 1) := by decide +kernel
theorem dX4_invoke_44 : decode cX4_invoke 44 = .ok (.putfield 41, 3) := by decide +kernel
theorem dX4_invoke_47 : decode cX4_invoke 47 = .ok (.aload_n 0, 1) := by decide +kernel
theorem dX4_invoke_48 : decode cX4_invoke 48 = .ok (.getfield 28, 3) := by decide +kernel
theorem dX4_invoke_51 : decode cX4_invoke 51 = .ok (.iload_n 2, 1) := by decide +kernel
theorem dX4_invoke_52 : decode cX4_invoke 52 = .ok (.aaload, 1) := by decide +kernel
theorem dX4_invoke_53 : decode cX4_invoke 53 = .ok (.astore_n 3, 1) := by decide +kernel
theorem dX4_invoke_54 : decode cX4_invoke 54 = .ok (.aload_n 3, 1) := by decide +kernel
theorem dX4_invoke_55 : decode cX4_invoke 55 = .ok (.iconst 3, 1) := by decide +kernel
theorem dX4_invoke_56 : decode cX4_invoke 56 = .ok (.iconst 0, 1) := by decide +kernel
theorem dX4_invoke_57 : decode cX4_invoke 57 = .ok (.iastore, 1) := by decide +kernel
theorem dX4_invoke_58 : decode cX4_invoke 58 = .ok (.aload_n 3, 1) := by decide +kernel
theorem dX4_invoke_59 : decode cX4_invoke 59 = .ok (.iconst 4, 1) := by decide +kernel
theorem dX4_invoke_60 : decode cX4_invoke 60 = .ok (.iconst 0, 1) := by decide +kernel
theorem dX4_invoke_61 : decode cX4_invoke 61 = .ok (.iastore, 1) := by decide +kernel
theorem dX4_invoke_62 : decode cX4_invoke 62 = .ok (.aload_n 3, 1) := by decide +kernel
theorem dX4_invoke_63 : decode cX4_invoke 63 = .ok (.iconst 5, 1) := by decide +kernel
theorem dX4_invoke_64 : decode cX4_invoke 64 = .ok (.iload_n 2, 1) := by decide +kernel
theorem dX4_invoke_65 : decode cX4_invoke 65 = .ok (.iastore, 1) := by decide +kernel
theorem dX4_invoke_66 : decode cX4_invoke 66 = .ok (.aload_n 0, 1) := by decide +kernel
theorem dX4_invoke_67 : decode cX4_invoke 67 = .ok (.iload_n 1, 1) := by decide +kernel
theorem dX4_invoke_68 : decode cX4_invoke 68 = .ok (.iconst 0, 1) := by decide +kernel
theorem dX4_invoke_69 : decode cX4_invoke 69 = .ok (.aload_n 3, 1) := by decide +kernel
theorem dX4_invoke_70 : decode cX4_invoke 70 = .ok (.invokevirtual 63, 3) := by decide +kernel
theorem dX4_invoke_73 : decode cX4_invoke 73 = .ok (.aload_n 0, 1) := by decide +kernel
theorem dX4_invoke_74 : decode cX4_invoke 74 = .ok (.aload_n 0, 1) := by decide +kernel
theorem dX4_invoke_75 : decode cX4_invoke 75 = .ok (.getfield 9, 3) := by decide +kernel
theorem dX4_invoke_78 : decode cX4_invoke 78 = .ok (.iload_n 1, 1) := by decide +kernel
theorem dX4_invoke_79 : decode cX4_invoke 79 = .ok (.invokevirtual 67, 3) := by decide +kernel
theorem dX4_invoke_82 : decode cX4_invoke 82 = .ok (.aload_n 3, 1) := by decide +kernel
theorem dX4_invoke_83 : decode cX4_invoke 83 = .ok (.invokevirtual 73, 3) := by decide +kernel
theorem dX4_invoke_86 : decode cX4_invoke 86 = .ok (.istore 4, 2) := by decide +kernel
theorem dX4_invoke_88 : decode cX4_invoke 88 = .ok (.aload_n 0, 1) := by decide +kernel
theorem dX4_invoke_89 : decode cX4_invoke 89 = .ok (.getfield 58, 3) := by decide +kernel
theorem dX4_invoke_92 : decode cX4_invoke 92 = .ok (.istore 5, 2) := by decide +kernel
theorem dX4_invoke_94 : decode cX4_invoke 94 = .ok (.aload_n 3, 1) := by decide +kernel
theorem dX4_invoke_95 : decode cX4_invoke 95 = .ok (.iload 5, 2) := by decide +kernel
theorem dX4_invoke_97 : decode cX4_invoke 97 = .ok (.ifCond .eq 7, 3) := by decide +kernel
theorem dX4_invoke_100 : decode cX4_invoke 100 = .ok (.iconst 4, 1) := by decide +kernel
theorem dX4_invoke_101 : decode cX4_invoke 101 = .ok (.goto 4, 3) := by decide +kernel
theorem dX4_invoke_104 : decode cX4_invoke 104 = .ok (.iconst 3, 1) := by decide +kernel
theorem dX4_invoke_105 : decode cX4_invoke 105 = .ok (.iload 4, 2) := by decide +kernel
theorem dX4_invoke_107 : decode cX4_invoke 107 = .ok (.iastore, 1) := by decide +kernel
theorem dX4_invoke_108 : decode cX4_invoke 108 = .ok (.aload_n 0, 1) := by decide +kernel
theorem dX4_invoke_109 : decode cX4_invoke 109 = .ok (.iload_n 1, 1) := by decide +kernel
theorem dX4_invoke_110 : decode cX4_invoke 110 = .ok (.iload 5, 2) := by decide +kernel
theorem dX4_invoke_112 : decode cX4_invoke 112 = .ok (.ifCond .eq 7, 3) := by decide +kernel
theorem dX4_invoke_115 : decode cX4_invoke 115 = .ok (.iconst 2, 1) := by decide +kernel
theorem dX4_invoke_116 : decode cX4_invoke 116 = .ok (.goto 4, 3) := by decide +kernel
theorem dX4_invoke_119 : decode cX4_invoke 119 = .ok (.iconst 1, 1) := by decide +kernel
theorem dX4_invoke_120 : decode cX4_invoke 120 = .ok (.aload_n 3, 1) := by decide +kernel
theorem dX4_invoke_121 : decode cX4_invoke 121 = .ok (.invokevirtual 63, 3) := by decide +kernel
theorem dX4_invoke_124 : decode cX4_invoke 124 = .ok (.aload_n 0, 1) := by decide +kernel
theorem dX4_invoke_125 : decode cX4_invoke 125 = .ok (.iload 5, 2) := by decide +kernel
theorem dX4_invoke_127 : decode cX4_invoke 127 = .ok (.putfield 58, 3) := by decide +kernel
theorem dX4_invoke_130 : decode cX4_invoke 130 = .ok (.iload 4, 2) := by decide +kernel
theorem dX4_invoke_132 : decode cX4_invoke 132 = .ok (.ireturn, 1) := by decide +kernel
theorem dX4_run_0 : decode cX4_run 0 = .ok (.aload_n 0, 1) := by decide +kernel
theorem dX4_run_1 : decode cX4_run 1 = .ok (.getfield 48, 3) := by decide +kernel
theorem dX4_run_4 : decode cX4_run 4 = .ok (.istore_n 3, 1) := by decide +kernel
theorem dX4_run_5 : decode cX4_run 5 = .ok (.iconst 0, 1) := by decide +kernel
theorem dX4_run_6 : decode cX4_run 6 = .ok (.istore 4, 2) := by decide +kernel
theorem dX4_run_8 : decode cX4_run 8 = .ok (.aload_n 0, 1) := by decide +kernel
theorem dX4_run_9 : decode cX4_run 9 = .ok (.iconst 0, 1) := by decide +kernel
theorem dX4_run_10 : decode cX4_run 10 = .ok (.putfield 58, 3) := by decide +kernel
theorem dX4_run_13 : decode cX4_run 13 = .ok (.iconst 0, 1) := by decide +kernel
theorem dX4_run_14 : decode cX4_run 14 = .ok (.istore 5, 2) := by decide +kernel
theorem dX4_run_16 : decode cX4_run 16 = .ok (.iload 5, 2) := by decide +kernel
theorem dX4_run_18 : decode cX4_run 18 = .ok (.bipush 26, 2) := by decide +kernel
theorem dX4_run_20 : decode cX4_run 20 = .ok (.if_icmp .ge 50, 3) := by decide +kernel
theorem dX4_run_23 : decode cX4_run 23 = .ok (.iload 4, 2) := by decide +kernel
theorem dX4_run_25 : decode cX4_run 25 = .ok (.aload_n 1, 1) := by decide +kernel
theorem dX4_run_26 : decode cX4_run 26 = .ok (.getfield 77, 3) := by decide +kernel
theorem dX4_run_29 : decode cX4_run 29 = .ok (.if_icmp .ge 41, 3) := by decide +kernel
theorem dX4_run_32 : decode cX4_run 32 = .ok (.aload_n 0, 1) := by decide +kernel
theorem dX4_run_33 : decode cX4_run 33 = .ok (.aload_n 1, 1) := by decide +kernel
theorem dX4_run_34 : decode cX4_run 34 = .ok (.iload 4, 2) := by decide +kernel
theorem dX4_run_36 : decode cX4_run 36 = .ok (.aload_n 2, 1) := by decide +kernel
theorem dX4_run_37 : decode cX4_run 37 = .ok (.invokevirtual 80, 3) := by decide +kernel
theorem dX4_run_40 : decode cX4_run 40 = .ok (.istore 6, 2) := by decide +kernel
theorem dX4_run_42 : decode cX4_run 42 = .ok (.aload_n 0, 1) := by decide +kernel
theorem dX4_run_43 : decode cX4_run 43 = .ok (.getfield 58, 3) := by decide +kernel
theorem dX4_run_46 : decode cX4_run 46 = .ok (.ifCond .eq 14, 3) := by decide +kernel
theorem dX4_run_49 : decode cX4_run 49 = .ok (.aload_n 0, 1) := by decide +kernel
theorem dX4_run_50 : decode cX4_run 50 = .ok (.aload_n 1, 1) := by decide +kernel
theorem dX4_run_51 : decode cX4_run 51 = .ok (.iload 4, 2) := by decide +kernel
theorem dX4_run_53 : decode cX4_run 53 = .ok (.iload_n 3, 1) := by decide +kernel
theorem dX4_run_54 : decode cX4_run 54 = .ok (.invokevirtual 84, 3) := by decide +kernel
theorem dX4_run_57 : decode cX4_run 57 = .ok (.goto 5, 3) := by decide +kernel
theorem dX4_run_60 : decode cX4_run 60 = .ok (.iload 6, 2) := by decide +kernel
theorem dX4_run_62 : decode cX4_run 62 = .ok (.istore 4, 2) := by decide +kernel
theorem dX4_run_64 : decode cX4_run 64 = .ok (.iinc 5 1, 3) := by decide +kernel
theorem dX4_run_67 : decode cX4_run 67 = .ok (.goto (-51), 3) := by decide +kernel
theorem dX4_run_70 : decode cX4_run 70 = .ok (.aload_n 0, 1) := by decide +kernel
theorem dX4_run_71 : decode cX4_run 71 = .ok (.getfield 58, 3) := by decide +kernel
theorem dX4_run_74 : decode cX4_run 74 = .ok (.ifCond .eq 10, 3) := by decide +kernel
theorem dX4_run_77 : decode cX4_run 77 = .ok (.aload_n 0, 1) := by decide +kernel
theorem dX4_run_78 : decode cX4_run 78 = .ok (.getfield 88, 3) := by decide +kernel
theorem dX4_run_81 : decode cX4_run 81 = .ok (.goto 7, 3) := by decide +kernel
theorem dX4_run_84 : decode cX4_run 84 = .ok (.aload_n 0, 1) := by decide +kernel
theorem dX4_run_85 : decode cX4_run 85 = .ok (.invokevirtual 91, 3) := by decide +kernel
theorem dX4_run_88 : decode cX4_run 88 = .ok (.istore 5, 2) := by decide +kernel
theorem dX4_run_90 : decode cX4_run 90 = .ok (.aload_n 0, 1) := by decide +kernel
theorem dX4_run_91 : decode cX4_run 91 = .ok (.iload_n 3, 1) := by decide +kernel
theorem dX4_run_92 : decode cX4_run 92 = .ok (.putfield 48, 3) := by decide +kernel
theorem dX4_run_95 : decode cX4_run 95 = .ok (.iload 5, 2) := by decide +kernel
theorem dX4_run_97 : decode cX4_run 97 = .ok (.ireturn, 1) := by decide +kernel
theorem dX4_step_0 : decode cX4_step 0 = .ok (.aload_n 1, 1) := by decide +kernel
theorem dX4_step_1 : decode cX4_step 1 = .ok (.getfield 95, 3) := by decide +kernel
theorem dX4_step_4 : decode cX4_step 4 = .ok (.iload_n 2, 1) := by decide +kernel
theorem dX4_step_5 : decode cX4_step 5 = .ok (.laload, 1) := by decide +kernel
theorem dX4_step_6 : decode cX4_step 6 = .ok (.lstore 4, 2) := by decide +kernel
theorem dX4_step_8 : decode cX4_step 8 = .ok (.aload_n 1, 1) := by decide +kernel
theorem dX4_step_9 : decode cX4_step 9 = .ok (.getfield 99, 3) := by decide +kernel
theorem dX4_step_12 : decode cX4_step 12 = .ok (.iload_n 2, 1) := by decide +kernel
theorem dX4_step_13 : decode cX4_step 13 = .ok (.iaload, 1) := by decide +kernel
theorem dX4_step_14 : decode cX4_step 14 = .ok (.istore 6, 2) := by decide +kernel
theorem dX4_step_16 : decode cX4_step 16 = .ok (.iload 6, 2) := by decide +kernel
theorem dX4_step_18 : decode cX4_step 18 = .ok (.tableswitch 146 0 7 #[46, 56, 88, 100, 111, 128, 128, 132], 46) := by decide +kernel
theorem dX4_step_64 : decode cX4_step 64 = .ok (.aload_n 0, 1) := by decide +kernel
theorem dX4_step_65 : decode cX4_step 65 = .ok (.lload 4, 2) := by decide +kernel
theorem dX4_step_67 : decode cX4_step 67 = .ok (.l2i, 1) := by decide +kernel
theorem dX4_step_68 : decode cX4_step 68 = .ok (.invokevirtual 102, 3) := by decide +kernel
theorem dX4_step_71 : decode cX4_step 71 = .ok (.goto 145, 3) := by decide +kernel
theorem dX4_step_74 : decode cX4_step 74 = .ok (.aload_n 0, 1) := by decide +kernel
theorem dX4_step_75 : decode cX4_step 75 = .ok (.lload 4, 2) := by decide +kernel
theorem dX4_step_77 : decode cX4_step 77 = .ok (.lconst 0, 1) := by decide +kernel
theorem dX4_step_78 : decode cX4_step 78 = .ok (.lcmp, 1) := by decide +kernel
theorem dX4_step_79 : decode cX4_step 79 = .ok (.ifCond .lt 20, 3) := by decide +kernel
theorem dX4_step_82 : decode cX4_step 82 = .ok (.lload 4, 2) := by decide +kernel
theorem dX4_step_84 : decode cX4_step 84 = .ok (.ldc2_w 106, 3) := by decide +kernel
theorem dX4_step_87 : decode cX4_step 87 = .ok (.lcmp, 1) := by decide +kernel
theorem dX4_step_88 : decode cX4_step 88 = .ok (.ifCond .ge 11, 3) := by decide +kernel
theorem dX4_step_91 : decode cX4_step 91 = .ok (.aload_n 3, 1) := by decide +kernel
theorem dX4_step_92 : decode cX4_step 92 = .ok (.lload 4, 2) := by decide +kernel
theorem dX4_step_94 : decode cX4_step 94 = .ok (.l2i, 1) := by decide +kernel
theorem dX4_step_95 : decode cX4_step 95 = .ok (.iaload, 1) := by decide +kernel
theorem dX4_step_96 : decode cX4_step 96 = .ok (.goto 4, 3) := by decide +kernel
theorem dX4_step_99 : decode cX4_step 99 = .ok (.iconst 0, 1) := by decide +kernel
theorem dX4_step_100 : decode cX4_step 100 = .ok (.invokevirtual 102, 3) := by decide +kernel
theorem dX4_step_103 : decode cX4_step 103 = .ok (.goto 113, 3) := by decide +kernel
theorem dX4_step_106 : decode cX4_step 106 = .ok (.aload_n 0, 1) := by decide +kernel
theorem dX4_step_107 : decode cX4_step 107 = .ok (.aload_n 0, 1) := by decide +kernel
theorem dX4_step_108 : decode cX4_step 108 = .ok (.invokevirtual 91, 3) := by decide +kernel
theorem dX4_step_111 : decode cX4_step 111 = .ok (.ineg, 1) := by decide +kernel
theorem dX4_step_112 : decode cX4_step 112 = .ok (.invokevirtual 102, 3) := by decide +kernel
theorem dX4_step_115 : decode cX4_step 115 = .ok (.goto 101, 3) := by decide +kernel
theorem dX4_step_118 : decode cX4_step 118 = .ok (.aload_n 0, 1) := by decide +kernel
theorem dX4_step_119 : decode cX4_step 119 = .ok (.aload_n 0, 1) := by decide +kernel
theorem dX4_step_120 : decode cX4_step 120 = .ok (.invokevirtual 91, 3) := by decide +kernel
theorem dX4_step_123 : decode cX4_step 123 = .ok (.invokevirtual 108, 3) := by decide +kernel
theorem dX4_step_126 : decode cX4_step 126 = .ok (.goto 90, 3) := by decide +kernel
theorem dX4_step_129 : decode cX4_step 129 = .ok (.aload_n 0, 1) := by decide +kernel
theorem dX4_step_130 : decode cX4_step 130 = .ok (.invokevirtual 91, 3) := by decide +kernel
theorem dX4_step_133 : decode cX4_step 133 = .ok (.ifCond .ne 9, 3) := by decide +kernel
theorem dX4_step_136 : decode cX4_step 136 = .ok (.lload 4, 2) := by decide +kernel
theorem dX4_step_138 : decode cX4_step 138 = .ok (.l2i, 1) := by decide +kernel
theorem dX4_step_139 : decode cX4_step 139 = .ok (.goto 6, 3) := by decide +kernel
theorem dX4_step_142 : decode cX4_step 142 = .ok (.iload_n 2, 1) := by decide +kernel
theorem dX4_step_143 : decode cX4_step 143 = .ok (.iconst 1, 1) := by decide +kernel
theorem dX4_step_144 : decode cX4_step 144 = .ok (.iadd, 1) := by decide +kernel
theorem dX4_step_145 : decode cX4_step 145 = .ok (.ireturn, 1) := by decide +kernel
theorem dX4_step_146 : decode cX4_step 146 = .ok (.lload 4, 2) := by decide +kernel
theorem dX4_step_148 : decode cX4_step 148 = .ok (.l2i, 1) := by decide +kernel
theorem dX4_step_149 : decode cX4_step 149 = .ok (.ireturn, 1) := by decide +kernel
theorem dX4_step_150 : decode cX4_step 150 = .ok (.aload_n 0, 1) := by decide +kernel
theorem dX4_step_151 : decode cX4_step 151 = .ok (.lload 4, 2) := by decide +kernel
theorem dX4_step_153 : decode cX4_step 153 = .ok (.aload_n 3, 1) := by decide +kernel
theorem dX4_step_154 : decode cX4_step 154 = .ok (.iconst 5, 1) := by decide +kernel
theorem dX4_step_155 : decode cX4_step 155 = .ok (.iaload, 1) := by decide +kernel
theorem dX4_step_156 : decode cX4_step 156 = .ok (.iconst 1, 1) := by decide +kernel
theorem dX4_step_157 : decode cX4_step 157 = .ok (.iadd, 1) := by decide +kernel
theorem dX4_step_158 : decode cX4_step 158 = .ok (.invokevirtual 111, 3) := by decide +kernel
theorem dX4_step_161 : decode cX4_step 161 = .ok (.goto 55, 3) := by decide +kernel
theorem dX4_step_164 : decode cX4_step 164 = .ok (.aload_n 0, 1) := by decide +kernel
theorem dX4_step_165 : decode cX4_step 165 = .ok (.invokevirtual 91, 3) := by decide +kernel
theorem dX4_step_168 : decode cX4_step 168 = .ok (.istore 7, 2) := by decide +kernel
theorem dX4_step_170 : decode cX4_step 170 = .ok (.aload_n 0, 1) := by decide +kernel
theorem dX4_step_171 : decode cX4_step 171 = .ok (.invokevirtual 91, 3) := by decide +kernel
theorem dX4_step_174 : decode cX4_step 174 = .ok (.istore 8, 2) := by decide +kernel
theorem dX4_step_176 : decode cX4_step 176 = .ok (.iload 7, 2) := by decide +kernel
theorem dX4_step_178 : decode cX4_step 178 = .ok (.ifCond .ne 25, 3) := by decide +kernel
theorem dX4_step_181 : decode cX4_step 181 = .ok (.iload 6, 2) := by decide +kernel
theorem dX4_step_183 : decode cX4_step 183 = .ok (.bipush 47, 2) := by decide +kernel
theorem dX4_step_185 : decode cX4_step 185 = .ok (.if_icmp .eq 10, 3) := by decide +kernel
theorem dX4_step_188 : decode cX4_step 188 = .ok (.iload 6, 2) := by decide +kernel
theorem dX4_step_190 : decode cX4_step 190 = .ok (.bipush 37, 2) := by decide +kernel
theorem dX4_step_192 : decode cX4_step 192 = .ok (.if_icmp .ne 11, 3) := by decide +kernel
theorem dX4_step_195 : decode cX4_step 195 = .ok (.aload_n 0, 1) := by decide +kernel
theorem dX4_step_196 : decode cX4_step 196 = .ok (.iconst (-1), 1) := by decide +kernel
theorem dX4_step_197 : decode cX4_step 197 = .ok (.invokevirtual 108, 3) := by decide +kernel
theorem dX4_step_200 : decode cX4_step 200 = .ok (.goto 16, 3) := by decide +kernel
theorem dX4_step_203 : decode cX4_step 203 = .ok (.aload_n 0, 1) := by decide +kernel
theorem dX4_step_204 : decode cX4_step 204 = .ok (.iload 6, 2) := by decide +kernel
theorem dX4_step_206 : decode cX4_step 206 = .ok (.iload 8, 2) := by decide +kernel
theorem dX4_step_208 : decode cX4_step 208 = .ok (.iload 7, 2) := by decide +kernel
theorem dX4_step_210 : decode cX4_step 210 = .ok (.invokestatic 115, 3) := by decide +kernel
theorem dX4_step_213 : decode cX4_step 213 = .ok (.invokevirtual 102, 3) := by decide +kernel
theorem dX4_step_216 : decode cX4_step 216 = .ok (.iload_n 2, 1) := by decide +kernel
theorem dX4_step_217 : decode cX4_step 217 = .ok (.iconst 1, 1) := by decide +kernel
theorem dX4_step_218 : decode cX4_step 218 = .ok (.iadd, 1) := by decide +kernel
theorem dX4_step_219 : decode cX4_step 219 = .ok (.ireturn, 1) := by decide +kernel
theorem dX4_fail_0 : decode cX4_fail 0 = .ok (.aload_n 0, 1) := by decide +kernel
theorem dX4_fail_1 : decode cX4_fail 1 = .ok (.iconst 1, 1) := by decide +kernel
theorem dX4_fail_2 : decode cX4_fail 2 = .ok (.putfield 58, 3) := by decide +kernel
theorem dX4_fail_5 : decode cX4_fail 5 = .ok (.aload_n 0, 1) := by decide +kernel
theorem dX4_fail_6 : decode cX4_fail 6 = .ok (.iload_n 1, 1) := by decide +kernel
theorem dX4_fail_7 : decode cX4_fail 7 = .ok (.putfield 88, 3) := by decide +kernel
theorem dX4_fail_10 : decode cX4_fail 10 = .ok (.return_, 1) := by decide +kernel
theorem dX4_behindThrow_0 : decode cX4_behindThrow 0 = .ok (.aload_n 0, 1) := by decide +kernel
theorem dX4_behindThrow_1 : decode cX4_behindThrow 1 = .ok (.getfield 45, 3) := by decide +kernel
theorem dX4_behindThrow_4 : decode cX4_behindThrow 4 = .ok (.ifCond .eq 18, 3) := by decide +kernel
theorem dX4_behindThrow_7 : decode cX4_behindThrow 7 = .ok (.aload_n 1, 1) := by decide +kernel
theorem dX4_behindThrow_8 : decode cX4_behindThrow 8 = .ok (.getfield 99, 3) := by decide +kernel
theorem dX4_behindThrow_11 : decode cX4_behindThrow 11 = .ok (.iload_n 2, 1) := by decide +kernel
theorem dX4_behindThrow_12 : decode cX4_behindThrow 12 = .ok (.iaload, 1) := by decide +kernel
theorem dX4_behindThrow_13 : decode cX4_behindThrow 13 = .ok (.bipush 7, 2) := by decide +kernel
theorem dX4_behindThrow_15 : decode cX4_behindThrow 15 = .ok (.if_icmp .ne 7, 3) := by decide +kernel
theorem dX4_behindThrow_18 : decode cX4_behindThrow 18 = .ok (.iconst 1, 1) := by decide +kernel
theorem dX4_behindThrow_19 : decode cX4_behindThrow 19 = .ok (.goto 4, 3) := by decide +kernel
theorem dX4_behindThrow_22 : decode cX4_behindThrow 22 = .ok (.iconst 0, 1) := by decide +kernel
theorem dX4_behindThrow_23 : decode cX4_behindThrow 23 = .ok (.istore 4, 2) := by decide +kernel
theorem dX4_behindThrow_25 : decode cX4_behindThrow 25 = .ok (.iload 4, 2) := by decide +kernel
theorem dX4_behindThrow_27 : decode cX4_behindThrow 27 = .ok (.ifCond .eq 10, 3) := by decide +kernel
theorem dX4_behindThrow_30 : decode cX4_behindThrow 30 = .ok (.aload_n 1, 1) := by decide +kernel
theorem dX4_behindThrow_31 : decode cX4_behindThrow 31 = .ok (.getfield 77, 3) := by decide +kernel
theorem dX4_behindThrow_34 : decode cX4_behindThrow 34 = .ok (.goto 8, 3) := by decide +kernel
theorem dX4_behindThrow_37 : decode cX4_behindThrow 37 = .ok (.aload_n 1, 1) := by decide +kernel
theorem dX4_behindThrow_38 : decode cX4_behindThrow 38 = .ok (.iload_n 2, 1) := by decide +kernel
theorem dX4_behindThrow_39 : decode cX4_behindThrow 39 = .ok (.invokevirtual 119, 3) := by decide +kernel
theorem dX4_behindThrow_42 : decode cX4_behindThrow 42 = .ok (.istore 5, 2) := by decide +kernel
theorem dX4_behindThrow_44 : decode cX4_behindThrow 44 = .ok (.iload 5, 2) := by decide +kernel
theorem dX4_behindThrow_46 : decode cX4_behindThrow 46 = .ok (.aload_n 1, 1) := by decide +kernel
theorem dX4_behindThrow_47 : decode cX4_behindThrow 47 = .ok (.getfield 77, 3) := by decide +kernel
theorem dX4_behindThrow_50 : decode cX4_behindThrow 50 = .ok (.if_icmp .ge 23, 3) := by decide +kernel
theorem dX4_behindThrow_53 : decode cX4_behindThrow 53 = .ok (.aload_n 0, 1) := by decide +kernel
theorem dX4_behindThrow_54 : decode cX4_behindThrow 54 = .ok (.iload_n 3, 1) := by decide +kernel
theorem dX4_behindThrow_55 : decode cX4_behindThrow 55 = .ok (.aload_n 1, 1) := by decide +kernel
theorem dX4_behindThrow_56 : decode cX4_behindThrow 56 = .ok (.getfield 122, 3) := by decide +kernel
theorem dX4_behindThrow_59 : decode cX4_behindThrow 59 = .ok (.iload 5, 2) := by decide +kernel
theorem dX4_behindThrow_61 : decode cX4_behindThrow 61 = .ok (.iconst 1, 1) := by decide +kernel
theorem dX4_behindThrow_62 : decode cX4_behindThrow 62 = .ok (.isub, 1) := by decide +kernel
theorem dX4_behindThrow_63 : decode cX4_behindThrow 63 = .ok (.iaload, 1) := by decide +kernel
theorem dX4_behindThrow_64 : decode cX4_behindThrow 64 = .ok (.iadd, 1) := by decide +kernel
theorem dX4_behindThrow_65 : decode cX4_behindThrow 65 = .ok (.putfield 48, 3) := by decide +kernel
theorem dX4_behindThrow_68 : decode cX4_behindThrow 68 = .ok (.aload_n 0, 1) := by decide +kernel
theorem dX4_behindThrow_69 : decode cX4_behindThrow 69 = .ok (.iconst 0, 1) := by decide +kernel
theorem dX4_behindThrow_70 : decode cX4_behindThrow 70 = .ok (.putfield 58, 3) := by decide +kernel
theorem dX4_behindThrow_73 : decode cX4_behindThrow 73 = .ok (.iload 5, 2) := by decide +kernel
theorem dX4_behindThrow_75 : decode cX4_behindThrow 75 = .ok (.ireturn, 1) := by decide +kernel
theorem dX4_invokeNamed_0 : decode cX4_invokeNamed 0 = .ok (.aload_n 0, 1) := by decide +kernel
theorem dX4_invokeNamed_1 : decode cX4_invokeNamed 1 = .ok (.getfield 28, 3) := by decide +kernel
theorem dX4_invokeNamed_4 : decode cX4_invokeNamed 4 = .ok (.iload_n 3, 1) := by decide +kernel
theorem dX4_invokeNamed_5 : decode cX4_invokeNamed 5 = .ok (.bipush 11, 2) := by decide +kernel
theorem dX4_invokeNamed_7 : decode cX4_invokeNamed 7 = .ok (.invokestatic 125, 3) := by decide +kernel
theorem dX4_invokeNamed_10 : decode cX4_invokeNamed 10 = .ok (.aaload, 1) := by decide +kernel
theorem dX4_invokeNamed_11 : decode cX4_invokeNamed 11 = .ok (.astore 4, 2) := by decide +kernel
theorem dX4_invokeNamed_13 : decode cX4_invokeNamed 13 = .ok (.lload_n 1, 1) := by decide +kernel
theorem dX4_invokeNamed_14 : decode cX4_invokeNamed 14 = .ok (.invokestatic 130, 3) := by decide +kernel
theorem dX4_invokeNamed_17 : decode cX4_invokeNamed 17 = .ok (.istore 5, 2) := by decide +kernel
theorem dX4_invokeNamed_19 : decode cX4_invokeNamed 19 = .ok (.iconst 2, 1) := by decide +kernel
theorem dX4_invokeNamed_20 : decode cX4_invokeNamed 20 = .ok (.istore 6, 2) := by decide +kernel
theorem dX4_invokeNamed_22 : decode cX4_invokeNamed 22 = .ok (.iload 6, 2) := by decide +kernel
theorem dX4_invokeNamed_24 : decode cX4_invokeNamed 24 = .ok (.ifCond .lt 29, 3) := by decide +kernel
theorem dX4_invokeNamed_27 : decode cX4_invokeNamed 27 = .ok (.aload 4, 2) := by decide +kernel
theorem dX4_invokeNamed_29 : decode cX4_invokeNamed 29 = .ok (.iload 6, 2) := by decide +kernel
theorem dX4_invokeNamed_31 : decode cX4_invokeNamed 31 = .ok (.iload 6, 2) := by decide +kernel
theorem dX4_invokeNamed_33 : decode cX4_invokeNamed 33 = .ok (.iload 5, 2) := by decide +kernel
theorem dX4_invokeNamed_35 : decode cX4_invokeNamed 35 = .ok (.if_icmp .ge 10, 3) := by decide +kernel
theorem dX4_invokeNamed_38 : decode cX4_invokeNamed 38 = .ok (.aload_n 0, 1) := by decide +kernel
theorem dX4_invokeNamed_39 : decode cX4_invokeNamed 39 = .ok (.invokevirtual 91, 3) := by decide +kernel
theorem dX4_invokeNamed_42 : decode cX4_invokeNamed 42 = .ok (.goto 4, 3) := by decide +kernel
theorem dX4_invokeNamed_45 : decode cX4_invokeNamed 45 = .ok (.iconst 0, 1) := by decide +kernel
theorem dX4_invokeNamed_46 : decode cX4_invokeNamed 46 = .ok (.iastore, 1) := by decide +kernel
theorem dX4_invokeNamed_47 : decode cX4_invokeNamed 47 = .ok (.iinc 6 (-1), 3) := by decide +kernel
theorem dX4_invokeNamed_50 : decode cX4_invokeNamed 50 = .ok (.goto (-28), 3) := by decide +kernel
theorem dX4_invokeNamed_53 : decode cX4_invokeNamed 53 = .ok (.aload_n 0, 1) := by decide +kernel
theorem dX4_invokeNamed_54 : decode cX4_invokeNamed 54 = .ok (.getfield 9, 3) := by decide +kernel
theorem dX4_invokeNamed_57 : decode cX4_invokeNamed 57 = .ok (.lload_n 1, 1) := by decide +kernel
theorem dX4_invokeNamed_58 : decode cX4_invokeNamed 58 = .ok (.invokevirtual 136, 3) := by decide +kernel
theorem dX4_invokeNamed_61 : decode cX4_invokeNamed 61 = .ok (.istore 6, 2) := by decide +kernel
theorem dX4_invokeNamed_63 : decode cX4_invokeNamed 63 = .ok (.iload 6, 2) := by decide +kernel
theorem dX4_invokeNamed_65 : decode cX4_invokeNamed 65 = .ok (.iconst (-1), 1) := by decide +kernel
theorem dX4_invokeNamed_66 : decode cX4_invokeNamed 66 = .ok (.if_icmp .ne 10, 3) := by decide +kernel
theorem dX4_invokeNamed_69 : decode cX4_invokeNamed 69 = .ok (.aload_n 0, 1) := by decide +kernel
theorem dX4_invokeNamed_70 : decode cX4_invokeNamed 70 = .ok (.bipush (-4), 2) := by decide +kernel
theorem dX4_invokeNamed_72 : decode cX4_invokeNamed 72 = .ok (.invokevirtual 108, 3) := by decide +kernel
theorem dX4_invokeNamed_75 : decode cX4_invokeNamed 75 = .ok (.return_, 1) := by decide +kernel
theorem dX4_invokeNamed_76 : decode cX4_invokeNamed 76 = .ok (.aload_n 0, 1) := by decide +kernel
theorem dX4_invokeNamed_77 : decode cX4_invokeNamed 77 = .ok (.iload 6, 2) := by decide +kernel
theorem dX4_invokeNamed_79 : decode cX4_invokeNamed 79 = .ok (.iload_n 3, 1) := by decide +kernel
theorem dX4_invokeNamed_80 : decode cX4_invokeNamed 80 = .ok (.invokevirtual 51, 3) := by decide +kernel
theorem dX4_invokeNamed_83 : decode cX4_invokeNamed 83 = .ok (.istore 7, 2) := by decide +kernel
theorem dX4_invokeNamed_85 : decode cX4_invokeNamed 85 = .ok (.aload_n 0, 1) := by decide +kernel
theorem dX4_invokeNamed_86 : decode cX4_invokeNamed 86 = .ok (.getfield 58, 3) := by decide +kernel
theorem dX4_invokeNamed_89 : decode cX4_invokeNamed 89 = .ok (.ifCond .eq 12, 3) := by decide +kernel
theorem dX4_invokeNamed_92 : decode cX4_invokeNamed 92 = .ok (.aload_n 0, 1) := by decide +kernel
theorem dX4_invokeNamed_93 : decode cX4_invokeNamed 93 = .ok (.iload 7, 2) := by decide +kernel
theorem dX4_invokeNamed_95 : decode cX4_invokeNamed 95 = .ok (.putfield 88, 3) := by decide +kernel
theorem dX4_invokeNamed_98 : decode cX4_invokeNamed 98 = .ok (.goto 9, 3) := by decide +kernel
theorem dX4_invokeNamed_101 : decode cX4_invokeNamed 101 = .ok (.aload_n 0, 1) := by decide +kernel
theorem dX4_invokeNamed_102 : decode cX4_invokeNamed 102 = .ok (.iload 7, 2) := by decide +kernel
theorem dX4_invokeNamed_104 : decode cX4_invokeNamed 104 = .ok (.invokevirtual 102, 3) := by decide +kernel
theorem dX4_invokeNamed_107 : decode cX4_invokeNamed 107 = .ok (.return_, 1) := by decide +kernel
theorem dX4_joined_0 : decode cX4_joined 0 = .ok (.iload_n 0, 1) := by decide +kernel
theorem dX4_joined_1 : decode cX4_joined 1 = .ok (.tableswitch 173 37 61 #[139, 173, 173, 173, 173, 123, 115, 173, 119, 173, 127, 173, 173, 173, 173, 173, 173, 173, 173, 173, 173, 173, 173, 151, 162], 115) := by decide +kernel
theorem dX4_joined_116 : decode cX4_joined 116 = .ok (.iload_n 1, 1) := by decide +kernel
theorem dX4_joined_117 : decode cX4_joined 117 = .ok (.iload_n 2, 1) := by decide +kernel
theorem dX4_joined_118 : decode cX4_joined 118 = .ok (.iadd, 1) := by decide +kernel
theorem dX4_joined_119 : decode cX4_joined 119 = .ok (.ireturn, 1) := by decide +kernel
theorem dX4_joined_120 : decode cX4_joined 120 = .ok (.iload_n 1, 1) := by decide +kernel
theorem dX4_joined_121 : decode cX4_joined 121 = .ok (.iload_n 2, 1) := by decide +kernel
theorem dX4_joined_122 : decode cX4_joined 122 = .ok (.isub, 1) := by decide +kernel
theorem dX4_joined_123 : decode cX4_joined 123 = .ok (.ireturn, 1) := by decide +kernel
theorem dX4_joined_124 : decode cX4_joined 124 = .ok (.iload_n 1, 1) := by decide +kernel
theorem dX4_joined_125 : decode cX4_joined 125 = .ok (.iload_n 2, 1) := by decide +kernel
theorem dX4_joined_126 : decode cX4_joined 126 = .ok (.imul, 1) := by decide +kernel
theorem dX4_joined_127 : decode cX4_joined 127 = .ok (.ireturn, 1) := by decide +kernel
theorem dX4_joined_128 : decode cX4_joined 128 = .ok (.iload_n 2, 1) := by decide +kernel
theorem dX4_joined_129 : decode cX4_joined 129 = .ok (.ifCond .ne 7, 3) := by decide +kernel
theorem dX4_joined_132 : decode cX4_joined 132 = .ok (.iconst 0, 1) := by decide +kernel
theorem dX4_joined_133 : decode cX4_joined 133 = .ok (.goto 6, 3) := by decide +kernel
theorem dX4_joined_136 : decode cX4_joined 136 = .ok (.iload_n 1, 1) := by decide +kernel
theorem dX4_joined_137 : decode cX4_joined 137 = .ok (.iload_n 2, 1) := by decide +kernel
theorem dX4_joined_138 : decode cX4_joined 138 = .ok (.idiv, 1) := by decide +kernel
theorem dX4_joined_139 : decode cX4_joined 139 = .ok (.ireturn, 1) := by decide +kernel
theorem dX4_joined_140 : decode cX4_joined 140 = .ok (.iload_n 2, 1) := by decide +kernel
theorem dX4_joined_141 : decode cX4_joined 141 = .ok (.ifCond .ne 7, 3) := by decide +kernel
theorem dX4_joined_144 : decode cX4_joined 144 = .ok (.iconst 0, 1) := by decide +kernel
theorem dX4_joined_145 : decode cX4_joined 145 = .ok (.goto 6, 3) := by decide +kernel
theorem dX4_joined_148 : decode cX4_joined 148 = .ok (.iload_n 1, 1) := by decide +kernel
theorem dX4_joined_149 : decode cX4_joined 149 = .ok (.iload_n 2, 1) := by decide +kernel
theorem dX4_joined_150 : decode cX4_joined 150 = .ok (.irem, 1) := by decide +kernel
theorem dX4_joined_151 : decode cX4_joined 151 = .ok (.ireturn, 1) := by decide +kernel
theorem dX4_joined_152 : decode cX4_joined 152 = .ok (.iload_n 1, 1) := by decide +kernel
theorem dX4_joined_153 : decode cX4_joined 153 = .ok (.iload_n 2, 1) := by decide +kernel
theorem dX4_joined_154 : decode cX4_joined 154 = .ok (.if_icmp .ge 7, 3) := by decide +kernel
theorem dX4_joined_157 : decode cX4_joined 157 = .ok (.iconst 1, 1) := by decide +kernel
theorem dX4_joined_158 : decode cX4_joined 158 = .ok (.goto 4, 3) := by decide +kernel
theorem dX4_joined_161 : decode cX4_joined 161 = .ok (.iconst 0, 1) := by decide +kernel
theorem dX4_joined_162 : decode cX4_joined 162 = .ok (.ireturn, 1) := by decide +kernel
theorem dX4_joined_163 : decode cX4_joined 163 = .ok (.iload_n 1, 1) := by decide +kernel
theorem dX4_joined_164 : decode cX4_joined 164 = .ok (.iload_n 2, 1) := by decide +kernel
theorem dX4_joined_165 : decode cX4_joined 165 = .ok (.if_icmp .ne 7, 3) := by decide +kernel
theorem dX4_joined_168 : decode cX4_joined 168 = .ok (.iconst 1, 1) := by decide +kernel
theorem dX4_joined_169 : decode cX4_joined 169 = .ok (.goto 4, 3) := by decide +kernel
theorem dX4_joined_172 : decode cX4_joined 172 = .ok (.iconst 0, 1) := by decide +kernel
theorem dX4_joined_173 : decode cX4_joined 173 = .ok (.ireturn, 1) := by decide +kernel
theorem dX4_joined_174 : decode cX4_joined 174 = .ok (.iload_n 1, 1) := by decide +kernel
theorem dX4_joined_175 : decode cX4_joined 175 = .ok (.iload_n 2, 1) := by decide +kernel
theorem dX4_joined_176 : decode cX4_joined 176 = .ok (.if_icmp .le 7, 3) := by decide +kernel
theorem dX4_joined_179 : decode cX4_joined 179 = .ok (.iconst 1, 1) := by decide +kernel
theorem dX4_joined_180 : decode cX4_joined 180 = .ok (.goto 4, 3) := by decide +kernel
theorem dX4_joined_183 : decode cX4_joined 183 = .ok (.iconst 0, 1) := by decide +kernel
theorem dX4_joined_184 : decode cX4_joined 184 = .ok (.ireturn, 1) := by decide +kernel
theorem dX4_push_0 : decode cX4_push 0 = .ok (.aload_n 0, 1) := by decide +kernel
theorem dX4_push_1 : decode cX4_push 1 = .ok (.getfield 48, 3) := by decide +kernel
theorem dX4_push_4 : decode cX4_push 4 = .ok (.aload_n 0, 1) := by decide +kernel
theorem dX4_push_5 : decode cX4_push 5 = .ok (.getfield 33, 3) := by decide +kernel
theorem dX4_push_8 : decode cX4_push 8 = .ok (.arraylength, 1) := by decide +kernel
theorem dX4_push_9 : decode cX4_push 9 = .ok (.if_icmp .ge 23, 3) := by decide +kernel
theorem dX4_push_12 : decode cX4_push 12 = .ok (.aload_n 0, 1) := by decide +kernel
theorem dX4_push_13 : decode cX4_push 13 = .ok (.getfield 33, 3) := by decide +kernel
theorem dX4_push_16 : decode cX4_push 16 = .ok (.aload_n 0, 1) := by decide +kernel
theorem dX4_push_17 : decode cX4_push 17 = .ok (.getfield 48, 3) := by decide +kernel
theorem dX4_push_20 : decode cX4_push 20 = .ok (.iload_n 1, 1) := by decide +kernel
theorem dX4_push_21 : decode cX4_push 21 = .ok (.iastore, 1) := by decide +kernel
theorem dX4_push_22 : decode cX4_push 22 = .ok (.aload_n 0, 1) := by decide +kernel
theorem dX4_push_23 : decode cX4_push 23 = .ok (.dup, 1) := by decide +kernel
theorem dX4_push_24 : decode cX4_push 24 = .ok (.getfield 48, 3) := by decide +kernel
theorem dX4_push_27 : decode cX4_push 27 = .ok (.iconst 1, 1) := by decide +kernel
theorem dX4_push_28 : decode cX4_push 28 = .ok (.iadd, 1) := by decide +kernel
theorem dX4_push_29 : decode cX4_push 29 = .ok (.putfield 48, 3) := by decide +kernel
theorem dX4_push_32 : decode cX4_push 32 = .ok (.return_, 1) := by decide +kernel
theorem dX4_pop_0 : decode cX4_pop 0 = .ok (.aload_n 0, 1) := by decide +kernel
theorem dX4_pop_1 : decode cX4_pop 1 = .ok (.getfield 48, 3) := by decide +kernel
theorem dX4_pop_4 : decode cX4_pop 4 = .ok (.ifCond .gt 5, 3) := by decide +kernel
theorem dX4_pop_7 : decode cX4_pop 7 = .ok (.iconst 0, 1) := by decide +kernel
theorem dX4_pop_8 : decode cX4_pop 8 = .ok (.ireturn, 1) := by decide +kernel
theorem dX4_pop_9 : decode cX4_pop 9 = .ok (.aload_n 0, 1) := by decide +kernel
theorem dX4_pop_10 : decode cX4_pop 10 = .ok (.dup, 1) := by decide +kernel
theorem dX4_pop_11 : decode cX4_pop 11 = .ok (.getfield 48, 3) := by decide +kernel
theorem dX4_pop_14 : decode cX4_pop 14 = .ok (.iconst 1, 1) := by decide +kernel
theorem dX4_pop_15 : decode cX4_pop 15 = .ok (.isub, 1) := by decide +kernel
theorem dX4_pop_16 : decode cX4_pop 16 = .ok (.putfield 48, 3) := by decide +kernel
theorem dX4_pop_19 : decode cX4_pop 19 = .ok (.aload_n 0, 1) := by decide +kernel
theorem dX4_pop_20 : decode cX4_pop 20 = .ok (.getfield 33, 3) := by decide +kernel
theorem dX4_pop_23 : decode cX4_pop 23 = .ok (.aload_n 0, 1) := by decide +kernel
theorem dX4_pop_24 : decode cX4_pop 24 = .ok (.getfield 48, 3) := by decide +kernel
theorem dX4_pop_27 : decode cX4_pop 27 = .ok (.iaload, 1) := by decide +kernel
theorem dX4_pop_28 : decode cX4_pop 28 = .ok (.ireturn, 1) := by decide +kernel
theorem dX4_probe_0 : decode cX4_probe 0 = .ok (.aload_n 0, 1) := by decide +kernel
theorem dX4_probe_1 : decode cX4_probe 1 = .ok (.getfield 37, 3) := by decide +kernel
theorem dX4_probe_4 : decode cX4_probe 4 = .ok (.ifCond .ne 4, 3) := by decide +kernel
theorem dX4_probe_7 : decode cX4_probe 7 = .ok (.return_, 1) := by decide +kernel
theorem dX4_probe_8 : decode cX4_probe 8 = .ok (.iconst 0, 1) := by decide +kernel
theorem dX4_probe_9 : decode cX4_probe 9 = .ok (.istore 4, 2) := by decide +kernel
theorem dX4_probe_11 : decode cX4_probe 11 = .ok (.iload 4, 2) := by decide +kernel
theorem dX4_probe_13 : decode cX4_probe 13 = .ok (.bipush 8, 2) := by decide +kernel
theorem dX4_probe_15 : decode cX4_probe 15 = .ok (.if_icmp .ge 97, 3) := by decide +kernel
theorem dX4_probe_18 : decode cX4_probe 18 = .ok (.aload_n 0, 1) := by decide +kernel
theorem dX4_probe_19 : decode cX4_probe 19 = .ok (.getfield 15, 3) := by decide +kernel
theorem dX4_probe_22 : decode cX4_probe 22 = .ok (.iload 4, 2) := by decide +kernel
theorem dX4_probe_24 : decode cX4_probe 24 = .ok (.invokevirtual 141, 3) := by decide +kernel
theorem dX4_probe_27 : decode cX4_probe 27 = .ok (.astore 5, 2) := by decide +kernel
theorem dX4_probe_29 : decode cX4_probe 29 = .ok (.aload 5, 2) := by decide +kernel
theorem dX4_probe_31 : decode cX4_probe 31 = .ok (.iload_n 1, 1) := by decide +kernel
theorem dX4_probe_32 : decode cX4_probe 32 = .ok (.invokevirtual 145, 3) := by decide +kernel
theorem dX4_probe_35 : decode cX4_probe 35 = .ok (.ifCond .ne 6, 3) := by decide +kernel
theorem dX4_probe_38 : decode cX4_probe 38 = .ok (.goto 68, 3) := by decide +kernel
theorem dX4_probe_41 : decode cX4_probe 41 = .ok (.aload 5, 2) := by decide +kernel
theorem dX4_probe_43 : decode cX4_probe 43 = .ok (.getfield 149, 3) := by decide +kernel
theorem dX4_probe_46 : decode cX4_probe 46 = .ok (.iconst 2, 1) := by decide +kernel
theorem dX4_probe_47 : decode cX4_probe 47 = .ok (.if_icmp .ne 21, 3) := by decide +kernel
theorem dX4_probe_50 : decode cX4_probe 50 = .ok (.aload 5, 2) := by decide +kernel
theorem dX4_probe_52 : decode cX4_probe 52 = .ok (.getfield 152, 3) := by decide +kernel
theorem dX4_probe_55 : decode cX4_probe 55 = .ok (.iload_n 1, 1) := by decide +kernel
theorem dX4_probe_56 : decode cX4_probe 56 = .ok (.iconst 3, 1) := by decide +kernel
theorem dX4_probe_57 : decode cX4_probe 57 = .ok (.imul, 1) := by decide +kernel
theorem dX4_probe_58 : decode cX4_probe 58 = .ok (.iload_n 2, 1) := by decide +kernel
theorem dX4_probe_59 : decode cX4_probe 59 = .ok (.iadd, 1) := by decide +kernel
theorem dX4_probe_60 : decode cX4_probe 60 = .ok (.dup2, 1) := by decide +kernel
theorem dX4_probe_61 : decode cX4_probe 61 = .ok (.iaload, 1) := by decide +kernel
theorem dX4_probe_62 : decode cX4_probe 62 = .ok (.iconst 1, 1) := by decide +kernel
theorem dX4_probe_63 : decode cX4_probe 63 = .ok (.iadd, 1) := by decide +kernel
theorem dX4_probe_64 : decode cX4_probe 64 = .ok (.iastore, 1) := by decide +kernel
theorem dX4_probe_65 : decode cX4_probe 65 = .ok (.goto 41, 3) := by decide +kernel
theorem dX4_probe_68 : decode cX4_probe 68 = .ok (.aload 5, 2) := by decide +kernel
theorem dX4_probe_70 : decode cX4_probe 70 = .ok (.getfield 149, 3) := by decide +kernel
theorem dX4_probe_73 : decode cX4_probe 73 = .ok (.iconst 3, 1) := by decide +kernel
theorem dX4_probe_74 : decode cX4_probe 74 = .ok (.if_icmp .ne 15, 3) := by decide +kernel
theorem dX4_probe_77 : decode cX4_probe 77 = .ok (.aload_n 0, 1) := by decide +kernel
theorem dX4_probe_78 : decode cX4_probe 78 = .ok (.iload 4, 2) := by decide +kernel
theorem dX4_probe_80 : decode cX4_probe 80 = .ok (.iload_n 1, 1) := by decide +kernel
theorem dX4_probe_81 : decode cX4_probe 81 = .ok (.iload_n 2, 1) := by decide +kernel
theorem dX4_probe_82 : decode cX4_probe 82 = .ok (.aload_n 3, 1) := by decide +kernel
theorem dX4_probe_83 : decode cX4_probe 83 = .ok (.invokevirtual 155, 3) := by decide +kernel
theorem dX4_probe_86 : decode cX4_probe 86 = .ok (.goto 20, 3) := by decide +kernel
theorem dX4_probe_89 : decode cX4_probe 89 = .ok (.aload 5, 2) := by decide +kernel
theorem dX4_probe_91 : decode cX4_probe 91 = .ok (.getfield 159, 3) := by decide +kernel
theorem dX4_probe_94 : decode cX4_probe 94 = .ok (.iload_n 2, 1) := by decide +kernel
theorem dX4_probe_95 : decode cX4_probe 95 = .ok (.if_icmp .ne 11, 3) := by decide +kernel
theorem dX4_probe_98 : decode cX4_probe 98 = .ok (.aload_n 0, 1) := by decide +kernel
theorem dX4_probe_99 : decode cX4_probe 99 = .ok (.iload 4, 2) := by decide +kernel
theorem dX4_probe_101 : decode cX4_probe 101 = .ok (.iload_n 1, 1) := by decide +kernel
theorem dX4_probe_102 : decode cX4_probe 102 = .ok (.aload_n 3, 1) := by decide +kernel
theorem dX4_probe_103 : decode cX4_probe 103 = .ok (.invokevirtual 162, 3) := by decide +kernel
theorem dX4_probe_106 : decode cX4_probe 106 = .ok (.iinc 4 1, 3) := by decide +kernel
theorem dX4_probe_109 : decode cX4_probe 109 = .ok (.goto (-98), 3) := by decide +kernel
theorem dX4_probe_112 : decode cX4_probe 112 = .ok (.return_, 1) := by decide +kernel
theorem dX4_watch_0 : decode cX4_watch 0 = .ok (.aload_n 0, 1) := by decide +kernel
theorem dX4_watch_1 : decode cX4_watch 1 = .ok (.getfield 15, 3) := by decide +kernel
theorem dX4_watch_4 : decode cX4_watch 4 = .ok (.iload_n 1, 1) := by decide +kernel
theorem dX4_watch_5 : decode cX4_watch 5 = .ok (.invokevirtual 141, 3) := by decide +kernel
theorem dX4_watch_8 : decode cX4_watch 8 = .ok (.astore 4, 2) := by decide +kernel
theorem dX4_watch_10 : decode cX4_watch 10 = .ok (.aload_n 3, 1) := by decide +kernel
theorem dX4_watch_11 : decode cX4_watch 11 = .ok (.bipush 6, 2) := by decide +kernel
theorem dX4_watch_13 : decode cX4_watch 13 = .ok (.aload 4, 2) := by decide +kernel
theorem dX4_watch_15 : decode cX4_watch 15 = .ok (.getfield 165, 3) := by decide +kernel
theorem dX4_watch_18 : decode cX4_watch 18 = .ok (.iastore, 1) := by decide +kernel
theorem dX4_watch_19 : decode cX4_watch 19 = .ok (.aload_n 0, 1) := by decide +kernel
theorem dX4_watch_20 : decode cX4_watch 20 = .ok (.iconst 0, 1) := by decide +kernel
theorem dX4_watch_21 : decode cX4_watch 21 = .ok (.putfield 58, 3) := by decide +kernel
theorem dX4_watch_24 : decode cX4_watch 24 = .ok (.aload 4, 2) := by decide +kernel
theorem dX4_watch_26 : decode cX4_watch 26 = .ok (.getfield 168, 3) := by decide +kernel
theorem dX4_watch_29 : decode cX4_watch 29 = .ok (.ifCond .eq 16, 3) := by decide +kernel
theorem dX4_watch_32 : decode cX4_watch 32 = .ok (.aload_n 0, 1) := by decide +kernel
theorem dX4_watch_33 : decode cX4_watch 33 = .ok (.aload 4, 2) := by decide +kernel
theorem dX4_watch_35 : decode cX4_watch 35 = .ok (.getfield 171, 3) := by decide +kernel
theorem dX4_watch_38 : decode cX4_watch 38 = .ok (.aload_n 3, 1) := by decide +kernel
theorem dX4_watch_39 : decode cX4_watch 39 = .ok (.invokevirtual 73, 3) := by decide +kernel
theorem dX4_watch_42 : decode cX4_watch 42 = .ok (.goto 4, 3) := by decide +kernel
theorem dX4_watch_45 : decode cX4_watch 45 = .ok (.iconst 1, 1) := by decide +kernel
theorem dX4_watch_46 : decode cX4_watch 46 = .ok (.istore 5, 2) := by decide +kernel
theorem dX4_watch_48 : decode cX4_watch 48 = .ok (.iload 5, 2) := by decide +kernel
theorem dX4_watch_50 : decode cX4_watch 50 = .ok (.ifCond .ne 11, 3) := by decide +kernel
theorem dX4_watch_53 : decode cX4_watch 53 = .ok (.aload_n 0, 1) := by decide +kernel
theorem dX4_watch_54 : decode cX4_watch 54 = .ok (.getfield 58, 3) := by decide +kernel
theorem dX4_watch_57 : decode cX4_watch 57 = .ok (.ifCond .ne 4, 3) := by decide +kernel
theorem dX4_watch_60 : decode cX4_watch 60 = .ok (.return_, 1) := by decide +kernel
theorem dX4_watch_61 : decode cX4_watch 61 = .ok (.aload_n 0, 1) := by decide +kernel
theorem dX4_watch_62 : decode cX4_watch 62 = .ok (.getfield 58, 3) := by decide +kernel
theorem dX4_watch_65 : decode cX4_watch 65 = .ok (.ifCond .ne 15, 3) := by decide +kernel
theorem dX4_watch_68 : decode cX4_watch 68 = .ok (.aload_n 0, 1) := by decide +kernel
theorem dX4_watch_69 : decode cX4_watch 69 = .ok (.aload 4, 2) := by decide +kernel
theorem dX4_watch_71 : decode cX4_watch 71 = .ok (.getfield 175, 3) := by decide +kernel
theorem dX4_watch_74 : decode cX4_watch 74 = .ok (.aload_n 3, 1) := by decide +kernel
theorem dX4_watch_75 : decode cX4_watch 75 = .ok (.invokevirtual 73, 3) := by decide +kernel
theorem dX4_watch_78 : decode cX4_watch 78 = .ok (.istore 5, 2) := by decide +kernel
theorem dX4_watch_80 : decode cX4_watch 80 = .ok (.aload 4, 2) := by decide +kernel
theorem dX4_watch_82 : decode cX4_watch 82 = .ok (.invokevirtual 178, 3) := by decide +kernel
theorem dX4_watch_85 : decode cX4_watch 85 = .ok (.aload_n 0, 1) := by decide +kernel
theorem dX4_watch_86 : decode cX4_watch 86 = .ok (.getfield 19, 3) := by decide +kernel
theorem dX4_watch_89 : decode cX4_watch 89 = .ok (.invokevirtual 181, 3) := by decide +kernel
theorem dX4_watch_92 : decode cX4_watch 92 = .ok (.ifCond .eq 4, 3) := by decide +kernel
theorem dX4_watch_95 : decode cX4_watch 95 = .ok (.return_, 1) := by decide +kernel
theorem dX4_watch_96 : decode cX4_watch 96 = .ok (.aload_n 0, 1) := by decide +kernel
theorem dX4_watch_97 : decode cX4_watch 97 = .ok (.getfield 19, 3) := by decide +kernel
theorem dX4_watch_100 : decode cX4_watch 100 = .ok (.iconst 0, 1) := by decide +kernel
theorem dX4_watch_101 : decode cX4_watch 101 = .ok (.iload_n 1, 1) := by decide +kernel
theorem dX4_watch_102 : decode cX4_watch 102 = .ok (.invokevirtual 187, 3) := by decide +kernel
theorem dX4_watch_105 : decode cX4_watch 105 = .ok (.aload_n 0, 1) := by decide +kernel
theorem dX4_watch_106 : decode cX4_watch 106 = .ok (.getfield 19, 3) := by decide +kernel
theorem dX4_watch_109 : decode cX4_watch 109 = .ok (.iconst 1, 1) := by decide +kernel
theorem dX4_watch_110 : decode cX4_watch 110 = .ok (.iload_n 2, 1) := by decide +kernel
theorem dX4_watch_111 : decode cX4_watch 111 = .ok (.invokevirtual 187, 3) := by decide +kernel
theorem dX4_watch_114 : decode cX4_watch 114 = .ok (.aload_n 0, 1) := by decide +kernel
theorem dX4_watch_115 : decode cX4_watch 115 = .ok (.getfield 19, 3) := by decide +kernel
theorem dX4_watch_118 : decode cX4_watch 118 = .ok (.iconst 2, 1) := by decide +kernel
theorem dX4_watch_119 : decode cX4_watch 119 = .ok (.iload 5, 2) := by decide +kernel
theorem dX4_watch_121 : decode cX4_watch 121 = .ok (.invokevirtual 187, 3) := by decide +kernel
theorem dX4_watch_124 : decode cX4_watch 124 = .ok (.aload_n 0, 1) := by decide +kernel
theorem dX4_watch_125 : decode cX4_watch 125 = .ok (.getfield 19, 3) := by decide +kernel
theorem dX4_watch_128 : decode cX4_watch 128 = .ok (.iconst 3, 1) := by decide +kernel
theorem dX4_watch_129 : decode cX4_watch 129 = .ok (.aload_n 0, 1) := by decide +kernel
theorem dX4_watch_130 : decode cX4_watch 130 = .ok (.getfield 58, 3) := by decide +kernel
theorem dX4_watch_133 : decode cX4_watch 133 = .ok (.ifCond .eq 7, 3) := by decide +kernel
theorem dX4_watch_136 : decode cX4_watch 136 = .ok (.iconst 1, 1) := by decide +kernel
theorem dX4_watch_137 : decode cX4_watch 137 = .ok (.goto 4, 3) := by decide +kernel
theorem dX4_watch_140 : decode cX4_watch 140 = .ok (.iconst 0, 1) := by decide +kernel
theorem dX4_watch_141 : decode cX4_watch 141 = .ok (.invokevirtual 187, 3) := by decide +kernel
theorem dX4_watch_144 : decode cX4_watch 144 = .ok (.aload_n 0, 1) := by decide +kernel
theorem dX4_watch_145 : decode cX4_watch 145 = .ok (.getfield 19, 3) := by decide +kernel
theorem dX4_watch_148 : decode cX4_watch 148 = .ok (.iconst 4, 1) := by decide +kernel
theorem dX4_watch_149 : decode cX4_watch 149 = .ok (.aload_n 3, 1) := by decide +kernel
theorem dX4_watch_150 : decode cX4_watch 150 = .ok (.iconst 5, 1) := by decide +kernel
theorem dX4_watch_151 : decode cX4_watch 151 = .ok (.iaload, 1) := by decide +kernel
theorem dX4_watch_152 : decode cX4_watch 152 = .ok (.invokevirtual 187, 3) := by decide +kernel
theorem dX4_watch_155 : decode cX4_watch 155 = .ok (.aload_n 0, 1) := by decide +kernel
theorem dX4_watch_156 : decode cX4_watch 156 = .ok (.getfield 19, 3) := by decide +kernel
theorem dX4_watch_159 : decode cX4_watch 159 = .ok (.invokevirtual 191, 3) := by decide +kernel
theorem dX4_watch_162 : decode cX4_watch 162 = .ok (.return_, 1) := by decide +kernel
theorem dX4_keep_0 : decode cX4_keep 0 = .ok (.iload_n 3, 1) := by decide +kernel
theorem dX4_keep_1 : decode cX4_keep 1 = .ok (.ifCond .eq 13, 3) := by decide +kernel
theorem dX4_keep_4 : decode cX4_keep 4 = .ok (.aload_n 0, 1) := by decide +kernel
theorem dX4_keep_5 : decode cX4_keep 5 = .ok (.getfield 23, 3) := by decide +kernel
theorem dX4_keep_8 : decode cX4_keep 8 = .ok (.invokevirtual 181, 3) := by decide +kernel
theorem dX4_keep_11 : decode cX4_keep 11 = .ok (.ifCond .eq 4, 3) := by decide +kernel
theorem dX4_keep_14 : decode cX4_keep 14 = .ok (.return_, 1) := by decide +kernel
theorem dX4_keep_15 : decode cX4_keep 15 = .ok (.aload_n 0, 1) := by decide +kernel
theorem dX4_keep_16 : decode cX4_keep 16 = .ok (.getfield 23, 3) := by decide +kernel
theorem dX4_keep_19 : decode cX4_keep 19 = .ok (.iconst 0, 1) := by decide +kernel
theorem dX4_keep_20 : decode cX4_keep 20 = .ok (.iload_n 1, 1) := by decide +kernel
theorem dX4_keep_21 : decode cX4_keep 21 = .ok (.invokevirtual 187, 3) := by decide +kernel
theorem dX4_keep_24 : decode cX4_keep 24 = .ok (.aload_n 0, 1) := by decide +kernel
theorem dX4_keep_25 : decode cX4_keep 25 = .ok (.getfield 23, 3) := by decide +kernel
theorem dX4_keep_28 : decode cX4_keep 28 = .ok (.iconst 1, 1) := by decide +kernel
theorem dX4_keep_29 : decode cX4_keep 29 = .ok (.iload_n 2, 1) := by decide +kernel
theorem dX4_keep_30 : decode cX4_keep 30 = .ok (.invokevirtual 187, 3) := by decide +kernel
theorem dX4_keep_33 : decode cX4_keep 33 = .ok (.iconst 0, 1) := by decide +kernel
theorem dX4_keep_34 : decode cX4_keep 34 = .ok (.istore 5, 2) := by decide +kernel
theorem dX4_keep_36 : decode cX4_keep 36 = .ok (.iload 5, 2) := by decide +kernel
theorem dX4_keep_38 : decode cX4_keep 38 = .ok (.iconst 3, 1) := by decide +kernel
theorem dX4_keep_39 : decode cX4_keep 39 = .ok (.if_icmp .ge 25, 3) := by decide +kernel
theorem dX4_keep_42 : decode cX4_keep 42 = .ok (.aload_n 0, 1) := by decide +kernel
theorem dX4_keep_43 : decode cX4_keep 43 = .ok (.getfield 23, 3) := by decide +kernel
theorem dX4_keep_46 : decode cX4_keep 46 = .ok (.iconst 2, 1) := by decide +kernel
theorem dX4_keep_47 : decode cX4_keep 47 = .ok (.iload 5, 2) := by decide +kernel
theorem dX4_keep_49 : decode cX4_keep 49 = .ok (.iadd, 1) := by decide +kernel
theorem dX4_keep_50 : decode cX4_keep 50 = .ok (.aload 4, 2) := by decide +kernel
theorem dX4_keep_52 : decode cX4_keep 52 = .ok (.iload 5, 2) := by decide +kernel
theorem dX4_keep_54 : decode cX4_keep 54 = .ok (.iaload, 1) := by decide +kernel
theorem dX4_keep_55 : decode cX4_keep 55 = .ok (.invokevirtual 187, 3) := by decide +kernel
theorem dX4_keep_58 : decode cX4_keep 58 = .ok (.iinc 5 1, 3) := by decide +kernel
theorem dX4_keep_61 : decode cX4_keep 61 = .ok (.goto (-25), 3) := by decide +kernel
theorem dX4_keep_64 : decode cX4_keep 64 = .ok (.aload_n 0, 1) := by decide +kernel
theorem dX4_keep_65 : decode cX4_keep 65 = .ok (.getfield 23, 3) := by decide +kernel
theorem dX4_keep_68 : decode cX4_keep 68 = .ok (.iconst 5, 1) := by decide +kernel
theorem dX4_keep_69 : decode cX4_keep 69 = .ok (.iload_n 3, 1) := by decide +kernel
theorem dX4_keep_70 : decode cX4_keep 70 = .ok (.iconst 2, 1) := by decide +kernel
theorem dX4_keep_71 : decode cX4_keep 71 = .ok (.if_icmp .ne 7, 3) := by decide +kernel
theorem dX4_keep_74 : decode cX4_keep 74 = .ok (.iconst 1, 1) := by decide +kernel
theorem dX4_keep_75 : decode cX4_keep 75 = .ok (.goto 4, 3) := by decide +kernel
theorem dX4_keep_78 : decode cX4_keep 78 = .ok (.iconst 0, 1) := by decide +kernel
theorem dX4_keep_79 : decode cX4_keep 79 = .ok (.invokevirtual 187, 3) := by decide +kernel
theorem dX4_keep_82 : decode cX4_keep 82 = .ok (.aload_n 0, 1) := by decide +kernel
theorem dX4_keep_83 : decode cX4_keep 83 = .ok (.getfield 23, 3) := by decide +kernel
theorem dX4_keep_86 : decode cX4_keep 86 = .ok (.bipush 6, 2) := by decide +kernel
theorem dX4_keep_88 : decode cX4_keep 88 = .ok (.aload 4, 2) := by decide +kernel
theorem dX4_keep_90 : decode cX4_keep 90 = .ok (.iload_n 3, 1) := by decide +kernel
theorem dX4_keep_91 : decode cX4_keep 91 = .ok (.iconst 2, 1) := by decide +kernel
theorem dX4_keep_92 : decode cX4_keep 92 = .ok (.if_icmp .ne 7, 3) := by decide +kernel
theorem dX4_keep_95 : decode cX4_keep 95 = .ok (.iconst 4, 1) := by decide +kernel
theorem dX4_keep_96 : decode cX4_keep 96 = .ok (.goto 4, 3) := by decide +kernel
theorem dX4_keep_99 : decode cX4_keep 99 = .ok (.iconst 3, 1) := by decide +kernel
theorem dX4_keep_100 : decode cX4_keep 100 = .ok (.iaload, 1) := by decide +kernel
theorem dX4_keep_101 : decode cX4_keep 101 = .ok (.invokevirtual 187, 3) := by decide +kernel
theorem dX4_keep_104 : decode cX4_keep 104 = .ok (.aload_n 0, 1) := by decide +kernel
theorem dX4_keep_105 : decode cX4_keep 105 = .ok (.getfield 23, 3) := by decide +kernel
theorem dX4_keep_108 : decode cX4_keep 108 = .ok (.invokevirtual 191, 3) := by decide +kernel
theorem dX4_keep_111 : decode cX4_keep 111 = .ok (.return_, 1) := by decide +kernel
theorem dX5_init_0 : decode cX5_init 0 = .ok (.aload_n 0, 1) := by decide +kernel
theorem dX5_init_1 : decode cX5_init 1 = .ok (.invokespecial 3, 3) := by decide +kernel
theorem dX5_init_4 : decode cX5_init 4 = .ok (.aload_n 0, 1) := by decide +kernel
theorem dX5_init_5 : decode cX5_init 5 = .ok (.bipush 16, 2) := by decide +kernel
theorem dX5_init_7 : decode cX5_init 7 = .ok (.newarray .long, 2) := by decide +kernel
theorem dX5_init_9 : decode cX5_init 9 = .ok (.putfield 11, 3) := by decide +kernel
theorem dX5_init_12 : decode cX5_init 12 = .ok (.aload_n 0, 1) := by decide +kernel
theorem dX5_init_13 : decode cX5_init 13 = .ok (.bipush 17, 2) := by decide +kernel
theorem dX5_init_15 : decode cX5_init 15 = .ok (.anewarray 15, 3) := by decide +kernel
theorem dX5_init_18 : decode cX5_init 18 = .ok (.putfield 17, 3) := by decide +kernel
theorem dX5_init_21 : decode cX5_init 21 = .ok (.iconst 0, 1) := by decide +kernel
theorem dX5_init_22 : decode cX5_init 22 = .ok (.istore_n 1, 1) := by decide +kernel
theorem dX5_init_23 : decode cX5_init 23 = .ok (.iload_n 1, 1) := by decide +kernel
theorem dX5_init_24 : decode cX5_init 24 = .ok (.bipush 16, 2) := by decide +kernel
theorem dX5_init_26 : decode cX5_init 26 = .ok (.if_icmp .gt 22, 3) := by decide +kernel
theorem dX5_init_29 : decode cX5_init 29 = .ok (.aload_n 0, 1) := by decide +kernel
theorem dX5_init_30 : decode cX5_init 30 = .ok (.getfield 17, 3) := by decide +kernel
theorem dX5_init_33 : decode cX5_init 33 = .ok (.iload_n 1, 1) := by decide +kernel
theorem dX5_init_34 : decode cX5_init 34 = .ok (.new 15, 3) := by decide +kernel
theorem dX5_init_37 : decode cX5_init 37 = .ok (.dup, 1) := by decide +kernel
theorem dX5_init_38 : decode cX5_init 38 = .ok (.invokespecial 21, 3) := by decide +kernel
theorem dX5_init_41 : decode cX5_init 41 = .ok (.aastore, 1) := by decide +kernel
theorem dX5_init_42 : decode cX5_init 42 = .ok (.iinc 1 1, 3) := by decide +kernel
theorem dX5_init_45 : decode cX5_init 45 = .ok (.goto (-22), 3) := by decide +kernel
theorem dX5_init_48 : decode cX5_init 48 = .ok (.return_, 1) := by decide +kernel
theorem dX5_has_0 : decode cX5_has 0 = .ok (.iload_n 1, 1) := by decide +kernel
theorem dX5_has_1 : decode cX5_has 1 = .ok (.ifCond .lt 15, 3) := by decide +kernel
theorem dX5_has_4 : decode cX5_has 4 = .ok (.iload_n 1, 1) := by decide +kernel
theorem dX5_has_5 : decode cX5_has 5 = .ok (.aload_n 0, 1) := by decide +kernel
theorem dX5_has_6 : decode cX5_has 6 = .ok (.getfield 22, 3) := by decide +kernel
theorem dX5_has_9 : decode cX5_has 9 = .ok (.if_icmp .ge 7, 3) := by decide +kernel
theorem dX5_has_12 : decode cX5_has 12 = .ok (.iconst 1, 1) := by decide +kernel
theorem dX5_has_13 : decode cX5_has 13 = .ok (.goto 4, 3) := by decide +kernel
theorem dX5_has_16 : decode cX5_has 16 = .ok (.iconst 0, 1) := by decide +kernel
theorem dX5_has_17 : decode cX5_has 17 = .ok (.ireturn, 1) := by decide +kernel
theorem dX5_isFull_0 : decode cX5_isFull 0 = .ok (.aload_n 0, 1) := by decide +kernel
theorem dX5_isFull_1 : decode cX5_isFull 1 = .ok (.getfield 22, 3) := by decide +kernel
theorem dX5_isFull_4 : decode cX5_isFull 4 = .ok (.bipush 16, 2) := by decide +kernel
theorem dX5_isFull_6 : decode cX5_isFull 6 = .ok (.if_icmp .lt 7, 3) := by decide +kernel
theorem dX5_isFull_9 : decode cX5_isFull 9 = .ok (.iconst 1, 1) := by decide +kernel
theorem dX5_isFull_10 : decode cX5_isFull 10 = .ok (.goto 4, 3) := by decide +kernel
theorem dX5_isFull_13 : decode cX5_isFull 13 = .ok (.iconst 0, 1) := by decide +kernel
theorem dX5_isFull_14 : decode cX5_isFull 14 = .ok (.ireturn, 1) := by decide +kernel
theorem dX5_size_0 : decode cX5_size 0 = .ok (.aload_n 0, 1) := by decide +kernel
theorem dX5_size_1 : decode cX5_size 1 = .ok (.getfield 22, 3) := by decide +kernel
theorem dX5_size_4 : decode cX5_size 4 = .ok (.ireturn, 1) := by decide +kernel
theorem dX5_keyOf_0 : decode cX5_keyOf 0 = .ok (.aload_n 0, 1) := by decide +kernel
theorem dX5_keyOf_1 : decode cX5_keyOf 1 = .ok (.iload_n 1, 1) := by decide +kernel
theorem dX5_keyOf_2 : decode cX5_keyOf 2 = .ok (.invokevirtual 26, 3) := by decide +kernel
theorem dX5_keyOf_5 : decode cX5_keyOf 5 = .ok (.ifCond .eq 12, 3) := by decide +kernel
theorem dX5_keyOf_8 : decode cX5_keyOf 8 = .ok (.aload_n 0, 1) := by decide +kernel
theorem dX5_keyOf_9 : decode cX5_keyOf 9 = .ok (.getfield 11, 3) := by decide +kernel
theorem dX5_keyOf_12 : decode cX5_keyOf 12 = .ok (.iload_n 1, 1) := by decide +kernel
theorem dX5_keyOf_13 : decode cX5_keyOf 13 = .ok (.laload, 1) := by decide +kernel
theorem dX5_keyOf_14 : decode cX5_keyOf 14 = .ok (.goto 4, 3) := by decide +kernel
theorem dX5_keyOf_17 : decode cX5_keyOf 17 = .ok (.lconst 0, 1) := by decide +kernel
theorem dX5_keyOf_18 : decode cX5_keyOf 18 = .ok (.lreturn, 1) := by decide +kernel
theorem dX5_parametersOf_0 : decode cX5_parametersOf 0 = .ok (.aload_n 0, 1) := by decide +kernel
theorem dX5_parametersOf_1 : decode cX5_parametersOf 1 = .ok (.iload_n 1, 1) := by decide +kernel
theorem dX5_parametersOf_2 : decode cX5_parametersOf 2 = .ok (.invokevirtual 30, 3) := by decide +kernel
theorem dX5_parametersOf_5 : decode cX5_parametersOf 5 = .ok (.invokestatic 34, 3) := by decide +kernel
theorem dX5_parametersOf_8 : decode cX5_parametersOf 8 = .ok (.ireturn, 1) := by decide +kernel
theorem dX5_body_0 : decode cX5_body 0 = .ok (.aload_n 0, 1) := by decide +kernel
theorem dX5_body_1 : decode cX5_body 1 = .ok (.getfield 17, 3) := by decide +kernel
theorem dX5_body_4 : decode cX5_body 4 = .ok (.aload_n 0, 1) := by decide +kernel
theorem dX5_body_5 : decode cX5_body 5 = .ok (.iload_n 1, 1) := by decide +kernel
theorem dX5_body_6 : decode cX5_body 6 = .ok (.invokevirtual 26, 3) := by decide +kernel
theorem dX5_body_9 : decode cX5_body 9 = .ok (.ifCond .eq 7, 3) := by decide +kernel
theorem dX5_body_12 : decode cX5_body 12 = .ok (.iload_n 1, 1) := by decide +kernel
theorem dX5_body_13 : decode cX5_body 13 = .ok (.goto 5, 3) := by decide +kernel
theorem dX5_body_18 : decode cX5_body 18 = .ok (.aaload, 1) := by decide +kernel
theorem dX5_body_19 : decode cX5_body 19 = .ok (.areturn, 1) := by decide +kernel
theorem dX5_spareBody_0 : decode cX5_spareBody 0 = .ok (.aload_n 0, 1) := by decide +kernel
theorem dX5_spareBody_1 : decode cX5_spareBody 1 = .ok (.getfield 17, 3) := by decide +kernel
theorem dX5_spareBody_4 : decode cX5_spareBody 4 = .ok (.aload_n 0, 1) := by decide +kernel
theorem dX5_spareBody_5 : decode cX5_spareBody 5 = .ok (.getfield 22, 3) := by decide +kernel
theorem dX5_spareBody_8 : decode cX5_spareBody 8 = .ok (.aaload, 1) := by decide +kernel
theorem dX5_spareBody_9 : decode cX5_spareBody 9 = .ok (.areturn, 1) := by decide +kernel
theorem dX5_find_0 : decode cX5_find 0 = .ok (.iconst 0, 1) := by decide +kernel
theorem dX5_find_1 : decode cX5_find 1 = .ok (.istore_n 3, 1) := by decide +kernel
theorem dX5_find_2 : decode cX5_find 2 = .ok (.iload_n 3, 1) := by decide +kernel
theorem dX5_find_3 : decode cX5_find 3 = .ok (.aload_n 0, 1) := by decide +kernel
theorem dX5_find_4 : decode cX5_find 4 = .ok (.getfield 22, 3) := by decide +kernel
theorem dX5_find_7 : decode cX5_find 7 = .ok (.if_icmp .ge 22, 3) := by decide +kernel
theorem dX5_find_10 : decode cX5_find 10 = .ok (.aload_n 0, 1) := by decide +kernel
theorem dX5_find_11 : decode cX5_find 11 = .ok (.getfield 11, 3) := by decide +kernel
theorem dX5_find_14 : decode cX5_find 14 = .ok (.iload_n 3, 1) := by decide +kernel
theorem dX5_find_15 : decode cX5_find 15 = .ok (.laload, 1) := by decide +kernel
theorem dX5_find_16 : decode cX5_find 16 = .ok (.lload_n 1, 1) := by decide +kernel
theorem dX5_find_17 : decode cX5_find 17 = .ok (.lcmp, 1) := by decide +kernel
theorem dX5_find_18 : decode cX5_find 18 = .ok (.ifCond .ne 5, 3) := by decide +kernel
theorem dX5_find_21 : decode cX5_find 21 = .ok (.iload_n 3, 1) := by decide +kernel
theorem dX5_find_22 : decode cX5_find 22 = .ok (.ireturn, 1) := by decide +kernel
theorem dX5_find_23 : decode cX5_find 23 = .ok (.iinc 3 1, 3) := by decide +kernel
theorem dX5_find_26 : decode cX5_find 26 = .ok (.goto (-24), 3) := by decide +kernel
theorem dX5_find_29 : decode cX5_find 29 = .ok (.iconst (-1), 1) := by decide +kernel
theorem dX5_find_30 : decode cX5_find 30 = .ok (.ireturn, 1) := by decide +kernel
theorem dX5_add_0 : decode cX5_add 0 = .ok (.aload_n 0, 1) := by decide +kernel
theorem dX5_add_1 : decode cX5_add 1 = .ok (.invokevirtual 40, 3) := by decide +kernel
theorem dX5_add_4 : decode cX5_add 4 = .ok (.ifCond .eq 5, 3) := by decide +kernel
theorem dX5_add_9 : decode cX5_add 9 = .ok (.aload_n 0, 1) := by decide +kernel
theorem dX5_add_10 : decode cX5_add 10 = .ok (.getfield 11, 3) := by decide +kernel
theorem dX5_add_13 : decode cX5_add 13 = .ok (.aload_n 0, 1) := by decide +kernel
theorem dX5_add_14 : decode cX5_add 14 = .ok (.getfield 22, 3) := by decide +kernel
theorem dX5_add_17 : decode cX5_add 17 = .ok (.lload_n 1, 1) := by decide +kernel
theorem dX5_add_18 : decode cX5_add 18 = .ok (.lastore, 1) := by decide +kernel
theorem dX5_add_19 : decode cX5_add 19 = .ok (.aload_n 0, 1) := by decide +kernel
theorem dX5_add_20 : decode cX5_add 20 = .ok (.dup, 1) := by decide +kernel
theorem dX5_add_21 : decode cX5_add 21 = .ok (.getfield 22, 3) := by decide +kernel
theorem dX5_add_24 : decode cX5_add 24 = .ok (.iconst 1, 1) := by decide +kernel
theorem dX5_add_25 : decode cX5_add 25 = .ok (.iadd, 1) := by decide +kernel
theorem dX5_add_26 : decode cX5_add 26 = .ok (.putfield 22, 3) := by decide +kernel
theorem dX5_add_29 : decode cX5_add 29 = .ok (.aload_n 0, 1) := by decide +kernel
theorem dX5_add_30 : decode cX5_add 30 = .ok (.getfield 22, 3) := by decide +kernel
theorem dX5_add_33 : decode cX5_add 33 = .ok (.iconst 1, 1) := by decide +kernel
theorem dX5_add_34 : decode cX5_add 34 = .ok (.isub, 1) := by decide +kernel
theorem dX5_add_35 : decode cX5_add 35 = .ok (.ireturn, 1) := by decide +kernel
theorem dX6_sign_0 : decode cX6_sign 0 = .ok (.iload_n 0, 1) := by decide +kernel
theorem dX6_sign_1 : decode cX6_sign 1 = .ok (.bipush 97, 2) := by decide +kernel
theorem dX6_sign_3 : decode cX6_sign 3 = .ok (.if_icmp .lt 16, 3) := by decide +kernel
theorem dX6_sign_6 : decode cX6_sign 6 = .ok (.iload_n 0, 1) := by decide +kernel
theorem dX6_sign_7 : decode cX6_sign 7 = .ok (.bipush 122, 2) := by decide +kernel
theorem dX6_sign_9 : decode cX6_sign 9 = .ok (.if_icmp .gt 10, 3) := by decide +kernel
theorem dX6_sign_12 : decode cX6_sign 12 = .ok (.iload_n 0, 1) := by decide +kernel
theorem dX6_sign_13 : decode cX6_sign 13 = .ok (.bipush 97, 2) := by decide +kernel
theorem dX6_sign_15 : decode cX6_sign 15 = .ok (.isub, 1) := by decide +kernel
theorem dX6_sign_16 : decode cX6_sign 16 = .ok (.iconst 1, 1) := by decide +kernel
theorem dX6_sign_17 : decode cX6_sign 17 = .ok (.iadd, 1) := by decide +kernel
theorem dX6_sign_18 : decode cX6_sign 18 = .ok (.ireturn, 1) := by decide +kernel
theorem dX6_sign_19 : decode cX6_sign 19 = .ok (.iload_n 0, 1) := by decide +kernel
theorem dX6_sign_20 : decode cX6_sign 20 = .ok (.lookupswitch 45 #[(42, 39), (46, 36), (63, 42)], 36) := by decide +kernel
theorem dX6_sign_56 : decode cX6_sign 56 = .ok (.bipush 27, 2) := by decide +kernel
theorem dX6_sign_58 : decode cX6_sign 58 = .ok (.ireturn, 1) := by decide +kernel
theorem dX6_sign_59 : decode cX6_sign 59 = .ok (.bipush 28, 2) := by decide +kernel
theorem dX6_sign_61 : decode cX6_sign 61 = .ok (.ireturn, 1) := by decide +kernel
theorem dX6_sign_62 : decode cX6_sign 62 = .ok (.bipush 29, 2) := by decide +kernel
theorem dX6_sign_64 : decode cX6_sign 64 = .ok (.ireturn, 1) := by decide +kernel
theorem dX6_sign_65 : decode cX6_sign 65 = .ok (.iconst 0, 1) := by decide +kernel
theorem dX6_sign_66 : decode cX6_sign 66 = .ok (.ireturn, 1) := by decide +kernel
theorem dX6_with_0 : decode cX6_with 0 = .ok (.lload_n 0, 1) := by decide +kernel
theorem dX6_with_1 : decode cX6_with 1 = .ok (.iload_n 3, 1) := by decide +kernel
theorem dX6_with_2 : decode cX6_with 2 = .ok (.i2l, 1) := by decide +kernel
theorem dX6_with_3 : decode cX6_with 3 = .ok (.iconst 5, 1) := by decide +kernel
theorem dX6_with_4 : decode cX6_with 4 = .ok (.iload_n 2, 1) := by decide +kernel
theorem dX6_with_5 : decode cX6_with 5 = .ok (.imul, 1) := by decide +kernel
theorem dX6_with_6 : decode cX6_with 6 = .ok (.lshl, 1) := by decide +kernel
theorem dX6_with_7 : decode cX6_with 7 = .ok (.lor, 1) := by decide +kernel
theorem dX6_with_8 : decode cX6_with 8 = .ok (.lreturn, 1) := by decide +kernel
theorem dX6_signAt_0 : decode cX6_signAt 0 = .ok (.lload_n 0, 1) := by decide +kernel
theorem dX6_signAt_1 : decode cX6_signAt 1 = .ok (.iconst 5, 1) := by decide +kernel
theorem dX6_signAt_2 : decode cX6_signAt 2 = .ok (.iload_n 2, 1) := by decide +kernel
theorem dX6_signAt_3 : decode cX6_signAt 3 = .ok (.imul, 1) := by decide +kernel
theorem dX6_signAt_4 : decode cX6_signAt 4 = .ok (.lushr, 1) := by decide +kernel
theorem dX6_signAt_5 : decode cX6_signAt 5 = .ok (.l2i, 1) := by decide +kernel
theorem dX6_signAt_6 : decode cX6_signAt 6 = .ok (.bipush 31, 2) := by decide +kernel
theorem dX6_signAt_8 : decode cX6_signAt 8 = .ok (.iand, 1) := by decide +kernel
theorem dX6_signAt_9 : decode cX6_signAt 9 = .ok (.ireturn, 1) := by decide +kernel
theorem dX6_key_0 : decode cX6_key 0 = .ok (.lload_n 0, 1) := by decide +kernel
theorem dX6_key_1 : decode cX6_key 1 = .ok (.iload_n 2, 1) := by decide +kernel
theorem dX6_key_2 : decode cX6_key 2 = .ok (.i2l, 1) := by decide +kernel
theorem dX6_key_3 : decode cX6_key 3 = .ok (.bipush 60, 2) := by decide +kernel
theorem dX6_key_5 : decode cX6_key 5 = .ok (.lshl, 1) := by decide +kernel
theorem dX6_key_6 : decode cX6_key 6 = .ok (.lor, 1) := by decide +kernel
theorem dX6_key_7 : decode cX6_key 7 = .ok (.lreturn, 1) := by decide +kernel
theorem dX6_parametersOf_0 : decode cX6_parametersOf 0 = .ok (.lload_n 0, 1) := by decide +kernel
theorem dX6_parametersOf_1 : decode cX6_parametersOf 1 = .ok (.bipush 60, 2) := by decide +kernel
theorem dX6_parametersOf_3 : decode cX6_parametersOf 3 = .ok (.lushr, 1) := by decide +kernel
theorem dX6_parametersOf_4 : decode cX6_parametersOf 4 = .ok (.l2i, 1) := by decide +kernel
theorem dX6_parametersOf_5 : decode cX6_parametersOf 5 = .ok (.ireturn, 1) := by decide +kernel
theorem dX6_fits_0 : decode cX6_fits 0 = .ok (.lload_n 0, 1) := by decide +kernel
theorem dX6_fits_1 : decode cX6_fits 1 = .ok (.iconst 1, 1) := by decide +kernel
theorem dX6_fits_2 : decode cX6_fits 2 = .ok (.invokestatic 9, 3) := by decide +kernel
theorem dX6_fits_5 : decode cX6_fits 5 = .ok (.istore 4, 2) := by decide +kernel
theorem dX6_fits_7 : decode cX6_fits 7 = .ok (.iconst 0, 1) := by decide +kernel
theorem dX6_fits_8 : decode cX6_fits 8 = .ok (.istore 5, 2) := by decide +kernel
theorem dX6_fits_10 : decode cX6_fits 10 = .ok (.iconst 0, 1) := by decide +kernel
theorem dX6_fits_11 : decode cX6_fits 11 = .ok (.istore 6, 2) := by decide +kernel
theorem dX6_fits_13 : decode cX6_fits 13 = .ok (.iload 6, 2) := by decide +kernel
theorem dX6_fits_15 : decode cX6_fits 15 = .ok (.bipush 12, 2) := by decide +kernel
theorem dX6_fits_17 : decode cX6_fits 17 = .ok (.if_icmp .ge 51, 3) := by decide +kernel
theorem dX6_fits_20 : decode cX6_fits 20 = .ok (.lload_n 2, 1) := by decide +kernel
theorem dX6_fits_21 : decode cX6_fits 21 = .ok (.iload 6, 2) := by decide +kernel
theorem dX6_fits_23 : decode cX6_fits 23 = .ok (.invokestatic 13, 3) := by decide +kernel
theorem dX6_fits_26 : decode cX6_fits 26 = .ok (.istore 7, 2) := by decide +kernel
theorem dX6_fits_28 : decode cX6_fits 28 = .ok (.iload 7, 2) := by decide +kernel
theorem dX6_fits_30 : decode cX6_fits 30 = .ok (.ifCond .eq 17, 3) := by decide +kernel
theorem dX6_fits_33 : decode cX6_fits 33 = .ok (.lload_n 0, 1) := by decide +kernel
theorem dX6_fits_34 : decode cX6_fits 34 = .ok (.lload_n 0, 1) := by decide +kernel
theorem dX6_fits_35 : decode cX6_fits 35 = .ok (.iload 4, 2) := by decide +kernel
theorem dX6_fits_37 : decode cX6_fits 37 = .ok (.iload 7, 2) := by decide +kernel
theorem dX6_fits_39 : decode cX6_fits 39 = .ok (.invokestatic 16, 3) := by decide +kernel
theorem dX6_fits_42 : decode cX6_fits 42 = .ok (.invokestatic 9, 3) := by decide +kernel
theorem dX6_fits_45 : decode cX6_fits 45 = .ok (.istore 4, 2) := by decide +kernel
theorem dX6_fits_47 : decode cX6_fits 47 = .ok (.lload_n 0, 1) := by decide +kernel
theorem dX6_fits_48 : decode cX6_fits 48 = .ok (.iload 6, 2) := by decide +kernel
theorem dX6_fits_50 : decode cX6_fits 50 = .ok (.invokestatic 13, 3) := by decide +kernel
theorem dX6_fits_53 : decode cX6_fits 53 = .ok (.ifCond .eq 9, 3) := by decide +kernel
theorem dX6_fits_56 : decode cX6_fits 56 = .ok (.iload 6, 2) := by decide +kernel
theorem dX6_fits_58 : decode cX6_fits 58 = .ok (.iconst 1, 1) := by decide +kernel
theorem dX6_fits_59 : decode cX6_fits 59 = .ok (.iadd, 1) := by decide +kernel
theorem dX6_fits_60 : decode cX6_fits 60 = .ok (.istore 5, 2) := by decide +kernel
theorem dX6_fits_62 : decode cX6_fits 62 = .ok (.iinc 6 1, 3) := by decide +kernel
theorem dX6_fits_65 : decode cX6_fits 65 = .ok (.goto (-52), 3) := by decide +kernel
theorem dX6_fits_68 : decode cX6_fits 68 = .ok (.iload 4, 2) := by decide +kernel
theorem dX6_fits_70 : decode cX6_fits 70 = .ok (.iload 5, 2) := by decide +kernel
theorem dX6_fits_72 : decode cX6_fits 72 = .ok (.iushr, 1) := by decide +kernel
theorem dX6_fits_73 : decode cX6_fits 73 = .ok (.iconst 1, 1) := by decide +kernel
theorem dX6_fits_74 : decode cX6_fits 74 = .ok (.iand, 1) := by decide +kernel
theorem dX6_fits_75 : decode cX6_fits 75 = .ok (.iconst 1, 1) := by decide +kernel
theorem dX6_fits_76 : decode cX6_fits 76 = .ok (.if_icmp .ne 7, 3) := by decide +kernel
theorem dX6_fits_79 : decode cX6_fits 79 = .ok (.iconst 1, 1) := by decide +kernel
theorem dX6_fits_80 : decode cX6_fits 80 = .ok (.goto 4, 3) := by decide +kernel
theorem dX6_fits_83 : decode cX6_fits 83 = .ok (.iconst 0, 1) := by decide +kernel
theorem dX6_fits_84 : decode cX6_fits 84 = .ok (.ireturn, 1) := by decide +kernel
theorem dX6_pastStars_0 : decode cX6_pastStars 0 = .ok (.iload_n 2, 1) := by decide +kernel
theorem dX6_pastStars_1 : decode cX6_pastStars 1 = .ok (.istore_n 3, 1) := by decide +kernel
theorem dX6_pastStars_2 : decode cX6_pastStars 2 = .ok (.iconst 0, 1) := by decide +kernel
theorem dX6_pastStars_3 : decode cX6_pastStars 3 = .ok (.istore 4, 2) := by decide +kernel
theorem dX6_pastStars_5 : decode cX6_pastStars 5 = .ok (.iload 4, 2) := by decide +kernel
theorem dX6_pastStars_7 : decode cX6_pastStars 7 = .ok (.bipush 12, 2) := by decide +kernel
theorem dX6_pastStars_9 : decode cX6_pastStars 9 = .ok (.if_icmp .ge 39, 3) := by decide +kernel
theorem dX6_pastStars_12 : decode cX6_pastStars 12 = .ok (.iload_n 3, 1) := by decide +kernel
theorem dX6_pastStars_13 : decode cX6_pastStars 13 = .ok (.iload 4, 2) := by decide +kernel
theorem dX6_pastStars_15 : decode cX6_pastStars 15 = .ok (.iushr, 1) := by decide +kernel
theorem dX6_pastStars_16 : decode cX6_pastStars 16 = .ok (.iconst 1, 1) := by decide +kernel
theorem dX6_pastStars_17 : decode cX6_pastStars 17 = .ok (.iand, 1) := by decide +kernel
theorem dX6_pastStars_18 : decode cX6_pastStars 18 = .ok (.iconst 1, 1) := by decide +kernel
theorem dX6_pastStars_19 : decode cX6_pastStars 19 = .ok (.if_icmp .ne 23, 3) := by decide +kernel
theorem dX6_pastStars_22 : decode cX6_pastStars 22 = .ok (.lload_n 0, 1) := by decide +kernel
theorem dX6_pastStars_23 : decode cX6_pastStars 23 = .ok (.iload 4, 2) := by decide +kernel


theorem dX11_init_53 : decode cX11_init 53 = .ok (.putfield 37, 3) := by decide +kernel
theorem dX11_init_56 : decode cX11_init 56 = .ok (.aload_n 0, 1) := by decide +kernel
theorem dX11_init_57 : decode cX11_init 57 = .ok (.new 41, 3) := by decide +kernel
theorem dX11_init_60 : decode cX11_init 60 = .ok (.dup, 1) := by decide +kernel
theorem dX11_init_61 : decode cX11_init 61 = .ok (.invokespecial 43, 3) := by decide +kernel
theorem dX11_init_64 : decode cX11_init 64 = .ok (.putfield 44, 3) := by decide +kernel
theorem dX11_init_67 : decode cX11_init 67 = .ok (.aload_n 0, 1) := by decide +kernel
theorem dX11_init_68 : decode cX11_init 68 = .ok (.new 48, 3) := by decide +kernel
theorem dX11_init_71 : decode cX11_init 71 = .ok (.dup, 1) := by decide +kernel
theorem dX11_init_72 : decode cX11_init 72 = .ok (.sipush 300, 3) := by decide +kernel
theorem dX11_init_75 : decode cX11_init 75 = .ok (.iconst 5, 1) := by decide +kernel
theorem dX11_init_76 : decode cX11_init 76 = .ok (.invokespecial 50, 3) := by decide +kernel
theorem dX11_init_79 : decode cX11_init 79 = .ok (.putfield 53, 3) := by decide +kernel
theorem dX11_init_82 : decode cX11_init 82 = .ok (.aload_n 0, 1) := by decide +kernel
theorem dX11_init_83 : decode cX11_init 83 = .ok (.new 48, 3) := by decide +kernel
theorem dX11_init_86 : decode cX11_init 86 = .ok (.dup, 1) := by decide +kernel
theorem dX11_init_87 : decode cX11_init 87 = .ok (.bipush 40, 2) := by decide +kernel
theorem dX11_init_89 : decode cX11_init 89 = .ok (.bipush 7, 2) := by decide +kernel
theorem dX11_init_91 : decode cX11_init 91 = .ok (.invokespecial 50, 3) := by decide +kernel
theorem dX11_init_94 : decode cX11_init 94 = .ok (.putfield 57, 3) := by decide +kernel
theorem dX11_init_97 : decode cX11_init 97 = .ok (.aload_n 0, 1) := by decide +kernel
theorem dX11_init_98 : decode cX11_init 98 = .ok (.new 60, 3) := by decide +kernel
theorem dX11_init_101 : decode cX11_init 101 = .ok (.dup, 1) := by decide +kernel
theorem dX11_init_102 : decode cX11_init 102 = .ok (.aload_n 0, 1) := by decide +kernel
theorem dX11_init_103 : decode cX11_init 103 = .ok (.getfield 37, 3) := by decide +kernel
theorem dX11_init_106 : decode cX11_init 106 = .ok (.aload_n 0, 1) := by decide +kernel
theorem dX11_init_107 : decode cX11_init 107 = .ok (.getfield 44, 3) := by decide +kernel
theorem dX11_init_110 : decode cX11_init 110 = .ok (.aload_n 0, 1) := by decide +kernel
theorem dX11_init_111 : decode cX11_init 111 = .ok (.getfield 53, 3) := by decide +kernel
theorem dX11_init_114 : decode cX11_init 114 = .ok (.aload_n 0, 1) := by decide +kernel
theorem dX11_init_115 : decode cX11_init 115 = .ok (.getfield 57, 3) := by decide +kernel
theorem dX11_init_118 : decode cX11_init 118 = .ok (.invokespecial 62, 3) := by decide +kernel
theorem dX11_init_121 : decode cX11_init 121 = .ok (.putfield 65, 3) := by decide +kernel
theorem dX11_init_124 : decode cX11_init 124 = .ok (.return_, 1) := by decide +kernel
theorem dX11_feed_0 : decode cX11_feed 0 = .ok (.iload_n 1, 1) := by decide +kernel
theorem dX11_feed_1 : decode cX11_feed 1 = .ok (.iconst 1, 1) := by decide +kernel
theorem dX11_feed_2 : decode cX11_feed 2 = .ok (.if_icmp .lt 9, 3) := by decide +kernel
theorem dX11_feed_5 : decode cX11_feed 5 = .ok (.iload_n 1, 1) := by decide +kernel
theorem dX11_feed_6 : decode cX11_feed 6 = .ok (.bipush 8, 2) := by decide +kernel
theorem dX11_feed_8 : decode cX11_feed 8 = .ok (.if_icmp .le 11, 3) := by decide +kernel
theorem dX11_feed_11 : decode cX11_feed 11 = .ok (.new 69, 3) := by decide +kernel
theorem dX11_feed_14 : decode cX11_feed 14 = .ok (.dup, 1) := by decide +kernel
theorem dX11_feed_15 : decode cX11_feed 15 = .ok (.invokespecial 71, 3) := by decide +kernel
theorem dX11_feed_18 : decode cX11_feed 18 = .ok (.athrow, 1) := by decide +kernel
theorem dX11_feed_19 : decode cX11_feed 19 = .ok (.aload_n 0, 1) := by decide +kernel
theorem dX11_feed_20 : decode cX11_feed 20 = .ok (.getfield 10, 3) := by decide +kernel
theorem dX11_feed_23 : decode cX11_feed 23 = .ok (.getfield 72, 3) := by decide +kernel
theorem dX11_feed_26 : decode cX11_feed 26 = .ok (.iload_n 1, 1) := by decide +kernel
theorem dX11_feed_27 : decode cX11_feed 27 = .ok (.iadd, 1) := by decide +kernel
theorem dX11_feed_28 : decode cX11_feed 28 = .ok (.sipush 200, 3) := by decide +kernel
theorem dX11_feed_31 : decode cX11_feed 31 = .ok (.if_icmp .le 5, 3) := by decide +kernel
theorem dX11_feed_34 : decode cX11_feed 34 = .ok (.iconst (-1), 1) := by decide +kernel
theorem dX11_feed_35 : decode cX11_feed 35 = .ok (.ireturn, 1) := by decide +kernel
theorem dX11_feed_36 : decode cX11_feed 36 = .ok (.iconst 0, 1) := by decide +kernel
theorem dX11_feed_37 : decode cX11_feed 37 = .ok (.istore 4, 2) := by decide +kernel
theorem dX11_feed_39 : decode cX11_feed 39 = .ok (.iload 4, 2) := by decide +kernel
theorem dX11_feed_41 : decode cX11_feed 41 = .ok (.iload_n 1, 1) := by decide +kernel
theorem dX11_feed_42 : decode cX11_feed 42 = .ok (.if_icmp .ge 28, 3) := by decide +kernel
theorem dX11_feed_45 : decode cX11_feed 45 = .ok (.aload_n 0, 1) := by decide +kernel
theorem dX11_feed_46 : decode cX11_feed 46 = .ok (.getfield 10, 3) := by decide +kernel
theorem dX11_feed_49 : decode cX11_feed 49 = .ok (.lload_n 2, 1) := by decide +kernel
theorem dX11_feed_50 : decode cX11_feed 50 = .ok (.bipush 8, 2) := by decide +kernel
theorem dX11_feed_52 : decode cX11_feed 52 = .ok (.iload 4, 2) := by decide +kernel
theorem dX11_feed_54 : decode cX11_feed 54 = .ok (.imul, 1) := by decide +kernel
theorem dX11_feed_55 : decode cX11_feed 55 = .ok (.lushr, 1) := by decide +kernel
theorem dX11_feed_56 : decode cX11_feed 56 = .ok (.l2i, 1) := by decide +kernel
theorem dX11_feed_57 : decode cX11_feed 57 = .ok (.sipush 255, 3) := by decide +kernel
theorem dX11_feed_60 : decode cX11_feed 60 = .ok (.iand, 1) := by decide +kernel
theorem dX11_feed_61 : decode cX11_feed 61 = .ok (.invokevirtual 76, 3) := by decide +kernel
theorem dX11_feed_64 : decode cX11_feed 64 = .ok (.iinc 4 1, 3) := by decide +kernel
theorem dX11_feed_67 : decode cX11_feed 67 = .ok (.goto (-28), 3) := by decide +kernel
theorem dX11_feed_70 : decode cX11_feed 70 = .ok (.aload_n 0, 1) := by decide +kernel
theorem dX11_feed_71 : decode cX11_feed 71 = .ok (.getfield 10, 3) := by decide +kernel
theorem dX11_feed_74 : decode cX11_feed 74 = .ok (.getfield 72, 3) := by decide +kernel
theorem dX11_feed_77 : decode cX11_feed 77 = .ok (.ireturn, 1) := by decide +kernel
theorem dX11_wipe_0 : decode cX11_wipe 0 = .ok (.aload_n 0, 1) := by decide +kernel
theorem dX11_wipe_1 : decode cX11_wipe 1 = .ok (.getfield 10, 3) := by decide +kernel
theorem dX11_wipe_4 : decode cX11_wipe 4 = .ok (.getfield 72, 3) := by decide +kernel
theorem dX11_wipe_7 : decode cX11_wipe 7 = .ok (.istore_n 1, 1) := by decide +kernel
theorem dX11_wipe_8 : decode cX11_wipe 8 = .ok (.aload_n 0, 1) := by decide +kernel
theorem dX11_wipe_9 : decode cX11_wipe 9 = .ok (.getfield 10, 3) := by decide +kernel
theorem dX11_wipe_12 : decode cX11_wipe 12 = .ok (.iconst 0, 1) := by decide +kernel
theorem dX11_wipe_13 : decode cX11_wipe 13 = .ok (.putfield 72, 3) := by decide +kernel
theorem dX11_wipe_16 : decode cX11_wipe 16 = .ok (.iload_n 1, 1) := by decide +kernel
theorem dX11_wipe_17 : decode cX11_wipe 17 = .ok (.ireturn, 1) := by decide +kernel
theorem dX11_method_0 : decode cX11_method 0 = .ok (.aload_n 0, 1) := by decide +kernel
theorem dX11_method_1 : decode cX11_method 1 = .ok (.getfield 30, 3) := by decide +kernel
theorem dX11_method_4 : decode cX11_method 4 = .ok (.aload_n 0, 1) := by decide +kernel
theorem dX11_method_5 : decode cX11_method 5 = .ok (.getfield 37, 3) := by decide +kernel
theorem dX11_method_8 : decode cX11_method 8 = .ok (.invokevirtual 80, 3) := by decide +kernel
theorem dX11_method_11 : decode cX11_method 11 = .ok (.invokevirtual 84, 3) := by decide +kernel
theorem dX11_method_14 : decode cX11_method 14 = .ok (.lstore_n 1, 1) := by decide +kernel
theorem dX11_method_15 : decode cX11_method 15 = .ok (.aload_n 0, 1) := by decide +kernel
theorem dX11_method_16 : decode cX11_method 16 = .ok (.getfield 37, 3) := by decide +kernel
theorem dX11_method_19 : decode cX11_method 19 = .ok (.invokevirtual 88, 3) := by decide +kernel
theorem dX11_method_22 : decode cX11_method 22 = .ok (.ifCond .ne 15, 3) := by decide +kernel
theorem dX11_method_25 : decode cX11_method 25 = .ok (.aload_n 0, 1) := by decide +kernel
theorem dX11_method_26 : decode cX11_method 26 = .ok (.getfield 37, 3) := by decide +kernel
theorem dX11_method_29 : decode cX11_method 29 = .ok (.lload_n 1, 1) := by decide +kernel
theorem dX11_method_30 : decode cX11_method 30 = .ok (.invokevirtual 92, 3) := by decide +kernel
theorem dX11_method_33 : decode cX11_method 33 = .ok (.iconst (-1), 1) := by decide +kernel
theorem dX11_method_34 : decode cX11_method 34 = .ok (.if_icmp .eq 10, 3) := by decide +kernel
theorem dX11_method_37 : decode cX11_method 37 = .ok (.aload_n 0, 1) := by decide +kernel
theorem dX11_method_38 : decode cX11_method 38 = .ok (.getfield 21, 3) := by decide +kernel
theorem dX11_method_41 : decode cX11_method 41 = .ok (.invokevirtual 96, 3) := by decide +kernel
theorem dX11_method_44 : decode cX11_method 44 = .ok (.aload_n 0, 1) := by decide +kernel
theorem dX11_method_45 : decode cX11_method 45 = .ok (.getfield 21, 3) := by decide +kernel
theorem dX11_method_48 : decode cX11_method 48 = .ok (.getfield 99, 3) := by decide +kernel
theorem dX11_method_51 : decode cX11_method 51 = .ok (.ifCond .eq 5, 3) := by decide +kernel
theorem dX11_method_54 : decode cX11_method 54 = .ok (.iconst (-1), 1) := by decide +kernel
theorem dX11_method_55 : decode cX11_method 55 = .ok (.ireturn, 1) := by decide +kernel
theorem dX11_method_56 : decode cX11_method 56 = .ok (.aload_n 0, 1) := by decide +kernel
theorem dX11_method_57 : decode cX11_method 57 = .ok (.getfield 37, 3) := by decide +kernel
theorem dX11_method_60 : decode cX11_method 60 = .ok (.lload_n 1, 1) := by decide +kernel
theorem dX11_method_61 : decode cX11_method 61 = .ok (.invokevirtual 102, 3) := by decide +kernel
theorem dX11_method_64 : decode cX11_method 64 = .ok (.istore_n 3, 1) := by decide +kernel
theorem dX11_method_65 : decode cX11_method 65 = .ok (.aload_n 0, 1) := by decide +kernel
theorem dX11_method_66 : decode cX11_method 66 = .ok (.getfield 44, 3) := by decide +kernel
theorem dX11_method_69 : decode cX11_method 69 = .ok (.iload_n 3, 1) := by decide +kernel
theorem dX11_method_70 : decode cX11_method 70 = .ok (.lload_n 1, 1) := by decide +kernel
theorem dX11_method_71 : decode cX11_method 71 = .ok (.invokevirtual 105, 3) := by decide +kernel
theorem dX11_method_74 : decode cX11_method 74 = .ok (.iload_n 3, 1) := by decide +kernel
theorem dX11_method_75 : decode cX11_method 75 = .ok (.ireturn, 1) := by decide +kernel
theorem dX11_command_0 : decode cX11_command 0 = .ok (.aload_n 0, 1) := by decide +kernel
theorem dX11_command_1 : decode cX11_command 1 = .ok (.getfield 30, 3) := by decide +kernel
theorem dX11_command_4 : decode cX11_command 4 = .ok (.aload_n 0, 1) := by decide +kernel
theorem dX11_command_5 : decode cX11_command 5 = .ok (.getfield 44, 3) := by decide +kernel
theorem dX11_command_8 : decode cX11_command 8 = .ok (.getfield 109, 3) := by decide +kernel
theorem dX11_command_11 : decode cX11_command 11 = .ok (.invokevirtual 113, 3) := by decide +kernel
theorem dX11_command_14 : decode cX11_command 14 = .ok (.istore_n 1, 1) := by decide +kernel
theorem dX11_command_15 : decode cX11_command 15 = .ok (.aload_n 0, 1) := by decide +kernel
theorem dX11_command_16 : decode cX11_command 16 = .ok (.getfield 21, 3) := by decide +kernel
theorem dX11_command_19 : decode cX11_command 19 = .ok (.getfield 99, 3) := by decide +kernel
theorem dX11_command_22 : decode cX11_command 22 = .ok (.ifCond .eq 5, 3) := by decide +kernel
theorem dX11_command_25 : decode cX11_command 25 = .ok (.iconst (-1), 1) := by decide +kernel
theorem dX11_command_26 : decode cX11_command 26 = .ok (.ireturn, 1) := by decide +kernel
theorem dX11_command_27 : decode cX11_command 27 = .ok (.iload_n 1, 1) := by decide +kernel
theorem dX11_command_28 : decode cX11_command 28 = .ok (.iconst 5, 1) := by decide +kernel
theorem dX11_command_29 : decode cX11_command 29 = .ok (.if_icmp .ne 11, 3) := by decide +kernel
theorem dX11_command_32 : decode cX11_command 32 = .ok (.aload_n 0, 1) := by decide +kernel
theorem dX11_command_33 : decode cX11_command 33 = .ok (.getfield 44, 3) := by decide +kernel
theorem dX11_command_36 : decode cX11_command 36 = .ok (.invokevirtual 117, 3) := by decide +kernel
theorem dX11_command_39 : decode cX11_command 39 = .ok (.ireturn, 1) := by decide +kernel
theorem dX11_command_40 : decode cX11_command 40 = .ok (.iload_n 1, 1) := by decide +kernel
theorem dX11_command_41 : decode cX11_command 41 = .ok (.iconst 4, 1) := by decide +kernel
theorem dX11_command_42 : decode cX11_command 42 = .ok (.if_icmp .ne 20, 3) := by decide +kernel
theorem dX11_command_45 : decode cX11_command 45 = .ok (.aload_n 0, 1) := by decide +kernel
theorem dX11_command_46 : decode cX11_command 46 = .ok (.getfield 44, 3) := by decide +kernel
theorem dX11_command_49 : decode cX11_command 49 = .ok (.aload_n 0, 1) := by decide +kernel
theorem dX11_command_50 : decode cX11_command 50 = .ok (.getfield 30, 3) := by decide +kernel
theorem dX11_command_53 : decode cX11_command 53 = .ok (.getfield 121, 3) := by decide +kernel
theorem dX11_command_56 : decode cX11_command 56 = .ok (.invokevirtual 124, 3) := by decide +kernel
theorem dX11_command_59 : decode cX11_command 59 = .ok (.goto 14, 3) := by decide +kernel
theorem dX11_command_62 : decode cX11_command 62 = .ok (.aload_n 0, 1) := by decide +kernel
theorem dX11_command_63 : decode cX11_command 63 = .ok (.getfield 44, 3) := by decide +kernel
theorem dX11_command_66 : decode cX11_command 66 = .ok (.aload_n 0, 1) := by decide +kernel
theorem dX11_command_67 : decode cX11_command 67 = .ok (.getfield 37, 3) := by decide +kernel
theorem dX11_command_70 : decode cX11_command 70 = .ok (.invokevirtual 128, 3) := by decide +kernel
theorem dX11_command_73 : decode cX11_command 73 = .ok (.istore_n 2, 1) := by decide +kernel
theorem dX11_command_74 : decode cX11_command 74 = .ok (.iload_n 2, 1) := by decide +kernel
theorem dX11_command_75 : decode cX11_command 75 = .ok (.iconst (-1), 1) := by decide +kernel
theorem dX11_command_76 : decode cX11_command 76 = .ok (.if_icmp .ne 10, 3) := by decide +kernel
theorem dX11_command_79 : decode cX11_command 79 = .ok (.aload_n 0, 1) := by decide +kernel
theorem dX11_command_80 : decode cX11_command 80 = .ok (.getfield 21, 3) := by decide +kernel
theorem dX11_command_83 : decode cX11_command 83 = .ok (.invokevirtual 96, 3) := by decide +kernel
theorem dX11_command_86 : decode cX11_command 86 = .ok (.iload_n 2, 1) := by decide +kernel
theorem dX11_command_87 : decode cX11_command 87 = .ok (.ireturn, 1) := by decide +kernel
theorem dX11_fault_0 : decode cX11_fault 0 = .ok (.aload_n 0, 1) := by decide +kernel
theorem dX11_fault_1 : decode cX11_fault 1 = .ok (.getfield 21, 3) := by decide +kernel
theorem dX11_fault_4 : decode cX11_fault 4 = .ok (.getfield 99, 3) := by decide +kernel
theorem dX11_fault_7 : decode cX11_fault 7 = .ok (.ireturn, 1) := by decide +kernel
theorem dX11_place_0 : decode cX11_place 0 = .ok (.aload_n 0, 1) := by decide +kernel
theorem dX11_place_1 : decode cX11_place 1 = .ok (.getfield 21, 3) := by decide +kernel
theorem dX11_place_4 : decode cX11_place 4 = .ok (.getfield 132, 3) := by decide +kernel
theorem dX11_place_7 : decode cX11_place 7 = .ok (.ireturn, 1) := by decide +kernel
theorem dX11_call_0 : decode cX11_call 0 = .ok (.aload_n 0, 1) := by decide +kernel
theorem dX11_call_1 : decode cX11_call 1 = .ok (.getfield 37, 3) := by decide +kernel
theorem dX11_call_4 : decode cX11_call 4 = .ok (.iload_n 1, 1) := by decide +kernel
theorem dX11_call_5 : decode cX11_call 5 = .ok (.invokevirtual 135, 3) := by decide +kernel
theorem dX11_call_8 : decode cX11_call 8 = .ok (.ifCond .ne 11, 3) := by decide +kernel
theorem dX11_call_11 : decode cX11_call 11 = .ok (.new 139, 3) := by decide +kernel
theorem dX11_call_14 : decode cX11_call 14 = .ok (.dup, 1) := by decide +kernel
theorem dX11_call_15 : decode cX11_call 15 = .ok (.invokespecial 141, 3) := by decide +kernel
theorem dX11_call_18 : decode cX11_call 18 = .ok (.athrow, 1) := by decide +kernel
theorem dX11_call_19 : decode cX11_call 19 = .ok (.aload_n 0, 1) := by decide +kernel
theorem dX11_call_20 : decode cX11_call 20 = .ok (.getfield 65, 3) := by decide +kernel
theorem dX11_call_23 : decode cX11_call 23 = .ok (.aload_n 0, 1) := by decide +kernel
theorem dX11_call_24 : decode cX11_call 24 = .ok (.getfield 37, 3) := by decide +kernel
theorem dX11_call_27 : decode cX11_call 27 = .ok (.iload_n 1, 1) := by decide +kernel
theorem dX11_call_28 : decode cX11_call 28 = .ok (.invokevirtual 142, 3) := by decide +kernel
theorem dX11_call_31 : decode cX11_call 31 = .ok (.iload_n 2, 1) := by decide +kernel
theorem dX11_call_32 : decode cX11_call 32 = .ok (.iload_n 3, 1) := by decide +kernel
theorem dX11_call_33 : decode cX11_call 33 = .ok (.iload 4, 2) := by decide +kernel
theorem dX11_call_35 : decode cX11_call 35 = .ok (.invokevirtual 145, 3) := by decide +kernel
theorem dX11_call_38 : decode cX11_call 38 = .ok (.aload_n 0, 1) := by decide +kernel
theorem dX11_call_39 : decode cX11_call 39 = .ok (.getfield 65, 3) := by decide +kernel
theorem dX11_call_42 : decode cX11_call 42 = .ok (.iload_n 1, 1) := by decide +kernel
theorem dX11_call_43 : decode cX11_call 43 = .ok (.iconst 1, 1) := by decide +kernel
theorem dX11_call_44 : decode cX11_call 44 = .ok (.invokevirtual 149, 3) := by decide +kernel
theorem dX11_call_47 : decode cX11_call 47 = .ok (.ireturn, 1) := by decide +kernel
theorem dX11_value_0 : decode cX11_value 0 = .ok (.aload_n 0, 1) := by decide +kernel
theorem dX11_value_1 : decode cX11_value 1 = .ok (.getfield 65, 3) := by decide +kernel
theorem dX11_value_4 : decode cX11_value 4 = .ok (.getfield 153, 3) := by decide +kernel
theorem dX11_value_7 : decode cX11_value 7 = .ok (.ireturn, 1) := by decide +kernel
theorem dX11_invoked_0 : decode cX11_invoked 0 = .ok (.aload_n 0, 1) := by decide +kernel
theorem dX11_invoked_1 : decode cX11_invoked 1 = .ok (.getfield 65, 3) := by decide +kernel
theorem dX11_invoked_4 : decode cX11_invoked 4 = .ok (.getfield 156, 3) := by decide +kernel
theorem dX11_invoked_7 : decode cX11_invoked 7 = .ok (.ireturn, 1) := by decide +kernel
theorem dX11_records_0 : decode cX11_records 0 = .ok (.aload_n 0, 1) := by decide +kernel
theorem dX11_records_1 : decode cX11_records 1 = .ok (.getfield 53, 3) := by decide +kernel
theorem dX11_records_4 : decode cX11_records 4 = .ok (.getfield 159, 3) := by decide +kernel
theorem dX11_records_7 : decode cX11_records 7 = .ok (.ireturn, 1) := by decide +kernel
theorem dX11_record_0 : decode cX11_record 0 = .ok (.aload_n 0, 1) := by decide +kernel
theorem dX11_record_1 : decode cX11_record 1 = .ok (.getfield 53, 3) := by decide +kernel
theorem dX11_record_4 : decode cX11_record 4 = .ok (.iload_n 1, 1) := by decide +kernel
theorem dX11_record_5 : decode cX11_record 5 = .ok (.invokevirtual 162, 3) := by decide +kernel
theorem dX11_record_8 : decode cX11_record 8 = .ok (.ifCond .ne 11, 3) := by decide +kernel
theorem dX11_record_11 : decode cX11_record 11 = .ok (.new 139, 3) := by decide +kernel
theorem dX11_record_14 : decode cX11_record 14 = .ok (.dup, 1) := by decide +kernel
theorem dX11_record_15 : decode cX11_record 15 = .ok (.invokespecial 141, 3) := by decide +kernel
theorem dX11_record_18 : decode cX11_record 18 = .ok (.athrow, 1) := by decide +kernel
theorem dX11_record_19 : decode cX11_record 19 = .ok (.iload_n 2, 1) := by decide +kernel
theorem dX11_record_20 : decode cX11_record 20 = .ok (.ifCond .lt 8, 3) := by decide +kernel
theorem dX11_record_23 : decode cX11_record 23 = .ok (.iload_n 2, 1) := by decide +kernel
theorem dX11_record_24 : decode cX11_record 24 = .ok (.iconst 5, 1) := by decide +kernel
theorem dX11_record_25 : decode cX11_record 25 = .ok (.if_icmp .lt 11, 3) := by decide +kernel
theorem dX11_record_28 : decode cX11_record 28 = .ok (.new 69, 3) := by decide +kernel
theorem dX11_record_31 : decode cX11_record 31 = .ok (.dup, 1) := by decide +kernel
theorem dX11_record_32 : decode cX11_record 32 = .ok (.invokespecial 71, 3) := by decide +kernel
theorem dX11_record_35 : decode cX11_record 35 = .ok (.athrow, 1) := by decide +kernel
theorem dX11_record_36 : decode cX11_record 36 = .ok (.aload_n 0, 1) := by decide +kernel
theorem dX11_record_37 : decode cX11_record 37 = .ok (.getfield 53, 3) := by decide +kernel
theorem dX11_record_40 : decode cX11_record 40 = .ok (.iload_n 1, 1) := by decide +kernel
theorem dX11_record_41 : decode cX11_record 41 = .ok (.iload_n 2, 1) := by decide +kernel
theorem dX11_record_42 : decode cX11_record 42 = .ok (.invokevirtual 163, 3) := by decide +kernel
theorem dX11_record_45 : decode cX11_record 45 = .ok (.ireturn, 1) := by decide +kernel
theorem dX11_clear_0 : decode cX11_clear 0 = .ok (.aload_n 0, 1) := by decide +kernel
theorem dX11_clear_1 : decode cX11_clear 1 = .ok (.getfield 53, 3) := by decide +kernel
theorem dX11_clear_4 : decode cX11_clear 4 = .ok (.getfield 159, 3) := by decide +kernel
theorem dX11_clear_7 : decode cX11_clear 7 = .ok (.istore_n 1, 1) := by decide +kernel
theorem dX11_clear_8 : decode cX11_clear 8 = .ok (.aload_n 0, 1) := by decide +kernel
theorem dX11_clear_9 : decode cX11_clear 9 = .ok (.getfield 53, 3) := by decide +kernel
theorem dX11_clear_12 : decode cX11_clear 12 = .ok (.iconst 0, 1) := by decide +kernel
theorem dX11_clear_13 : decode cX11_clear 13 = .ok (.putfield 159, 3) := by decide +kernel
theorem dX11_clear_16 : decode cX11_clear 16 = .ok (.aload_n 0, 1) := by decide +kernel
theorem dX11_clear_17 : decode cX11_clear 17 = .ok (.getfield 57, 3) := by decide +kernel
theorem dX11_clear_20 : decode cX11_clear 20 = .ok (.iconst 0, 1) := by decide +kernel
theorem dX11_clear_21 : decode cX11_clear 21 = .ok (.putfield 159, 3) := by decide +kernel
theorem dX11_clear_24 : decode cX11_clear 24 = .ok (.iload_n 1, 1) := by decide +kernel
theorem dX11_clear_25 : decode cX11_clear 25 = .ok (.ireturn, 1) := by decide +kernel
theorem dX11_job_0 : decode cX11_job 0 = .ok (.iload_n 1, 1) := by decide +kernel
theorem dX11_job_1 : decode cX11_job 1 = .ok (.ifCond .lt 9, 3) := by decide +kernel
theorem dX11_job_4 : decode cX11_job 4 = .ok (.iload_n 1, 1) := by decide +kernel
theorem dX11_job_5 : decode cX11_job 5 = .ok (.bipush 8, 2) := by decide +kernel
theorem dX11_job_7 : decode cX11_job 7 = .ok (.if_icmp .lt 11, 3) := by decide +kernel
theorem dX11_job_10 : decode cX11_job 10 = .ok (.new 139, 3) := by decide +kernel
theorem dX11_job_13 : decode cX11_job 13 = .ok (.dup, 1) := by decide +kernel
theorem dX11_job_14 : decode cX11_job 14 = .ok (.invokespecial 141, 3) := by decide +kernel
theorem dX11_job_17 : decode cX11_job 17 = .ok (.athrow, 1) := by decide +kernel
theorem dX11_job_18 : decode cX11_job 18 = .ok (.iload_n 2, 1) := by decide +kernel
theorem dX11_job_19 : decode cX11_job 19 = .ok (.ifCond .lt 8, 3) := by decide +kernel
theorem dX11_job_22 : decode cX11_job 22 = .ok (.iload_n 2, 1) := by decide +kernel
theorem dX11_job_23 : decode cX11_job 23 = .ok (.iconst 1, 1) := by decide +kernel
theorem dX11_job_24 : decode cX11_job 24 = .ok (.if_icmp .le 11, 3) := by decide +kernel
theorem dX11_job_27 : decode cX11_job 27 = .ok (.new 69, 3) := by decide +kernel
theorem dX11_job_30 : decode cX11_job 30 = .ok (.dup, 1) := by decide +kernel
theorem dX11_job_31 : decode cX11_job 31 = .ok (.invokespecial 71, 3) := by decide +kernel
theorem dX11_job_34 : decode cX11_job 34 = .ok (.athrow, 1) := by decide +kernel
theorem dX11_job_35 : decode cX11_job 35 = .ok (.iload_n 2, 1) := by decide +kernel
theorem dX11_job_36 : decode cX11_job 36 = .ok (.ifCond .ne 17, 3) := by decide +kernel
theorem dX11_job_39 : decode cX11_job 39 = .ok (.aload_n 0, 1) := by decide +kernel
theorem dX11_job_40 : decode cX11_job 40 = .ok (.getfield 44, 3) := by decide +kernel
theorem dX11_job_43 : decode cX11_job 43 = .ok (.iload_n 1, 1) := by decide +kernel
theorem dX11_job_44 : decode cX11_job 44 = .ok (.invokevirtual 167, 3) := by decide +kernel
theorem dX11_job_47 : decode cX11_job 47 = .ok (.getfield 171, 3) := by decide +kernel
theorem dX11_job_50 : decode cX11_job 50 = .ok (.goto 14, 3) := by decide +kernel
theorem dX11_job_53 : decode cX11_job 53 = .ok (.aload_n 0, 1) := by decide +kernel
theorem dX11_job_54 : decode cX11_job 54 = .ok (.getfield 44, 3) := by decide +kernel
theorem dX11_job_57 : decode cX11_job 57 = .ok (.iload_n 1, 1) := by decide +kernel
theorem dX11_job_58 : decode cX11_job 58 = .ok (.invokevirtual 167, 3) := by decide +kernel
theorem dX11_job_61 : decode cX11_job 61 = .ok (.invokevirtual 176, 3) := by decide +kernel
theorem dX11_job_64 : decode cX11_job 64 = .ok (.ireturn, 1) := by decide +kernel
theorem dX11_counted_0 : decode cX11_counted 0 = .ok (.aload_n 0, 1) := by decide +kernel
theorem dX11_counted_1 : decode cX11_counted 1 = .ok (.getfield 44, 3) := by decide +kernel
theorem dX11_counted_4 : decode cX11_counted 4 = .ok (.iload_n 1, 1) := by decide +kernel
theorem dX11_counted_5 : decode cX11_counted 5 = .ok (.invokevirtual 179, 3) := by decide +kernel
theorem dX11_counted_8 : decode cX11_counted 8 = .ok (.ifCond .eq 29, 3) := by decide +kernel
theorem dX11_counted_11 : decode cX11_counted 11 = .ok (.aload_n 0, 1) := by decide +kernel
theorem dX11_counted_12 : decode cX11_counted 12 = .ok (.getfield 44, 3) := by decide +kernel
theorem dX11_counted_15 : decode cX11_counted 15 = .ok (.iload_n 1, 1) := by decide +kernel
theorem dX11_counted_16 : decode cX11_counted 16 = .ok (.invokevirtual 167, 3) := by decide +kernel
theorem dX11_counted_19 : decode cX11_counted 19 = .ok (.getfield 171, 3) := by decide +kernel
theorem dX11_counted_22 : decode cX11_counted 22 = .ok (.iconst 2, 1) := by decide +kernel
theorem dX11_counted_23 : decode cX11_counted 23 = .ok (.if_icmp .ne 14, 3) := by decide +kernel
theorem dX11_counted_26 : decode cX11_counted 26 = .ok (.aload_n 0, 1) := by decide +kernel
theorem dX11_counted_27 : decode cX11_counted 27 = .ok (.getfield 37, 3) := by decide +kernel
theorem dX11_counted_30 : decode cX11_counted 30 = .ok (.iload_n 2, 1) := by decide +kernel
theorem dX11_counted_31 : decode cX11_counted 31 = .ok (.invokevirtual 135, 3) := by decide +kernel
theorem dX11_counted_34 : decode cX11_counted 34 = .ok (.ifCond .ne 11, 3) := by decide +kernel
theorem dX11_counted_37 : decode cX11_counted 37 = .ok (.new 139, 3) := by decide +kernel
theorem dX11_counted_40 : decode cX11_counted 40 = .ok (.dup, 1) := by decide +kernel
theorem dX11_counted_41 : decode cX11_counted 41 = .ok (.invokespecial 141, 3) := by decide +kernel
theorem dX11_counted_44 : decode cX11_counted 44 = .ok (.athrow, 1) := by decide +kernel
theorem dX11_counted_45 : decode cX11_counted 45 = .ok (.iload_n 3, 1) := by decide +kernel
theorem dX11_counted_46 : decode cX11_counted 46 = .ok (.ifCond .lt 8, 3) := by decide +kernel
theorem dX11_counted_49 : decode cX11_counted 49 = .ok (.iload_n 3, 1) := by decide +kernel
theorem dX11_counted_50 : decode cX11_counted 50 = .ok (.iconst 3, 1) := by decide +kernel
theorem dX11_counted_51 : decode cX11_counted 51 = .ok (.if_icmp .lt 11, 3) := by decide +kernel
theorem dX11_counted_54 : decode cX11_counted 54 = .ok (.new 69, 3) := by decide +kernel
theorem dX11_counted_57 : decode cX11_counted 57 = .ok (.dup, 1) := by decide +kernel
theorem dX11_counted_58 : decode cX11_counted 58 = .ok (.invokespecial 71, 3) := by decide +kernel
theorem dX11_counted_61 : decode cX11_counted 61 = .ok (.athrow, 1) := by decide +kernel
theorem dX11_counted_62 : decode cX11_counted 62 = .ok (.aload_n 0, 1) := by decide +kernel
theorem dX11_counted_63 : decode cX11_counted 63 = .ok (.getfield 44, 3) := by decide +kernel
theorem dX11_counted_66 : decode cX11_counted 66 = .ok (.iload_n 1, 1) := by decide +kernel
theorem dX11_counted_67 : decode cX11_counted 67 = .ok (.invokevirtual 167, 3) := by decide +kernel
theorem dX11_counted_70 : decode cX11_counted 70 = .ok (.getfield 180, 3) := by decide +kernel
theorem dX11_counted_73 : decode cX11_counted 73 = .ok (.iload_n 2, 1) := by decide +kernel
theorem dX11_counted_74 : decode cX11_counted 74 = .ok (.iconst 3, 1) := by decide +kernel
theorem dX11_counted_75 : decode cX11_counted 75 = .ok (.imul, 1) := by decide +kernel
theorem dX11_counted_76 : decode cX11_counted 76 = .ok (.iload_n 3, 1) := by decide +kernel
theorem dX11_counted_77 : decode cX11_counted 77 = .ok (.iadd, 1) := by decide +kernel
theorem dX11_counted_78 : decode cX11_counted 78 = .ok (.iaload, 1) := by decide +kernel
theorem dX11_counted_79 : decode cX11_counted 79 = .ok (.ireturn, 1) := by decide +kernel
theorem dX11_keeps_0 : decode cX11_keeps 0 = .ok (.aload_n 0, 1) := by decide +kernel
theorem dX11_keeps_1 : decode cX11_keeps 1 = .ok (.getfield 57, 3) := by decide +kernel
theorem dX11_keeps_4 : decode cX11_keeps 4 = .ok (.getfield 159, 3) := by decide +kernel
theorem dX11_keeps_7 : decode cX11_keeps 7 = .ok (.ireturn, 1) := by decide +kernel
theorem dX11_kept_0 : decode cX11_kept 0 = .ok (.aload_n 0, 1) := by decide +kernel
theorem dX11_kept_1 : decode cX11_kept 1 = .ok (.getfield 57, 3) := by decide +kernel
theorem dX11_kept_4 : decode cX11_kept 4 = .ok (.iload_n 1, 1) := by decide +kernel
theorem dX11_kept_5 : decode cX11_kept 5 = .ok (.invokevirtual 162, 3) := by decide +kernel
theorem dX11_kept_8 : decode cX11_kept 8 = .ok (.ifCond .ne 11, 3) := by decide +kernel
theorem dX11_kept_11 : decode cX11_kept 11 = .ok (.new 139, 3) := by decide +kernel
theorem dX11_kept_14 : decode cX11_kept 14 = .ok (.dup, 1) := by decide +kernel
theorem dX11_kept_15 : decode cX11_kept 15 = .ok (.invokespecial 141, 3) := by decide +kernel
theorem dX11_kept_18 : decode cX11_kept 18 = .ok (.athrow, 1) := by decide +kernel
theorem dX11_kept_19 : decode cX11_kept 19 = .ok (.iload_n 2, 1) := by decide +kernel
theorem dX11_kept_20 : decode cX11_kept 20 = .ok (.ifCond .lt 9, 3) := by decide +kernel
theorem dX11_kept_23 : decode cX11_kept 23 = .ok (.iload_n 2, 1) := by decide +kernel
theorem dX11_kept_24 : decode cX11_kept 24 = .ok (.bipush 7, 2) := by decide +kernel
theorem dX11_kept_26 : decode cX11_kept 26 = .ok (.if_icmp .lt 11, 3) := by decide +kernel
theorem dX11_kept_29 : decode cX11_kept 29 = .ok (.new 69, 3) := by decide +kernel
theorem dX11_kept_32 : decode cX11_kept 32 = .ok (.dup, 1) := by decide +kernel
theorem dX11_kept_33 : decode cX11_kept 33 = .ok (.invokespecial 71, 3) := by decide +kernel
theorem dX11_kept_36 : decode cX11_kept 36 = .ok (.athrow, 1) := by decide +kernel
theorem dX11_kept_37 : decode cX11_kept 37 = .ok (.aload_n 0, 1) := by decide +kernel
theorem dX11_kept_38 : decode cX11_kept 38 = .ok (.getfield 57, 3) := by decide +kernel
theorem dX11_kept_41 : decode cX11_kept 41 = .ok (.iload_n 1, 1) := by decide +kernel
theorem dX11_kept_42 : decode cX11_kept 42 = .ok (.iload_n 2, 1) := by decide +kernel
theorem dX11_kept_43 : decode cX11_kept 43 = .ok (.invokevirtual 163, 3) := by decide +kernel
theorem dX11_kept_46 : decode cX11_kept 46 = .ok (.ireturn, 1) := by decide +kernel
theorem dX11_replay_0 : decode cX11_replay 0 = .ok (.aload_n 0, 1) := by decide +kernel
theorem dX11_replay_1 : decode cX11_replay 1 = .ok (.getfield 57, 3) := by decide +kernel
theorem dX11_replay_4 : decode cX11_replay 4 = .ok (.iload_n 1, 1) := by decide +kernel
theorem dX11_replay_5 : decode cX11_replay 5 = .ok (.invokevirtual 162, 3) := by decide +kernel
theorem dX11_replay_8 : decode cX11_replay 8 = .ok (.ifCond .ne 11, 3) := by decide +kernel
theorem dX11_replay_11 : decode cX11_replay 11 = .ok (.new 139, 3) := by decide +kernel
theorem dX11_replay_14 : decode cX11_replay 14 = .ok (.dup, 1) := by decide +kernel
theorem dX11_replay_15 : decode cX11_replay 15 = .ok (.invokespecial 141, 3) := by decide +kernel
theorem dX11_replay_18 : decode cX11_replay 18 = .ok (.athrow, 1) := by decide +kernel
theorem dX11_replay_19 : decode cX11_replay 19 = .ok (.aload_n 0, 1) := by decide +kernel
theorem dX11_replay_20 : decode cX11_replay 20 = .ok (.getfield 57, 3) := by decide +kernel
theorem dX11_replay_23 : decode cX11_replay 23 = .ok (.iload_n 1, 1) := by decide +kernel
theorem dX11_replay_24 : decode cX11_replay 24 = .ok (.iconst 1, 1) := by decide +kernel
theorem dX11_replay_25 : decode cX11_replay 25 = .ok (.invokevirtual 163, 3) := by decide +kernel
theorem dX11_replay_28 : decode cX11_replay 28 = .ok (.istore_n 2, 1) := by decide +kernel
theorem dX11_replay_29 : decode cX11_replay 29 = .ok (.aload_n 0, 1) := by decide +kernel
theorem dX11_replay_30 : decode cX11_replay 30 = .ok (.getfield 65, 3) := by decide +kernel
theorem dX11_replay_33 : decode cX11_replay 33 = .ok (.aload_n 0, 1) := by decide +kernel
theorem dX11_replay_34 : decode cX11_replay 34 = .ok (.getfield 37, 3) := by decide +kernel
theorem dX11_replay_37 : decode cX11_replay 37 = .ok (.iload_n 2, 1) := by decide +kernel
theorem dX11_replay_38 : decode cX11_replay 38 = .ok (.invokevirtual 142, 3) := by decide +kernel
theorem dX11_replay_41 : decode cX11_replay 41 = .ok (.aload_n 0, 1) := by decide +kernel
theorem dX11_replay_42 : decode cX11_replay 42 = .ok (.getfield 57, 3) := by decide +kernel
theorem dX11_replay_45 : decode cX11_replay 45 = .ok (.iload_n 1, 1) := by decide +kernel
theorem dX11_replay_46 : decode cX11_replay 46 = .ok (.iconst 2, 1) := by decide +kernel
theorem dX11_replay_47 : decode cX11_replay 47 = .ok (.invokevirtual 163, 3) := by decide +kernel
theorem dX11_replay_50 : decode cX11_replay 50 = .ok (.aload_n 0, 1) := by decide +kernel
theorem dX11_replay_51 : decode cX11_replay 51 = .ok (.getfield 57, 3) := by decide +kernel
theorem dX11_replay_54 : decode cX11_replay 54 = .ok (.iload_n 1, 1) := by decide +kernel
theorem dX11_replay_55 : decode cX11_replay 55 = .ok (.iconst 3, 1) := by decide +kernel
theorem dX11_replay_56 : decode cX11_replay 56 = .ok (.invokevirtual 163, 3) := by decide +kernel
theorem dX11_replay_59 : decode cX11_replay 59 = .ok (.aload_n 0, 1) := by decide +kernel
theorem dX11_replay_60 : decode cX11_replay 60 = .ok (.getfield 57, 3) := by decide +kernel
theorem dX11_replay_63 : decode cX11_replay 63 = .ok (.iload_n 1, 1) := by decide +kernel
theorem dX11_replay_64 : decode cX11_replay 64 = .ok (.iconst 4, 1) := by decide +kernel
theorem dX11_replay_65 : decode cX11_replay 65 = .ok (.invokevirtual 163, 3) := by decide +kernel
theorem dX11_replay_68 : decode cX11_replay 68 = .ok (.invokevirtual 145, 3) := by decide +kernel
theorem dX11_replay_71 : decode cX11_replay 71 = .ok (.aload_n 0, 1) := by decide +kernel
theorem dX11_replay_72 : decode cX11_replay 72 = .ok (.getfield 65, 3) := by decide +kernel
theorem dX11_replay_75 : decode cX11_replay 75 = .ok (.iload_n 2, 1) := by decide +kernel
theorem dX11_replay_76 : decode cX11_replay 76 = .ok (.iconst 0, 1) := by decide +kernel
theorem dX11_replay_77 : decode cX11_replay 77 = .ok (.invokevirtual 149, 3) := by decide +kernel
theorem dX11_replay_80 : decode cX11_replay 80 = .ok (.ireturn, 1) := by decide +kernel
theorem dX12_init_0 : decode cX12_init 0 = .ok (.aload_n 0, 1) := by decide +kernel
theorem dX12_init_1 : decode cX12_init 1 = .ok (.invokespecial 1, 3) := by decide +kernel
theorem dX12_init_4 : decode cX12_init 4 = .ok (.aload_n 0, 1) := by decide +kernel
theorem dX12_init_5 : decode cX12_init 5 = .ok (.sipush 200, 3) := by decide +kernel
theorem dX12_init_8 : decode cX12_init 8 = .ok (.newarray .int, 2) := by decide +kernel
theorem dX12_init_10 : decode cX12_init 10 = .ok (.putfield 7, 3) := by decide +kernel
theorem dX12_init_13 : decode cX12_init 13 = .ok (.aload_n 0, 1) := by decide +kernel
theorem dX12_init_14 : decode cX12_init 14 = .ok (.iconst (-1), 1) := by decide +kernel
theorem dX12_init_15 : decode cX12_init 15 = .ok (.putfield 13, 3) := by decide +kernel
theorem dX12_init_18 : decode cX12_init 18 = .ok (.aload_n 0, 1) := by decide +kernel
theorem dX12_init_19 : decode cX12_init 19 = .ok (.sipush 2112, 3) := by decide +kernel
theorem dX12_init_22 : decode cX12_init 22 = .ok (.newarray .int, 2) := by decide +kernel
theorem dX12_init_24 : decode cX12_init 24 = .ok (.putfield 17, 3) := by decide +kernel
theorem dX12_init_27 : decode cX12_init 27 = .ok (.aload_n 0, 1) := by decide +kernel
theorem dX12_init_28 : decode cX12_init 28 = .ok (.sipush 2112, 3) := by decide +kernel
theorem dX12_init_31 : decode cX12_init 31 = .ok (.newarray .long, 2) := by decide +kernel
theorem dX12_init_33 : decode cX12_init 33 = .ok (.putfield 20, 3) := by decide +kernel
theorem dX12_init_36 : decode cX12_init 36 = .ok (.aload_n 0, 1) := by decide +kernel
theorem dX12_init_37 : decode cX12_init 37 = .ok (.bipush 33, 2) := by decide +kernel
theorem dX12_init_39 : decode cX12_init 39 = .ok (.newarray .int, 2) := by decide +kernel
theorem dX12_init_41 : decode cX12_init 41 = .ok (.putfield 24, 3) := by decide +kernel
theorem dX12_init_44 : decode cX12_init 44 = .ok (.aload_n 0, 1) := by decide +kernel
theorem dX12_init_45 : decode cX12_init 45 = .ok (.bipush 16, 2) := by decide +kernel
theorem dX12_init_47 : decode cX12_init 47 = .ok (.newarray .long, 2) := by decide +kernel
theorem dX12_init_49 : decode cX12_init 49 = .ok (.putfield 27, 3) := by decide +kernel
theorem dX12_init_52 : decode cX12_init 52 = .ok (.aload_n 0, 1) := by decide +kernel
theorem dX12_init_53 : decode cX12_init 53 = .ok (.bipush 16, 2) := by decide +kernel
theorem dX12_init_55 : decode cX12_init 55 = .ok (.newarray .int, 2) := by decide +kernel
theorem dX12_init_57 : decode cX12_init 57 = .ok (.putfield 30, 3) := by decide +kernel
theorem dX12_init_60 : decode cX12_init 60 = .ok (.aload_n 0, 1) := by decide +kernel
theorem dX12_init_61 : decode cX12_init 61 = .ok (.bipush 64, 2) := by decide +kernel
theorem dX12_init_63 : decode cX12_init 63 = .ok (.newarray .int, 2) := by decide +kernel
theorem dX12_init_65 : decode cX12_init 65 = .ok (.putfield 33, 3) := by decide +kernel
theorem dX12_init_68 : decode cX12_init 68 = .ok (.aload_n 0, 1) := by decide +kernel
theorem dX12_init_69 : decode cX12_init 69 = .ok (.bipush 64, 2) := by decide +kernel
theorem dX12_init_71 : decode cX12_init 71 = .ok (.newarray .int, 2) := by decide +kernel
theorem dX12_init_73 : decode cX12_init 73 = .ok (.putfield 36, 3) := by decide +kernel
theorem dX12_init_76 : decode cX12_init 76 = .ok (.aload_n 0, 1) := by decide +kernel
theorem dX12_init_77 : decode cX12_init 77 = .ok (.bipush 64, 2) := by decide +kernel
theorem dX12_init_79 : decode cX12_init 79 = .ok (.newarray .int, 2) := by decide +kernel
theorem dX12_init_81 : decode cX12_init 81 = .ok (.putfield 39, 3) := by decide +kernel
theorem dX12_init_84 : decode cX12_init 84 = .ok (.aload_n 0, 1) := by decide +kernel
theorem dX12_init_85 : decode cX12_init 85 = .ok (.bipush 64, 2) := by decide +kernel
theorem dX12_init_87 : decode cX12_init 87 = .ok (.newarray .long, 2) := by decide +kernel
theorem dX12_init_89 : decode cX12_init 89 = .ok (.putfield 42, 3) := by decide +kernel
theorem dX12_init_92 : decode cX12_init 92 = .ok (.aload_n 0, 1) := by decide +kernel
theorem dX12_init_93 : decode cX12_init 93 = .ok (.bipush 64, 2) := by decide +kernel
theorem dX12_init_95 : decode cX12_init 95 = .ok (.newarray .int, 2) := by decide +kernel
theorem dX12_init_97 : decode cX12_init 97 = .ok (.putfield 45, 3) := by decide +kernel
theorem dX12_init_100 : decode cX12_init 100 = .ok (.aload_n 0, 1) := by decide +kernel
theorem dX12_init_101 : decode cX12_init 101 = .ok (.bipush 8, 2) := by decide +kernel
theorem dX12_init_103 : decode cX12_init 103 = .ok (.newarray .int, 2) := by decide +kernel
theorem dX12_init_105 : decode cX12_init 105 = .ok (.putfield 48, 3) := by decide +kernel
theorem dX12_init_108 : decode cX12_init 108 = .ok (.aload_n 0, 1) := by decide +kernel
theorem dX12_init_109 : decode cX12_init 109 = .ok (.bipush 8, 2) := by decide +kernel
theorem dX12_init_111 : decode cX12_init 111 = .ok (.newarray .int, 2) := by decide +kernel
theorem dX12_init_113 : decode cX12_init 113 = .ok (.putfield 51, 3) := by decide +kernel
theorem dX12_init_116 : decode cX12_init 116 = .ok (.aload_n 0, 1) := by decide +kernel
theorem dX12_init_117 : decode cX12_init 117 = .ok (.bipush 8, 2) := by decide +kernel
theorem dX12_init_119 : decode cX12_init 119 = .ok (.newarray .int, 2) := by decide +kernel
theorem dX12_init_121 : decode cX12_init 121 = .ok (.putfield 54, 3) := by decide +kernel
theorem dX12_init_124 : decode cX12_init 124 = .ok (.aload_n 0, 1) := by decide +kernel
theorem dX12_init_125 : decode cX12_init 125 = .ok (.bipush 8, 2) := by decide +kernel
theorem dX12_init_127 : decode cX12_init 127 = .ok (.newarray .int, 2) := by decide +kernel
theorem dX12_init_129 : decode cX12_init 129 = .ok (.putfield 57, 3) := by decide +kernel
theorem dX12_init_132 : decode cX12_init 132 = .ok (.aload_n 0, 1) := by decide +kernel
theorem dX12_init_133 : decode cX12_init 133 = .ok (.bipush 8, 2) := by decide +kernel
theorem dX12_init_135 : decode cX12_init 135 = .ok (.newarray .boolean, 2) := by decide +kernel
theorem dX12_init_137 : decode cX12_init 137 = .ok (.putfield 60, 3) := by decide +kernel
theorem dX12_init_140 : decode cX12_init 140 = .ok (.aload_n 0, 1) := by decide +kernel
theorem dX12_init_141 : decode cX12_init 141 = .ok (.bipush 96, 2) := by decide +kernel
theorem dX12_init_143 : decode cX12_init 143 = .ok (.newarray .int, 2) := by decide +kernel
theorem dX12_init_145 : decode cX12_init 145 = .ok (.putfield 64, 3) := by decide +kernel
theorem dX12_init_148 : decode cX12_init 148 = .ok (.aload_n 0, 1) := by decide +kernel
theorem dX12_init_149 : decode cX12_init 149 = .ok (.bipush 8, 2) := by decide +kernel
theorem dX12_init_151 : decode cX12_init 151 = .ok (.newarray .int, 2) := by decide +kernel
theorem dX12_init_153 : decode cX12_init 153 = .ok (.putfield 67, 3) := by decide +kernel
theorem dX12_init_156 : decode cX12_init 156 = .ok (.aload_n 0, 1) := by decide +kernel
theorem dX12_init_157 : decode cX12_init 157 = .ok (.bipush 12, 2) := by decide +kernel
theorem dX12_init_159 : decode cX12_init 159 = .ok (.newarray .int, 2) := by decide +kernel
theorem dX12_init_161 : decode cX12_init 161 = .ok (.putfield 70, 3) := by decide +kernel
theorem dX12_init_164 : decode cX12_init 164 = .ok (.aload_n 0, 1) := by decide +kernel
theorem dX12_init_165 : decode cX12_init 165 = .ok (.sipush 384, 3) := by decide +kernel
theorem dX12_init_168 : decode cX12_init 168 = .ok (.newarray .int, 2) := by decide +kernel
theorem dX12_init_170 : decode cX12_init 170 = .ok (.putfield 73, 3) := by decide +kernel
theorem dX12_init_173 : decode cX12_init 173 = .ok (.aload_n 0, 1) := by decide +kernel
theorem dX12_init_174 : decode cX12_init 174 = .ok (.sipush 1500, 3) := by decide +kernel
theorem dX12_init_177 : decode cX12_init 177 = .ok (.newarray .int, 2) := by decide +kernel
theorem dX12_init_179 : decode cX12_init 179 = .ok (.putfield 76, 3) := by decide +kernel
theorem dX12_init_182 : decode cX12_init 182 = .ok (.aload_n 0, 1) := by decide +kernel
theorem dX12_init_183 : decode cX12_init 183 = .ok (.sipush 280, 3) := by decide +kernel
theorem dX12_init_186 : decode cX12_init 186 = .ok (.newarray .int, 2) := by decide +kernel
theorem dX12_init_188 : decode cX12_init 188 = .ok (.putfield 79, 3) := by decide +kernel
theorem dX12_init_191 : decode cX12_init 191 = .ok (.aload_n 0, 1) := by decide +kernel
theorem dX12_init_192 : decode cX12_init 192 = .ok (.bipush 11, 2) := by decide +kernel
theorem dX12_init_194 : decode cX12_init 194 = .ok (.newarray .int, 2) := by decide +kernel
theorem dX12_init_196 : decode cX12_init 196 = .ok (.putfield 82, 3) := by decide +kernel
theorem dX12_init_199 : decode cX12_init 199 = .ok (.aload_n 0, 1) := by decide +kernel
theorem dX12_init_200 : decode cX12_init 200 = .ok (.bipush 33, 2) := by decide +kernel
theorem dX12_init_202 : decode cX12_init 202 = .ok (.newarray .int, 2) := by decide +kernel
theorem dX12_init_204 : decode cX12_init 204 = .ok (.putfield 85, 3) := by decide +kernel
theorem dX12_init_207 : decode cX12_init 207 = .ok (.aload_n 0, 1) := by decide +kernel
theorem dX12_init_208 : decode cX12_init 208 = .ok (.bipush 11, 2) := by decide +kernel
theorem dX12_init_210 : decode cX12_init 210 = .ok (.newarray .int, 2) := by decide +kernel
theorem dX12_init_212 : decode cX12_init 212 = .ok (.putfield 88, 3) := by decide +kernel
theorem dX12_init_215 : decode cX12_init 215 = .ok (.aload_n 0, 1) := by decide +kernel
theorem dX12_init_216 : decode cX12_init 216 = .ok (.sipush 512, 3) := by decide +kernel
theorem dX12_init_219 : decode cX12_init 219 = .ok (.newarray .int, 2) := by decide +kernel
theorem dX12_init_221 : decode cX12_init 221 = .ok (.putfield 91, 3) := by decide +kernel
theorem dX12_init_224 : decode cX12_init 224 = .ok (.aload_n 0, 1) := by decide +kernel
theorem dX12_init_225 : decode cX12_init 225 = .ok (.sipush 256, 3) := by decide +kernel
theorem dX12_init_228 : decode cX12_init 228 = .ok (.newarray .int, 2) := by decide +kernel
theorem dX12_init_230 : decode cX12_init 230 = .ok (.putfield 94, 3) := by decide +kernel
theorem dX12_init_233 : decode cX12_init 233 = .ok (.aload_n 0, 1) := by decide +kernel
theorem dX12_init_234 : decode cX12_init 234 = .ok (.sipush 256, 3) := by decide +kernel
theorem dX12_init_237 : decode cX12_init 237 = .ok (.newarray .int, 2) := by decide +kernel
theorem dX12_init_239 : decode cX12_init 239 = .ok (.putfield 97, 3) := by decide +kernel
theorem dX12_init_242 : decode cX12_init 242 = .ok (.aload_n 0, 1) := by decide +kernel
theorem dX12_init_243 : decode cX12_init 243 = .ok (.sipush 256, 3) := by decide +kernel
theorem dX12_init_246 : decode cX12_init 246 = .ok (.newarray .int, 2) := by decide +kernel
theorem dX12_init_248 : decode cX12_init 248 = .ok (.putfield 100, 3) := by decide +kernel
theorem dX12_init_251 : decode cX12_init 251 = .ok (.aload_n 0, 1) := by decide +kernel
theorem dX12_init_252 : decode cX12_init 252 = .ok (.bipush 7, 2) := by decide +kernel
theorem dX12_init_254 : decode cX12_init 254 = .ok (.newarray .int, 2) := by decide +kernel
theorem dX12_init_256 : decode cX12_init 256 = .ok (.putfield 103, 3) := by decide +kernel
theorem dX12_init_259 : decode cX12_init 259 = .ok (.aload_n 0, 1) := by decide +kernel
theorem dX12_init_260 : decode cX12_init 260 = .ok (.bipush 64, 2) := by decide +kernel
theorem dX12_init_262 : decode cX12_init 262 = .ok (.newarray .int, 2) := by decide +kernel
theorem dX12_init_264 : decode cX12_init 264 = .ok (.putfield 106, 3) := by decide +kernel
theorem dX12_init_267 : decode cX12_init 267 = .ok (.aload_n 0, 1) := by decide +kernel
theorem dX12_init_268 : decode cX12_init 268 = .ok (.bipush 32, 2) := by decide +kernel
theorem dX12_init_270 : decode cX12_init 270 = .ok (.newarray .int, 2) := by decide +kernel
theorem dX12_init_272 : decode cX12_init 272 = .ok (.putfield 109, 3) := by decide +kernel
theorem dX12_init_275 : decode cX12_init 275 = .ok (.aload_n 0, 1) := by decide +kernel
theorem dX12_init_276 : decode cX12_init 276 = .ok (.bipush 32, 2) := by decide +kernel
theorem dX12_init_278 : decode cX12_init 278 = .ok (.newarray .int, 2) := by decide +kernel
theorem dX12_init_280 : decode cX12_init 280 = .ok (.putfield 112, 3) := by decide +kernel
theorem dX12_init_283 : decode cX12_init 283 = .ok (.return_, 1) := by decide +kernel
theorem dJ0_length_8abf5_0 : decode cJ0_length_8abf5 0 = .ok (.aload_n 0, 1) := by decide +kernel
theorem dJ0_length_8abf5_1 : decode cJ0_length_8abf5 1 = .ok (.getfield 9, 3) := by decide +kernel
theorem dJ0_length_8abf5_4 : decode cJ0_length_8abf5 4 = .ok (.arraylength, 1) := by decide +kernel
theorem dJ0_length_8abf5_5 : decode cJ0_length_8abf5 5 = .ok (.aload_n 0, 1) := by decide +kernel
theorem dJ0_length_8abf5_6 : decode cJ0_length_8abf5 6 = .ok (.invokevirtual 335, 3) := by decide +kernel
theorem dJ0_length_8abf5_9 : decode cJ0_length_8abf5 9 = .ok (.ishr, 1) := by decide +kernel
theorem dJ0_length_8abf5_10 : decode cJ0_length_8abf5 10 = .ok (.ireturn, 1) := by decide +kernel
theorem dJ0_charAt_5068e_0 : decode cJ0_charAt_5068e 0 = .ok (.aload_n 0, 1) := by decide +kernel
theorem dJ0_charAt_5068e_1 : decode cJ0_charAt_5068e 1 = .ok (.invokevirtual 492, 3) := by decide +kernel
theorem dJ0_charAt_5068e_4 : decode cJ0_charAt_5068e 4 = .ok (.ifCond .eq 12, 3) := by decide +kernel
theorem dJ0_charAt_5068e_7 : decode cJ0_charAt_5068e 7 = .ok (.aload_n 0, 1) := by decide +kernel
theorem dJ0_charAt_5068e_8 : decode cJ0_charAt_5068e 8 = .ok (.getfield 9, 3) := by decide +kernel
theorem dJ0_charAt_5068e_11 : decode cJ0_charAt_5068e 11 = .ok (.iload_n 1, 1) := by decide +kernel
theorem dJ0_charAt_5068e_12 : decode cJ0_charAt_5068e 12 = .ok (.invokestatic 495, 3) := by decide +kernel
theorem dJ0_charAt_5068e_15 : decode cJ0_charAt_5068e 15 = .ok (.ireturn, 1) := by decide +kernel
theorem dJ0_indexOf_0f7a4_0 : decode cJ0_indexOf_0f7a4 0 = .ok (.aload_n 0, 1) := by decide +kernel
theorem dJ0_indexOf_0f7a4_1 : decode cJ0_indexOf_0f7a4 1 = .ok (.iload_n 1, 1) := by decide +kernel
theorem dJ0_indexOf_0f7a4_2 : decode cJ0_indexOf_0f7a4 2 = .ok (.iconst 0, 1) := by decide +kernel
theorem dJ0_indexOf_0f7a4_3 : decode cJ0_indexOf_0f7a4 3 = .ok (.invokevirtual 633, 3) := by decide +kernel
theorem dJ0_indexOf_0f7a4_6 : decode cJ0_indexOf_0f7a4 6 = .ok (.ireturn, 1) := by decide +kernel
theorem dJ0_indexOf_7cf53_0 : decode cJ0_indexOf_7cf53 0 = .ok (.aload_n 0, 1) := by decide +kernel
theorem dJ0_indexOf_7cf53_1 : decode cJ0_indexOf_7cf53 1 = .ok (.invokevirtual 492, 3) := by decide +kernel
theorem dJ0_indexOf_7cf53_4 : decode cJ0_indexOf_7cf53 4 = .ok (.ifCond .eq 19, 3) := by decide +kernel
theorem dJ0_indexOf_7cf53_7 : decode cJ0_indexOf_7cf53 7 = .ok (.aload_n 0, 1) := by decide +kernel
theorem dJ0_indexOf_7cf53_8 : decode cJ0_indexOf_7cf53 8 = .ok (.getfield 9, 3) := by decide +kernel
theorem dJ0_indexOf_7cf53_11 : decode cJ0_indexOf_7cf53 11 = .ok (.iload_n 1, 1) := by decide +kernel
theorem dJ0_indexOf_7cf53_12 : decode cJ0_indexOf_7cf53 12 = .ok (.iload_n 2, 1) := by decide +kernel
theorem dJ0_indexOf_7cf53_13 : decode cJ0_indexOf_7cf53 13 = .ok (.aload_n 0, 1) := by decide +kernel
theorem dJ0_indexOf_7cf53_14 : decode cJ0_indexOf_7cf53 14 = .ok (.invokevirtual 505, 3) := by decide +kernel
theorem dJ0_indexOf_7cf53_17 : decode cJ0_indexOf_7cf53 17 = .ok (.invokestatic 637, 3) := by decide +kernel
theorem dJ0_indexOf_7cf53_20 : decode cJ0_indexOf_7cf53 20 = .ok (.goto 16, 3) := by decide +kernel
theorem dJ0_indexOf_7cf53_36 : decode cJ0_indexOf_7cf53 36 = .ok (.ireturn, 1) := by decide +kernel
theorem dJ0_coder_7d493_0 : decode cJ0_coder_7d493 0 = .ok (.getstatic 38, 3) := by decide +kernel
theorem dJ0_coder_7d493_3 : decode cJ0_coder_7d493 3 = .ok (.ifCond .eq 10, 3) := by decide +kernel
theorem dJ0_coder_7d493_6 : decode cJ0_coder_7d493 6 = .ok (.aload_n 0, 1) := by decide +kernel
theorem dJ0_coder_7d493_7 : decode cJ0_coder_7d493 7 = .ok (.getfield 15, 3) := by decide +kernel
theorem dJ0_coder_7d493_10 : decode cJ0_coder_7d493 10 = .ok (.goto 4, 3) := by decide +kernel
theorem dJ0_coder_7d493_14 : decode cJ0_coder_7d493 14 = .ok (.ireturn, 1) := by decide +kernel
theorem dJ0_isLatin1_aae02_0 : decode cJ0_isLatin1_aae02 0 = .ok (.getstatic 38, 3) := by decide +kernel
theorem dJ0_isLatin1_aae02_3 : decode cJ0_isLatin1_aae02 3 = .ok (.ifCond .eq 14, 3) := by decide +kernel
theorem dJ0_isLatin1_aae02_6 : decode cJ0_isLatin1_aae02 6 = .ok (.aload_n 0, 1) := by decide +kernel
theorem dJ0_isLatin1_aae02_7 : decode cJ0_isLatin1_aae02 7 = .ok (.getfield 15, 3) := by decide +kernel
theorem dJ0_isLatin1_aae02_10 : decode cJ0_isLatin1_aae02 10 = .ok (.ifCond .ne 7, 3) := by decide +kernel
theorem dJ0_isLatin1_aae02_13 : decode cJ0_isLatin1_aae02 13 = .ok (.iconst 1, 1) := by decide +kernel
theorem dJ0_isLatin1_aae02_14 : decode cJ0_isLatin1_aae02 14 = .ok (.goto 4, 3) := by decide +kernel
theorem dJ0_isLatin1_aae02_18 : decode cJ0_isLatin1_aae02 18 = .ok (.ireturn, 1) := by decide +kernel
theorem dJ0_checkIndex_df160_0 : decode cJ0_checkIndex_df160 0 = .ok (.iload_n 0, 1) := by decide +kernel
theorem dJ0_checkIndex_df160_1 : decode cJ0_checkIndex_df160 1 = .ok (.iload_n 1, 1) := by decide +kernel
theorem dJ0_checkIndex_df160_2 : decode cJ0_checkIndex_df160 2 = .ok (.getstatic 1053, 3) := by decide +kernel
theorem dJ0_checkIndex_df160_5 : decode cJ0_checkIndex_df160 5 = .ok (.invokestatic 1059, 3) := by decide +kernel
theorem dJ0_checkIndex_df160_8 : decode cJ0_checkIndex_df160 8 = .ok (.pop, 1) := by decide +kernel
theorem dJ0_checkIndex_df160_9 : decode cJ0_checkIndex_df160 9 = .ok (.return_, 1) := by decide +kernel
theorem dJ1_charAt_3b067_0 : decode cJ1_charAt_3b067 0 = .ok (.iload_n 1, 1) := by decide +kernel
theorem dJ1_charAt_3b067_1 : decode cJ1_charAt_3b067 1 = .ok (.aload_n 0, 1) := by decide +kernel
theorem dJ1_charAt_3b067_2 : decode cJ1_charAt_3b067 2 = .ok (.arraylength, 1) := by decide +kernel
theorem dJ1_charAt_3b067_3 : decode cJ1_charAt_3b067 3 = .ok (.invokestatic 9, 3) := by decide +kernel
theorem dJ1_charAt_3b067_6 : decode cJ1_charAt_3b067 6 = .ok (.aload_n 0, 1) := by decide +kernel
theorem dJ1_charAt_3b067_7 : decode cJ1_charAt_3b067 7 = .ok (.iload_n 1, 1) := by decide +kernel
theorem dJ1_charAt_3b067_8 : decode cJ1_charAt_3b067 8 = .ok (.baload, 1) := by decide +kernel
theorem dJ1_charAt_3b067_9 : decode cJ1_charAt_3b067 9 = .ok (.sipush 255, 3) := by decide +kernel
theorem dJ1_charAt_3b067_12 : decode cJ1_charAt_3b067 12 = .ok (.iand, 1) := by decide +kernel
theorem dJ1_charAt_3b067_13 : decode cJ1_charAt_3b067 13 = .ok (.i2c, 1) := by decide +kernel
theorem dJ1_charAt_3b067_14 : decode cJ1_charAt_3b067 14 = .ok (.ireturn, 1) := by decide +kernel
theorem dJ1_canEncode_9a6ad_0 : decode cJ1_canEncode_9a6ad 0 = .ok (.iload_n 0, 1) := by decide +kernel
theorem dJ1_canEncode_9a6ad_1 : decode cJ1_canEncode_9a6ad 1 = .ok (.ifCond .lt 14, 3) := by decide +kernel
theorem dJ1_canEncode_9a6ad_4 : decode cJ1_canEncode_9a6ad 4 = .ok (.iload_n 0, 1) := by decide +kernel
theorem dJ1_canEncode_9a6ad_5 : decode cJ1_canEncode_9a6ad 5 = .ok (.sipush 255, 3) := by decide +kernel
theorem dJ1_canEncode_9a6ad_8 : decode cJ1_canEncode_9a6ad 8 = .ok (.if_icmp .gt 7, 3) := by decide +kernel
theorem dJ1_canEncode_9a6ad_11 : decode cJ1_canEncode_9a6ad 11 = .ok (.iconst 1, 1) := by decide +kernel
theorem dJ1_canEncode_9a6ad_12 : decode cJ1_canEncode_9a6ad 12 = .ok (.goto 4, 3) := by decide +kernel
theorem dJ1_canEncode_9a6ad_15 : decode cJ1_canEncode_9a6ad 15 = .ok (.iconst 0, 1) := by decide +kernel
theorem dJ1_canEncode_9a6ad_16 : decode cJ1_canEncode_9a6ad 16 = .ok (.ireturn, 1) := by decide +kernel
theorem dJ1_indexOf_4cfef_0 : decode cJ1_indexOf_4cfef 0 = .ok (.iload_n 1, 1) := by decide +kernel
theorem dJ1_indexOf_4cfef_1 : decode cJ1_indexOf_4cfef 1 = .ok (.invokestatic 88, 3) := by decide +kernel
theorem dJ1_indexOf_4cfef_4 : decode cJ1_indexOf_4cfef 4 = .ok (.ifCond .ne 5, 3) := by decide +kernel
theorem dJ1_indexOf_4cfef_7 : decode cJ1_indexOf_4cfef 7 = .ok (.iconst (-1), 1) := by decide +kernel
theorem dJ1_indexOf_4cfef_8 : decode cJ1_indexOf_4cfef 8 = .ok (.ireturn, 1) := by decide +kernel
theorem dJ1_indexOf_4cfef_9 : decode cJ1_indexOf_4cfef 9 = .ok (.iload_n 2, 1) := by decide +kernel
theorem dJ1_indexOf_4cfef_10 : decode cJ1_indexOf_4cfef 10 = .ok (.iconst 0, 1) := by decide +kernel
theorem dJ1_indexOf_4cfef_11 : decode cJ1_indexOf_4cfef 11 = .ok (.invokestatic 92, 3) := by decide +kernel
theorem dJ1_indexOf_4cfef_14 : decode cJ1_indexOf_4cfef 14 = .ok (.istore_n 2, 1) := by decide +kernel
theorem dJ1_indexOf_4cfef_15 : decode cJ1_indexOf_4cfef 15 = .ok (.iload_n 3, 1) := by decide +kernel
theorem dJ1_indexOf_4cfef_16 : decode cJ1_indexOf_4cfef 16 = .ok (.aload_n 0, 1) := by decide +kernel
theorem dJ1_indexOf_4cfef_17 : decode cJ1_indexOf_4cfef 17 = .ok (.arraylength, 1) := by decide +kernel
theorem dJ1_indexOf_4cfef_18 : decode cJ1_indexOf_4cfef 18 = .ok (.invokestatic 38, 3) := by decide +kernel
theorem dJ1_indexOf_4cfef_21 : decode cJ1_indexOf_4cfef 21 = .ok (.istore_n 3, 1) := by decide +kernel
theorem dJ1_indexOf_4cfef_22 : decode cJ1_indexOf_4cfef 22 = .ok (.iload_n 2, 1) := by decide +kernel
theorem dJ1_indexOf_4cfef_23 : decode cJ1_indexOf_4cfef 23 = .ok (.iload_n 3, 1) := by decide +kernel
theorem dJ1_indexOf_4cfef_24 : decode cJ1_indexOf_4cfef 24 = .ok (.if_icmp .lt 5, 3) := by decide +kernel
theorem dJ1_indexOf_4cfef_29 : decode cJ1_indexOf_4cfef 29 = .ok (.aload_n 0, 1) := by decide +kernel
theorem dJ1_indexOf_4cfef_30 : decode cJ1_indexOf_4cfef 30 = .ok (.iload_n 1, 1) := by decide +kernel
theorem dJ1_indexOf_4cfef_31 : decode cJ1_indexOf_4cfef 31 = .ok (.iload_n 2, 1) := by decide +kernel
theorem dJ1_indexOf_4cfef_32 : decode cJ1_indexOf_4cfef 32 = .ok (.iload_n 3, 1) := by decide +kernel
theorem dJ1_indexOf_4cfef_33 : decode cJ1_indexOf_4cfef 33 = .ok (.invokestatic 95, 3) := by decide +kernel
theorem dJ1_indexOf_4cfef_36 : decode cJ1_indexOf_4cfef 36 = .ok (.ireturn, 1) := by decide +kernel
theorem dJ1_indexOfChar_4cfef_0 : decode cJ1_indexOfChar_4cfef 0 = .ok (.iload_n 1, 1) := by decide +kernel
theorem dJ1_indexOfChar_4cfef_1 : decode cJ1_indexOfChar_4cfef 1 = .ok (.i2b, 1) := by decide +kernel
theorem dJ1_indexOfChar_4cfef_2 : decode cJ1_indexOfChar_4cfef 2 = .ok (.istore 4, 2) := by decide +kernel
theorem dJ1_indexOfChar_4cfef_4 : decode cJ1_indexOfChar_4cfef 4 = .ok (.iload_n 2, 1) := by decide +kernel
theorem dJ1_indexOfChar_4cfef_5 : decode cJ1_indexOfChar_4cfef 5 = .ok (.istore 5, 2) := by decide +kernel
theorem dJ1_indexOfChar_4cfef_7 : decode cJ1_indexOfChar_4cfef 7 = .ok (.iload 5, 2) := by decide +kernel
theorem dJ1_indexOfChar_4cfef_9 : decode cJ1_indexOfChar_4cfef 9 = .ok (.iload_n 3, 1) := by decide +kernel
theorem dJ1_indexOfChar_4cfef_10 : decode cJ1_indexOfChar_4cfef 10 = .ok (.if_icmp .ge 21, 3) := by decide +kernel
theorem dJ1_indexOfChar_4cfef_13 : decode cJ1_indexOfChar_4cfef 13 = .ok (.aload_n 0, 1) := by decide +kernel
theorem dJ1_indexOfChar_4cfef_14 : decode cJ1_indexOfChar_4cfef 14 = .ok (.iload 5, 2) := by decide +kernel
theorem dJ1_indexOfChar_4cfef_16 : decode cJ1_indexOfChar_4cfef 16 = .ok (.baload, 1) := by decide +kernel
theorem dJ1_indexOfChar_4cfef_17 : decode cJ1_indexOfChar_4cfef 17 = .ok (.iload 4, 2) := by decide +kernel
theorem dJ1_indexOfChar_4cfef_19 : decode cJ1_indexOfChar_4cfef 19 = .ok (.if_icmp .ne 6, 3) := by decide +kernel
theorem dJ1_indexOfChar_4cfef_22 : decode cJ1_indexOfChar_4cfef 22 = .ok (.iload 5, 2) := by decide +kernel
theorem dJ1_indexOfChar_4cfef_24 : decode cJ1_indexOfChar_4cfef 24 = .ok (.ireturn, 1) := by decide +kernel
theorem dJ1_indexOfChar_4cfef_25 : decode cJ1_indexOfChar_4cfef 25 = .ok (.iinc 5 1, 3) := by decide +kernel
theorem dJ1_indexOfChar_4cfef_28 : decode cJ1_indexOfChar_4cfef 28 = .ok (.goto (-21), 3) := by decide +kernel
theorem dJ1_indexOfChar_4cfef_31 : decode cJ1_indexOfChar_4cfef 31 = .ok (.iconst (-1), 1) := by decide +kernel
theorem dJ1_indexOfChar_4cfef_32 : decode cJ1_indexOfChar_4cfef 32 = .ok (.ireturn, 1) := by decide +kernel
theorem dJ7_fill_53178_0 : decode cJ7_fill_53178 0 = .ok (.iconst 0, 1) := by decide +kernel
theorem dJ7_fill_53178_1 : decode cJ7_fill_53178 1 = .ok (.istore_n 2, 1) := by decide +kernel
theorem dJ7_fill_53178_2 : decode cJ7_fill_53178 2 = .ok (.aload_n 0, 1) := by decide +kernel
theorem dJ7_fill_53178_3 : decode cJ7_fill_53178 3 = .ok (.arraylength, 1) := by decide +kernel
theorem dJ7_fill_53178_4 : decode cJ7_fill_53178 4 = .ok (.istore_n 3, 1) := by decide +kernel
theorem dJ7_fill_53178_5 : decode cJ7_fill_53178 5 = .ok (.iload_n 2, 1) := by decide +kernel
theorem dJ7_fill_53178_6 : decode cJ7_fill_53178 6 = .ok (.iload_n 3, 1) := by decide +kernel
theorem dJ7_fill_53178_7 : decode cJ7_fill_53178 7 = .ok (.if_icmp .ge 13, 3) := by decide +kernel
theorem dJ7_fill_53178_10 : decode cJ7_fill_53178 10 = .ok (.aload_n 0, 1) := by decide +kernel
theorem dJ7_fill_53178_11 : decode cJ7_fill_53178 11 = .ok (.iload_n 2, 1) := by decide +kernel
theorem dJ7_fill_53178_12 : decode cJ7_fill_53178 12 = .ok (.iload_n 1, 1) := by decide +kernel
theorem dJ7_fill_53178_13 : decode cJ7_fill_53178 13 = .ok (.iastore, 1) := by decide +kernel
theorem dJ7_fill_53178_14 : decode cJ7_fill_53178 14 = .ok (.iinc 2 1, 3) := by decide +kernel
theorem dJ7_fill_53178_17 : decode cJ7_fill_53178 17 = .ok (.goto (-12), 3) := by decide +kernel
theorem dJ7_fill_53178_20 : decode cJ7_fill_53178 20 = .ok (.return_, 1) := by decide +kernel
theorem dJ3_checkIndex_8e157_0 : decode cJ3_checkIndex_8e157 0 = .ok (.iload_n 0, 1) := by decide +kernel
theorem dJ3_checkIndex_8e157_1 : decode cJ3_checkIndex_8e157 1 = .ok (.ifCond .lt 8, 3) := by decide +kernel
theorem dJ3_checkIndex_8e157_4 : decode cJ3_checkIndex_8e157 4 = .ok (.iload_n 0, 1) := by decide +kernel
theorem dJ3_checkIndex_8e157_5 : decode cJ3_checkIndex_8e157 5 = .ok (.iload_n 1, 1) := by decide +kernel
theorem dJ3_checkIndex_8e157_6 : decode cJ3_checkIndex_8e157 6 = .ok (.if_icmp .lt 10, 3) := by decide +kernel
theorem dJ3_checkIndex_8e157_16 : decode cJ3_checkIndex_8e157 16 = .ok (.iload_n 0, 1) := by decide +kernel
theorem dJ3_checkIndex_8e157_17 : decode cJ3_checkIndex_8e157 17 = .ok (.ireturn, 1) := by decide +kernel

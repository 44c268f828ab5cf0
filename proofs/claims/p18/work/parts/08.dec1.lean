theorem dX12_close_122 : decode cX12_close 122 = .ok (.aload_n 0, 1) := by decide +kernel
theorem dX12_close_123 : decode cX12_close 123 = .ok (.bipush 9, 2) := by decide +kernel
theorem dX12_close_125 : decode cX12_close 125 = .ok (.aload_n 0, 1) := by decide +kernel
theorem dX12_close_126 : decode cX12_close 126 = .ok (.getfield 42, 3) := by decide +kernel
theorem dX12_close_129 : decode cX12_close 129 = .ok (.aload_n 0, 1) := by decide +kernel
theorem dX12_close_130 : decode cX12_close 130 = .ok (.getfield 161, 3) := by decide +kernel
theorem dX12_close_133 : decode cX12_close 133 = .ok (.laload, 1) := by decide +kernel
theorem dX12_close_134 : decode cX12_close 134 = .ok (.iconst 2, 1) := by decide +kernel
theorem dX12_close_135 : decode cX12_close 135 = .ok (.lshl, 1) := by decide +kernel
theorem dX12_close_136 : decode cX12_close 136 = .ok (.iload_n 2, 1) := by decide +kernel
theorem dX12_close_137 : decode cX12_close 137 = .ok (.i2l, 1) := by decide +kernel
theorem dX12_close_138 : decode cX12_close 138 = .ok (.lor, 1) := by decide +kernel
theorem dX12_close_139 : decode cX12_close 139 = .ok (.invokevirtual 167, 3) := by decide +kernel
theorem dX12_close_142 : decode cX12_close 142 = .ok (.aload_n 0, 1) := by decide +kernel
theorem dX12_close_143 : decode cX12_close 143 = .ok (.dup, 1) := by decide +kernel
theorem dX12_close_144 : decode cX12_close 144 = .ok (.getfield 147, 3) := by decide +kernel
theorem dX12_close_147 : decode cX12_close 147 = .ok (.iconst 1, 1) := by decide +kernel
theorem dX12_close_148 : decode cX12_close 148 = .ok (.iadd, 1) := by decide +kernel
theorem dX12_close_149 : decode cX12_close 149 = .ok (.putfield 147, 3) := by decide +kernel
theorem dX12_close_152 : decode cX12_close 152 = .ok (.goto 12, 3) := by decide +kernel
theorem dX12_close_155 : decode cX12_close 155 = .ok (.aload_n 0, 1) := by decide +kernel
theorem dX12_close_156 : decode cX12_close 156 = .ok (.iconst 1, 1) := by decide +kernel
theorem dX12_close_157 : decode cX12_close 157 = .ok (.aload_n 0, 1) := by decide +kernel
theorem dX12_close_158 : decode cX12_close 158 = .ok (.getfield 147, 3) := by decide +kernel
theorem dX12_close_161 : decode cX12_close 161 = .ok (.invokevirtual 157, 3) := by decide +kernel
theorem dX12_close_164 : decode cX12_close 164 = .ok (.return_, 1) := by decide +kernel
theorem dX12_between_0 : decode cX12_between 0 = .ok (.iload_n 1, 1) := by decide +kernel
theorem dX12_between_1 : decode cX12_between 1 = .ok (.iconst 3, 1) := by decide +kernel
theorem dX12_between_2 : decode cX12_between 2 = .ok (.if_icmp .ne 26, 3) := by decide +kernel
theorem dX12_between_5 : decode cX12_between 5 = .ok (.aload_n 0, 1) := by decide +kernel
theorem dX12_between_6 : decode cX12_between 6 = .ok (.iconst 4, 1) := by decide +kernel
theorem dX12_between_7 : decode cX12_between 7 = .ok (.invokevirtual 174, 3) := by decide +kernel
theorem dX12_between_10 : decode cX12_between 10 = .ok (.aload_n 0, 1) := by decide +kernel
theorem dX12_between_11 : decode cX12_between 11 = .ok (.invokevirtual 218, 3) := by decide +kernel
theorem dX12_between_14 : decode cX12_between 14 = .ok (.iconst 3, 1) := by decide +kernel
theorem dX12_between_15 : decode cX12_between 15 = .ok (.if_icmp .ne 18, 3) := by decide +kernel
theorem dX12_between_18 : decode cX12_between 18 = .ok (.aload_n 0, 1) := by decide +kernel
theorem dX12_between_19 : decode cX12_between 19 = .ok (.iconst 1, 1) := by decide +kernel
theorem dX12_between_20 : decode cX12_between 20 = .ok (.aload_n 0, 1) := by decide +kernel
theorem dX12_between_21 : decode cX12_between 21 = .ok (.getfield 147, 3) := by decide +kernel
theorem dX12_between_24 : decode cX12_between 24 = .ok (.invokevirtual 157, 3) := by decide +kernel
theorem dX12_between_27 : decode cX12_between 27 = .ok (.return_, 1) := by decide +kernel
theorem dX12_between_28 : decode cX12_between 28 = .ok (.aload_n 0, 1) := by decide +kernel
theorem dX12_between_29 : decode cX12_between 29 = .ok (.iload_n 1, 1) := by decide +kernel
theorem dX12_between_30 : decode cX12_between 30 = .ok (.invokevirtual 174, 3) := by decide +kernel
theorem dX12_between_33 : decode cX12_between 33 = .ok (.aload_n 0, 1) := by decide +kernel
theorem dX12_between_34 : decode cX12_between 34 = .ok (.aload_n 0, 1) := by decide +kernel
theorem dX12_between_35 : decode cX12_between 35 = .ok (.getfield 147, 3) := by decide +kernel
theorem dX12_between_38 : decode cX12_between 38 = .ok (.invokevirtual 178, 3) := by decide +kernel
theorem dX12_between_41 : decode cX12_between 41 = .ok (.ifCond .eq 20, 3) := by decide +kernel
theorem dX12_between_44 : decode cX12_between 44 = .ok (.aload_n 0, 1) := by decide +kernel
theorem dX12_between_45 : decode cX12_between 45 = .ok (.iload_n 1, 1) := by decide +kernel
theorem dX12_between_46 : decode cX12_between 46 = .ok (.iconst 0, 1) := by decide +kernel
theorem dX12_between_47 : decode cX12_between 47 = .ok (.iload_n 2, 1) := by decide +kernel
theorem dX12_between_48 : decode cX12_between 48 = .ok (.invokevirtual 198, 3) := by decide +kernel
theorem dX12_between_51 : decode cX12_between 51 = .ok (.aload_n 0, 1) := by decide +kernel
theorem dX12_between_52 : decode cX12_between 52 = .ok (.dup, 1) := by decide +kernel
theorem dX12_between_53 : decode cX12_between 53 = .ok (.getfield 147, 3) := by decide +kernel
theorem dX12_between_56 : decode cX12_between 56 = .ok (.iconst 1, 1) := by decide +kernel
theorem dX12_between_57 : decode cX12_between 57 = .ok (.iadd, 1) := by decide +kernel
theorem dX12_between_58 : decode cX12_between 58 = .ok (.putfield 147, 3) := by decide +kernel
theorem dX12_between_61 : decode cX12_between 61 = .ok (.return_, 1) := by decide +kernel
theorem dX12_hash_0 : decode cX12_hash 0 = .ok (.aload_n 0, 1) := by decide +kernel
theorem dX12_hash_1 : decode cX12_hash 1 = .ok (.iconst 1, 1) := by decide +kernel
theorem dX12_hash_2 : decode cX12_hash 2 = .ok (.invokevirtual 174, 3) := by decide +kernel
theorem dX12_hash_5 : decode cX12_hash 5 = .ok (.aload_n 0, 1) := by decide +kernel
theorem dX12_hash_6 : decode cX12_hash 6 = .ok (.aload_n 0, 1) := by decide +kernel
theorem dX12_hash_7 : decode cX12_hash 7 = .ok (.getfield 147, 3) := by decide +kernel
theorem dX12_hash_10 : decode cX12_hash 10 = .ok (.invokevirtual 178, 3) := by decide +kernel
theorem dX12_hash_13 : decode cX12_hash 13 = .ok (.ifCond .ne 4, 3) := by decide +kernel
theorem dX12_hash_16 : decode cX12_hash 16 = .ok (.return_, 1) := by decide +kernel
theorem dX12_hash_17 : decode cX12_hash 17 = .ok (.aload_n 0, 1) := by decide +kernel
theorem dX12_hash_18 : decode cX12_hash 18 = .ok (.getfield 45, 3) := by decide +kernel
theorem dX12_hash_21 : decode cX12_hash 21 = .ok (.aload_n 0, 1) := by decide +kernel
theorem dX12_hash_22 : decode cX12_hash 22 = .ok (.getfield 164, 3) := by decide +kernel
theorem dX12_hash_25 : decode cX12_hash 25 = .ok (.iconst 1, 1) := by decide +kernel
theorem dX12_hash_26 : decode cX12_hash 26 = .ok (.isub, 1) := by decide +kernel
theorem dX12_hash_27 : decode cX12_hash 27 = .ok (.iaload, 1) := by decide +kernel
theorem dX12_hash_28 : decode cX12_hash 28 = .ok (.istore_n 1, 1) := by decide +kernel
theorem dX12_hash_29 : decode cX12_hash 29 = .ok (.bipush 32, 2) := by decide +kernel
theorem dX12_hash_31 : decode cX12_hash 31 = .ok (.invokestatic 141, 3) := by decide +kernel
theorem dX12_hash_34 : decode cX12_hash 34 = .ok (.istore_n 2, 1) := by decide +kernel
theorem dX12_hash_35 : decode cX12_hash 35 = .ok (.aload_n 0, 1) := by decide +kernel
theorem dX12_hash_36 : decode cX12_hash 36 = .ok (.getfield 144, 3) := by decide +kernel
theorem dX12_hash_39 : decode cX12_hash 39 = .ok (.istore_n 3, 1) := by decide +kernel
theorem dX12_hash_40 : decode cX12_hash 40 = .ok (.iload_n 3, 1) := by decide +kernel
theorem dX12_hash_41 : decode cX12_hash 41 = .ok (.iload_n 1, 1) := by decide +kernel
theorem dX12_hash_42 : decode cX12_hash 42 = .ok (.if_icmp .le 45, 3) := by decide +kernel
theorem dX12_hash_45 : decode cX12_hash 45 = .ok (.aload_n 0, 1) := by decide +kernel
theorem dX12_hash_46 : decode cX12_hash 46 = .ok (.getfield 17, 3) := by decide +kernel
theorem dX12_hash_49 : decode cX12_hash 49 = .ok (.iload_n 2, 1) := by decide +kernel
theorem dX12_hash_50 : decode cX12_hash 50 = .ok (.iload_n 3, 1) := by decide +kernel
theorem dX12_hash_51 : decode cX12_hash 51 = .ok (.iadd, 1) := by decide +kernel
theorem dX12_hash_52 : decode cX12_hash 52 = .ok (.aload_n 0, 1) := by decide +kernel
theorem dX12_hash_53 : decode cX12_hash 53 = .ok (.getfield 17, 3) := by decide +kernel
theorem dX12_hash_56 : decode cX12_hash 56 = .ok (.iload_n 2, 1) := by decide +kernel
theorem dX12_hash_57 : decode cX12_hash 57 = .ok (.iload_n 3, 1) := by decide +kernel
theorem dX12_hash_58 : decode cX12_hash 58 = .ok (.iadd, 1) := by decide +kernel
theorem dX12_hash_59 : decode cX12_hash 59 = .ok (.iconst 1, 1) := by decide +kernel
theorem dX12_hash_60 : decode cX12_hash 60 = .ok (.isub, 1) := by decide +kernel
theorem dX12_hash_61 : decode cX12_hash 61 = .ok (.iaload, 1) := by decide +kernel
theorem dX12_hash_62 : decode cX12_hash 62 = .ok (.iastore, 1) := by decide +kernel
theorem dX12_hash_63 : decode cX12_hash 63 = .ok (.aload_n 0, 1) := by decide +kernel
theorem dX12_hash_64 : decode cX12_hash 64 = .ok (.getfield 20, 3) := by decide +kernel
theorem dX12_hash_67 : decode cX12_hash 67 = .ok (.iload_n 2, 1) := by decide +kernel
theorem dX12_hash_68 : decode cX12_hash 68 = .ok (.iload_n 3, 1) := by decide +kernel
theorem dX12_hash_69 : decode cX12_hash 69 = .ok (.iadd, 1) := by decide +kernel
theorem dX12_hash_70 : decode cX12_hash 70 = .ok (.aload_n 0, 1) := by decide +kernel
theorem dX12_hash_71 : decode cX12_hash 71 = .ok (.getfield 20, 3) := by decide +kernel
theorem dX12_hash_74 : decode cX12_hash 74 = .ok (.iload_n 2, 1) := by decide +kernel
theorem dX12_hash_75 : decode cX12_hash 75 = .ok (.iload_n 3, 1) := by decide +kernel
theorem dX12_hash_76 : decode cX12_hash 76 = .ok (.iadd, 1) := by decide +kernel
theorem dX12_hash_77 : decode cX12_hash 77 = .ok (.iconst 1, 1) := by decide +kernel
theorem dX12_hash_78 : decode cX12_hash 78 = .ok (.isub, 1) := by decide +kernel
theorem dX12_hash_79 : decode cX12_hash 79 = .ok (.laload, 1) := by decide +kernel
theorem dX12_hash_80 : decode cX12_hash 80 = .ok (.lastore, 1) := by decide +kernel
theorem dX12_hash_81 : decode cX12_hash 81 = .ok (.iinc 3 (-1), 3) := by decide +kernel
theorem dX12_hash_84 : decode cX12_hash 84 = .ok (.goto (-44), 3) := by decide +kernel
theorem dX12_hash_87 : decode cX12_hash 87 = .ok (.aload_n 0, 1) := by decide +kernel
theorem dX12_hash_88 : decode cX12_hash 88 = .ok (.dup, 1) := by decide +kernel
theorem dX12_hash_89 : decode cX12_hash 89 = .ok (.getfield 144, 3) := by decide +kernel
theorem dX12_hash_92 : decode cX12_hash 92 = .ok (.iconst 1, 1) := by decide +kernel
theorem dX12_hash_93 : decode cX12_hash 93 = .ok (.iadd, 1) := by decide +kernel
theorem dX12_hash_94 : decode cX12_hash 94 = .ok (.putfield 144, 3) := by decide +kernel
theorem dX12_hash_97 : decode cX12_hash 97 = .ok (.aload_n 0, 1) := by decide +kernel
theorem dX12_hash_98 : decode cX12_hash 98 = .ok (.getfield 17, 3) := by decide +kernel
theorem dX12_hash_101 : decode cX12_hash 101 = .ok (.iload_n 2, 1) := by decide +kernel
theorem dX12_hash_102 : decode cX12_hash 102 = .ok (.iload_n 1, 1) := by decide +kernel
theorem dX12_hash_103 : decode cX12_hash 103 = .ok (.iadd, 1) := by decide +kernel
theorem dX12_hash_104 : decode cX12_hash 104 = .ok (.bipush 7, 2) := by decide +kernel
theorem dX12_hash_106 : decode cX12_hash 106 = .ok (.iastore, 1) := by decide +kernel
theorem dX12_hash_107 : decode cX12_hash 107 = .ok (.aload_n 0, 1) := by decide +kernel
theorem dX12_hash_108 : decode cX12_hash 108 = .ok (.getfield 20, 3) := by decide +kernel
theorem dX12_hash_111 : decode cX12_hash 111 = .ok (.iload_n 2, 1) := by decide +kernel
theorem dX12_hash_112 : decode cX12_hash 112 = .ok (.iload_n 1, 1) := by decide +kernel
theorem dX12_hash_113 : decode cX12_hash 113 = .ok (.iadd, 1) := by decide +kernel
theorem dX12_hash_114 : decode cX12_hash 114 = .ok (.aload_n 0, 1) := by decide +kernel
theorem dX12_hash_115 : decode cX12_hash 115 = .ok (.getfield 144, 3) := by decide +kernel
theorem dX12_hash_118 : decode cX12_hash 118 = .ok (.iload_n 1, 1) := by decide +kernel
theorem dX12_hash_119 : decode cX12_hash 119 = .ok (.isub, 1) := by decide +kernel
theorem dX12_hash_120 : decode cX12_hash 120 = .ok (.i2l, 1) := by decide +kernel
theorem dX12_hash_121 : decode cX12_hash 121 = .ok (.lastore, 1) := by decide +kernel
theorem dX12_hash_122 : decode cX12_hash 122 = .ok (.aload_n 0, 1) := by decide +kernel
theorem dX12_hash_123 : decode cX12_hash 123 = .ok (.iconst 1, 1) := by decide +kernel
theorem dX12_hash_124 : decode cX12_hash 124 = .ok (.aload_n 0, 1) := by decide +kernel
theorem dX12_hash_125 : decode cX12_hash 125 = .ok (.getfield 144, 3) := by decide +kernel
theorem dX12_hash_128 : decode cX12_hash 128 = .ok (.iconst 0, 1) := by decide +kernel
theorem dX12_hash_129 : decode cX12_hash 129 = .ok (.invokevirtual 198, 3) := by decide +kernel
theorem dX12_hash_132 : decode cX12_hash 132 = .ok (.aload_n 0, 1) := by decide +kernel
theorem dX12_hash_133 : decode cX12_hash 133 = .ok (.bipush 8, 2) := by decide +kernel
theorem dX12_hash_135 : decode cX12_hash 135 = .ok (.lconst 0, 1) := by decide +kernel
theorem dX12_hash_136 : decode cX12_hash 136 = .ok (.invokevirtual 167, 3) := by decide +kernel
theorem dX12_hash_139 : decode cX12_hash 139 = .ok (.aload_n 0, 1) := by decide +kernel
theorem dX12_hash_140 : decode cX12_hash 140 = .ok (.dup, 1) := by decide +kernel
theorem dX12_hash_141 : decode cX12_hash 141 = .ok (.getfield 147, 3) := by decide +kernel
theorem dX12_hash_144 : decode cX12_hash 144 = .ok (.iconst 1, 1) := by decide +kernel
theorem dX12_hash_145 : decode cX12_hash 145 = .ok (.iadd, 1) := by decide +kernel
theorem dX12_hash_146 : decode cX12_hash 146 = .ok (.putfield 147, 3) := by decide +kernel
theorem dX12_hash_149 : decode cX12_hash 149 = .ok (.return_, 1) := by decide +kernel
theorem dX12_question_0 : decode cX12_question 0 = .ok (.aload_n 0, 1) := by decide +kernel
theorem dX12_question_1 : decode cX12_question 1 = .ok (.iconst 3, 1) := by decide +kernel
theorem dX12_question_2 : decode cX12_question 2 = .ok (.invokevirtual 174, 3) := by decide +kernel
theorem dX12_question_5 : decode cX12_question 5 = .ok (.aload_n 0, 1) := by decide +kernel
theorem dX12_question_6 : decode cX12_question 6 = .ok (.aload_n 0, 1) := by decide +kernel
theorem dX12_question_7 : decode cX12_question 7 = .ok (.getfield 147, 3) := by decide +kernel
theorem dX12_question_10 : decode cX12_question 10 = .ok (.invokevirtual 178, 3) := by decide +kernel
theorem dX12_question_13 : decode cX12_question 13 = .ok (.ifCond .ne 4, 3) := by decide +kernel
theorem dX12_question_16 : decode cX12_question 16 = .ok (.return_, 1) := by decide +kernel
theorem dX12_question_17 : decode cX12_question 17 = .ok (.aload_n 0, 1) := by decide +kernel
theorem dX12_question_18 : decode cX12_question 18 = .ok (.dup, 1) := by decide +kernel
theorem dX12_question_19 : decode cX12_question 19 = .ok (.getfield 164, 3) := by decide +kernel
theorem dX12_question_22 : decode cX12_question 22 = .ok (.iconst 1, 1) := by decide +kernel
theorem dX12_question_23 : decode cX12_question 23 = .ok (.isub, 1) := by decide +kernel
theorem dX12_question_24 : decode cX12_question 24 = .ok (.putfield 164, 3) := by decide +kernel
theorem dX12_question_27 : decode cX12_question 27 = .ok (.aload_n 0, 1) := by decide +kernel
theorem dX12_question_28 : decode cX12_question 28 = .ok (.bipush 7, 2) := by decide +kernel
theorem dX12_question_30 : decode cX12_question 30 = .ok (.aload_n 0, 1) := by decide +kernel
theorem dX12_question_31 : decode cX12_question 31 = .ok (.getfield 144, 3) := by decide +kernel
theorem dX12_question_34 : decode cX12_question 34 = .ok (.aload_n 0, 1) := by decide +kernel
theorem dX12_question_35 : decode cX12_question 35 = .ok (.getfield 45, 3) := by decide +kernel
theorem dX12_question_38 : decode cX12_question 38 = .ok (.aload_n 0, 1) := by decide +kernel
theorem dX12_question_39 : decode cX12_question 39 = .ok (.getfield 164, 3) := by decide +kernel
theorem dX12_question_42 : decode cX12_question 42 = .ok (.iaload, 1) := by decide +kernel
theorem dX12_question_43 : decode cX12_question 43 = .ok (.invokevirtual 198, 3) := by decide +kernel
theorem dX12_question_46 : decode cX12_question 46 = .ok (.aload_n 0, 1) := by decide +kernel
theorem dX12_question_47 : decode cX12_question 47 = .ok (.iconst 5, 1) := by decide +kernel
theorem dX12_question_48 : decode cX12_question 48 = .ok (.lconst 0, 1) := by decide +kernel
theorem dX12_question_49 : decode cX12_question 49 = .ok (.invokevirtual 167, 3) := by decide +kernel
theorem dX12_question_52 : decode cX12_question 52 = .ok (.aload_n 0, 1) := by decide +kernel
theorem dX12_question_53 : decode cX12_question 53 = .ok (.dup, 1) := by decide +kernel
theorem dX12_question_54 : decode cX12_question 54 = .ok (.getfield 147, 3) := by decide +kernel
theorem dX12_question_57 : decode cX12_question 57 = .ok (.iconst 1, 1) := by decide +kernel
theorem dX12_question_58 : decode cX12_question 58 = .ok (.iadd, 1) := by decide +kernel
theorem dX12_question_59 : decode cX12_question 59 = .ok (.putfield 147, 3) := by decide +kernel
theorem dX12_question_62 : decode cX12_question 62 = .ok (.return_, 1) := by decide +kernel
theorem dX12_colon_0 : decode cX12_colon 0 = .ok (.aload_n 0, 1) := by decide +kernel
theorem dX12_colon_1 : decode cX12_colon 1 = .ok (.invokevirtual 235, 3) := by decide +kernel
theorem dX12_colon_4 : decode cX12_colon 4 = .ok (.aload_n 0, 1) := by decide +kernel
theorem dX12_colon_5 : decode cX12_colon 5 = .ok (.invokevirtual 218, 3) := by decide +kernel
theorem dX12_colon_8 : decode cX12_colon 8 = .ok (.bipush 7, 2) := by decide +kernel
theorem dX12_colon_10 : decode cX12_colon 10 = .ok (.if_icmp .eq 13, 3) := by decide +kernel
theorem dX12_colon_13 : decode cX12_colon 13 = .ok (.aload_n 0, 1) := by decide +kernel
theorem dX12_colon_14 : decode cX12_colon 14 = .ok (.iconst 1, 1) := by decide +kernel
theorem dX12_colon_15 : decode cX12_colon 15 = .ok (.aload_n 0, 1) := by decide +kernel
theorem dX12_colon_16 : decode cX12_colon 16 = .ok (.getfield 147, 3) := by decide +kernel
theorem dX12_colon_19 : decode cX12_colon 19 = .ok (.invokevirtual 157, 3) := by decide +kernel
theorem dX12_colon_22 : decode cX12_colon 22 = .ok (.return_, 1) := by decide +kernel
theorem dX12_colon_23 : decode cX12_colon 23 = .ok (.aload_n 0, 1) := by decide +kernel
theorem dX12_colon_24 : decode cX12_colon 24 = .ok (.dup, 1) := by decide +kernel
theorem dX12_colon_25 : decode cX12_colon 25 = .ok (.getfield 161, 3) := by decide +kernel
theorem dX12_colon_28 : decode cX12_colon 28 = .ok (.iconst 1, 1) := by decide +kernel
theorem dX12_colon_29 : decode cX12_colon 29 = .ok (.isub, 1) := by decide +kernel
theorem dX12_colon_30 : decode cX12_colon 30 = .ok (.putfield 161, 3) := by decide +kernel
theorem dX12_colon_33 : decode cX12_colon 33 = .ok (.aload_n 0, 1) := by decide +kernel
theorem dX12_colon_34 : decode cX12_colon 34 = .ok (.getfield 36, 3) := by decide +kernel
theorem dX12_colon_37 : decode cX12_colon 37 = .ok (.aload_n 0, 1) := by decide +kernel
theorem dX12_colon_38 : decode cX12_colon 38 = .ok (.getfield 161, 3) := by decide +kernel
theorem dX12_colon_41 : decode cX12_colon 41 = .ok (.iaload, 1) := by decide +kernel
theorem dX12_colon_42 : decode cX12_colon 42 = .ok (.istore_n 1, 1) := by decide +kernel
theorem dX12_colon_43 : decode cX12_colon 43 = .ok (.aload_n 0, 1) := by decide +kernel
theorem dX12_colon_44 : decode cX12_colon 44 = .ok (.getfield 39, 3) := by decide +kernel
theorem dX12_colon_47 : decode cX12_colon 47 = .ok (.aload_n 0, 1) := by decide +kernel
theorem dX12_colon_48 : decode cX12_colon 48 = .ok (.getfield 161, 3) := by decide +kernel
theorem dX12_colon_51 : decode cX12_colon 51 = .ok (.iaload, 1) := by decide +kernel
theorem dX12_colon_52 : decode cX12_colon 52 = .ok (.istore_n 2, 1) := by decide +kernel
theorem dX12_colon_53 : decode cX12_colon 53 = .ok (.aload_n 0, 1) := by decide +kernel
theorem dX12_colon_54 : decode cX12_colon 54 = .ok (.dup, 1) := by decide +kernel
theorem dX12_colon_55 : decode cX12_colon 55 = .ok (.getfield 164, 3) := by decide +kernel
theorem dX12_colon_58 : decode cX12_colon 58 = .ok (.iconst 1, 1) := by decide +kernel
theorem dX12_colon_59 : decode cX12_colon 59 = .ok (.isub, 1) := by decide +kernel
theorem dX12_colon_60 : decode cX12_colon 60 = .ok (.putfield 164, 3) := by decide +kernel
theorem dX12_colon_63 : decode cX12_colon 63 = .ok (.aload_n 0, 1) := by decide +kernel
theorem dX12_colon_64 : decode cX12_colon 64 = .ok (.iconst 2, 1) := by decide +kernel
theorem dX12_colon_65 : decode cX12_colon 65 = .ok (.aload_n 0, 1) := by decide +kernel
theorem dX12_colon_66 : decode cX12_colon 66 = .ok (.getfield 144, 3) := by decide +kernel
theorem dX12_colon_69 : decode cX12_colon 69 = .ok (.iload_n 2, 1) := by decide +kernel
theorem dX12_colon_70 : decode cX12_colon 70 = .ok (.invokevirtual 198, 3) := by decide +kernel
theorem dX12_colon_73 : decode cX12_colon 73 = .ok (.aload_n 0, 1) := by decide +kernel
theorem dX12_colon_74 : decode cX12_colon 74 = .ok (.bipush 6, 2) := by decide +kernel
theorem dX12_colon_76 : decode cX12_colon 76 = .ok (.lconst 0, 1) := by decide +kernel
theorem dX12_colon_77 : decode cX12_colon 77 = .ok (.invokevirtual 167, 3) := by decide +kernel
theorem dX12_colon_80 : decode cX12_colon 80 = .ok (.aload_n 0, 1) := by decide +kernel
theorem dX12_colon_81 : decode cX12_colon 81 = .ok (.getfield 20, 3) := by decide +kernel
theorem dX12_colon_84 : decode cX12_colon 84 = .ok (.bipush 32, 2) := by decide +kernel
theorem dX12_colon_86 : decode cX12_colon 86 = .ok (.invokestatic 141, 3) := by decide +kernel
theorem dX12_colon_89 : decode cX12_colon 89 = .ok (.iload_n 1, 1) := by decide +kernel
theorem dX12_colon_90 : decode cX12_colon 90 = .ok (.iadd, 1) := by decide +kernel
theorem dX12_colon_91 : decode cX12_colon 91 = .ok (.aload_n 0, 1) := by decide +kernel
theorem dX12_colon_92 : decode cX12_colon 92 = .ok (.getfield 144, 3) := by decide +kernel
theorem dX12_colon_95 : decode cX12_colon 95 = .ok (.iload_n 1, 1) := by decide +kernel
theorem dX12_colon_96 : decode cX12_colon 96 = .ok (.isub, 1) := by decide +kernel
theorem dX12_colon_97 : decode cX12_colon 97 = .ok (.iconst 1, 1) := by decide +kernel
theorem dX12_colon_98 : decode cX12_colon 98 = .ok (.isub, 1) := by decide +kernel
theorem dX12_colon_99 : decode cX12_colon 99 = .ok (.i2l, 1) := by decide +kernel
theorem dX12_colon_100 : decode cX12_colon 100 = .ok (.lastore, 1) := by decide +kernel
theorem dX12_colon_101 : decode cX12_colon 101 = .ok (.aload_n 0, 1) := by decide +kernel
theorem dX12_colon_102 : decode cX12_colon 102 = .ok (.dup, 1) := by decide +kernel
theorem dX12_colon_103 : decode cX12_colon 103 = .ok (.getfield 147, 3) := by decide +kernel
theorem dX12_colon_106 : decode cX12_colon 106 = .ok (.iconst 1, 1) := by decide +kernel
theorem dX12_colon_107 : decode cX12_colon 107 = .ok (.iadd, 1) := by decide +kernel
theorem dX12_colon_108 : decode cX12_colon 108 = .ok (.putfield 147, 3) := by decide +kernel
theorem dX12_colon_111 : decode cX12_colon 111 = .ok (.return_, 1) := by decide +kernel
theorem dX12_comma_0 : decode cX12_comma 0 = .ok (.aload_n 0, 1) := by decide +kernel
theorem dX12_comma_1 : decode cX12_comma 1 = .ok (.invokevirtual 235, 3) := by decide +kernel
theorem dX12_comma_4 : decode cX12_comma 4 = .ok (.aload_n 0, 1) := by decide +kernel
theorem dX12_comma_5 : decode cX12_comma 5 = .ok (.invokevirtual 218, 3) := by decide +kernel
theorem dX12_comma_8 : decode cX12_comma 8 = .ok (.bipush 8, 2) := by decide +kernel
theorem dX12_comma_10 : decode cX12_comma 10 = .ok (.if_icmp .eq 13, 3) := by decide +kernel
theorem dX12_comma_13 : decode cX12_comma 13 = .ok (.aload_n 0, 1) := by decide +kernel
theorem dX12_comma_14 : decode cX12_comma 14 = .ok (.iconst 1, 1) := by decide +kernel
theorem dX12_comma_15 : decode cX12_comma 15 = .ok (.aload_n 0, 1) := by decide +kernel
theorem dX12_comma_16 : decode cX12_comma 16 = .ok (.getfield 147, 3) := by decide +kernel
theorem dX12_comma_19 : decode cX12_comma 19 = .ok (.invokevirtual 157, 3) := by decide +kernel
theorem dX12_comma_22 : decode cX12_comma 22 = .ok (.return_, 1) := by decide +kernel
theorem dX12_comma_23 : decode cX12_comma 23 = .ok (.aload_n 0, 1) := by decide +kernel
theorem dX12_comma_24 : decode cX12_comma 24 = .ok (.getfield 39, 3) := by decide +kernel
theorem dX12_comma_27 : decode cX12_comma 27 = .ok (.aload_n 0, 1) := by decide +kernel
theorem dX12_comma_28 : decode cX12_comma 28 = .ok (.getfield 161, 3) := by decide +kernel
theorem dX12_comma_31 : decode cX12_comma 31 = .ok (.iconst 1, 1) := by decide +kernel
theorem dX12_comma_32 : decode cX12_comma 32 = .ok (.isub, 1) := by decide +kernel
theorem dX12_comma_33 : decode cX12_comma 33 = .ok (.dup2, 1) := by decide +kernel
theorem dX12_comma_34 : decode cX12_comma 34 = .ok (.iaload, 1) := by decide +kernel
theorem dX12_comma_35 : decode cX12_comma 35 = .ok (.iconst 1, 1) := by decide +kernel
theorem dX12_comma_36 : decode cX12_comma 36 = .ok (.iadd, 1) := by decide +kernel
theorem dX12_comma_37 : decode cX12_comma 37 = .ok (.iastore, 1) := by decide +kernel
theorem dX12_comma_38 : decode cX12_comma 38 = .ok (.aload_n 0, 1) := by decide +kernel
theorem dX12_comma_39 : decode cX12_comma 39 = .ok (.dup, 1) := by decide +kernel
theorem dX12_comma_40 : decode cX12_comma 40 = .ok (.getfield 147, 3) := by decide +kernel
theorem dX12_comma_43 : decode cX12_comma 43 = .ok (.iconst 1, 1) := by decide +kernel
theorem dX12_comma_44 : decode cX12_comma 44 = .ok (.iadd, 1) := by decide +kernel
theorem dX12_comma_45 : decode cX12_comma 45 = .ok (.putfield 147, 3) := by decide +kernel
theorem dX12_comma_48 : decode cX12_comma 48 = .ok (.return_, 1) := by decide +kernel
theorem dX12_readSign_0 : decode cX12_readSign 0 = .ok (.aload_n 0, 1) := by decide +kernel
theorem dX12_readSign_1 : decode cX12_readSign 1 = .ok (.aload_n 0, 1) := by decide +kernel
theorem dX12_readSign_2 : decode cX12_readSign 2 = .ok (.getfield 147, 3) := by decide +kernel
theorem dX12_readSign_5 : decode cX12_readSign 5 = .ok (.invokevirtual 130, 3) := by decide +kernel
theorem dX12_readSign_8 : decode cX12_readSign 8 = .ok (.istore_n 1, 1) := by decide +kernel
theorem dX12_readSign_9 : decode cX12_readSign 9 = .ok (.iload_n 1, 1) := by decide +kernel
theorem dX12_readSign_10 : decode cX12_readSign 10 = .ok (.bipush 35, 2) := by decide +kernel
theorem dX12_readSign_12 : decode cX12_readSign 12 = .ok (.if_icmp .ne 10, 3) := by decide +kernel
theorem dX12_readSign_15 : decode cX12_readSign 15 = .ok (.aload_n 0, 1) := by decide +kernel
theorem dX12_readSign_16 : decode cX12_readSign 16 = .ok (.invokevirtual 238, 3) := by decide +kernel
theorem dX12_readSign_19 : decode cX12_readSign 19 = .ok (.goto 138, 3) := by decide +kernel
theorem dX12_readSign_22 : decode cX12_readSign 22 = .ok (.iload_n 1, 1) := by decide +kernel
theorem dX12_readSign_23 : decode cX12_readSign 23 = .ok (.bipush 63, 2) := by decide +kernel
theorem dX12_readSign_25 : decode cX12_readSign 25 = .ok (.if_icmp .ne 10, 3) := by decide +kernel
theorem dX12_readSign_28 : decode cX12_readSign 28 = .ok (.aload_n 0, 1) := by decide +kernel
theorem dX12_readSign_29 : decode cX12_readSign 29 = .ok (.invokevirtual 241, 3) := by decide +kernel
theorem dX12_readSign_32 : decode cX12_readSign 32 = .ok (.goto 125, 3) := by decide +kernel
theorem dX12_readSign_35 : decode cX12_readSign 35 = .ok (.iload_n 1, 1) := by decide +kernel
theorem dX12_readSign_36 : decode cX12_readSign 36 = .ok (.bipush 58, 2) := by decide +kernel
theorem dX12_readSign_38 : decode cX12_readSign 38 = .ok (.if_icmp .ne 10, 3) := by decide +kernel
theorem dX12_readSign_41 : decode cX12_readSign 41 = .ok (.aload_n 0, 1) := by decide +kernel
theorem dX12_readSign_42 : decode cX12_readSign 42 = .ok (.invokevirtual 244, 3) := by decide +kernel
theorem dX12_readSign_45 : decode cX12_readSign 45 = .ok (.goto 112, 3) := by decide +kernel
theorem dX12_readSign_48 : decode cX12_readSign 48 = .ok (.iload_n 1, 1) := by decide +kernel
theorem dX12_readSign_49 : decode cX12_readSign 49 = .ok (.bipush 60, 2) := by decide +kernel
theorem dX12_readSign_51 : decode cX12_readSign 51 = .ok (.if_icmp .eq 15, 3) := by decide +kernel
theorem dX12_readSign_54 : decode cX12_readSign 54 = .ok (.iload_n 1, 1) := by decide +kernel
theorem dX12_readSign_55 : decode cX12_readSign 55 = .ok (.bipush 61, 2) := by decide +kernel
theorem dX12_readSign_57 : decode cX12_readSign 57 = .ok (.if_icmp .eq 9, 3) := by decide +kernel
theorem dX12_readSign_60 : decode cX12_readSign 60 = .ok (.iload_n 1, 1) := by decide +kernel
theorem dX12_readSign_61 : decode cX12_readSign 61 = .ok (.bipush 62, 2) := by decide +kernel
theorem dX12_readSign_63 : decode cX12_readSign 63 = .ok (.if_icmp .ne 12, 3) := by decide +kernel
theorem dX12_readSign_66 : decode cX12_readSign 66 = .ok (.aload_n 0, 1) := by decide +kernel
theorem dX12_readSign_67 : decode cX12_readSign 67 = .ok (.iconst 3, 1) := by decide +kernel
theorem dX12_readSign_68 : decode cX12_readSign 68 = .ok (.iload_n 1, 1) := by decide +kernel
theorem dX12_readSign_69 : decode cX12_readSign 69 = .ok (.invokevirtual 247, 3) := by decide +kernel
theorem dX12_readSign_72 : decode cX12_readSign 72 = .ok (.goto 85, 3) := by decide +kernel
theorem dX12_readSign_75 : decode cX12_readSign 75 = .ok (.iload_n 1, 1) := by decide +kernel
theorem dX12_readSign_76 : decode cX12_readSign 76 = .ok (.bipush 43, 2) := by decide +kernel
theorem dX12_readSign_78 : decode cX12_readSign 78 = .ok (.if_icmp .eq 9, 3) := by decide +kernel
theorem dX12_readSign_81 : decode cX12_readSign 81 = .ok (.iload_n 1, 1) := by decide +kernel
theorem dX12_readSign_82 : decode cX12_readSign 82 = .ok (.bipush 45, 2) := by decide +kernel
theorem dX12_readSign_84 : decode cX12_readSign 84 = .ok (.if_icmp .ne 12, 3) := by decide +kernel
theorem dX12_readSign_87 : decode cX12_readSign 87 = .ok (.aload_n 0, 1) := by decide +kernel
theorem dX12_readSign_88 : decode cX12_readSign 88 = .ok (.iconst 4, 1) := by decide +kernel
theorem dX12_readSign_89 : decode cX12_readSign 89 = .ok (.iload_n 1, 1) := by decide +kernel
theorem dX12_readSign_90 : decode cX12_readSign 90 = .ok (.invokevirtual 247, 3) := by decide +kernel
theorem dX12_readSign_93 : decode cX12_readSign 93 = .ok (.goto 64, 3) := by decide +kernel
theorem dX12_readSign_96 : decode cX12_readSign 96 = .ok (.iload_n 1, 1) := by decide +kernel
theorem dX12_readSign_97 : decode cX12_readSign 97 = .ok (.bipush 42, 2) := by decide +kernel
theorem dX12_readSign_99 : decode cX12_readSign 99 = .ok (.if_icmp .eq 15, 3) := by decide +kernel
theorem dX12_readSign_102 : decode cX12_readSign 102 = .ok (.iload_n 1, 1) := by decide +kernel
theorem dX12_readSign_103 : decode cX12_readSign 103 = .ok (.bipush 47, 2) := by decide +kernel
theorem dX12_readSign_105 : decode cX12_readSign 105 = .ok (.if_icmp .eq 9, 3) := by decide +kernel
theorem dX12_readSign_108 : decode cX12_readSign 108 = .ok (.iload_n 1, 1) := by decide +kernel
theorem dX12_readSign_109 : decode cX12_readSign 109 = .ok (.bipush 37, 2) := by decide +kernel
theorem dX12_readSign_111 : decode cX12_readSign 111 = .ok (.if_icmp .ne 12, 3) := by decide +kernel
theorem dX12_readSign_114 : decode cX12_readSign 114 = .ok (.aload_n 0, 1) := by decide +kernel
theorem dX12_readSign_115 : decode cX12_readSign 115 = .ok (.iconst 5, 1) := by decide +kernel
theorem dX12_readSign_116 : decode cX12_readSign 116 = .ok (.iload_n 1, 1) := by decide +kernel
theorem dX12_readSign_117 : decode cX12_readSign 117 = .ok (.invokevirtual 247, 3) := by decide +kernel
theorem dX12_readSign_120 : decode cX12_readSign 120 = .ok (.goto 37, 3) := by decide +kernel
theorem dX12_readSign_123 : decode cX12_readSign 123 = .ok (.iload_n 1, 1) := by decide +kernel
theorem dX12_readSign_124 : decode cX12_readSign 124 = .ok (.bipush 44, 2) := by decide +kernel
theorem dX12_readSign_126 : decode cX12_readSign 126 = .ok (.if_icmp .ne 10, 3) := by decide +kernel
theorem dX12_readSign_129 : decode cX12_readSign 129 = .ok (.aload_n 0, 1) := by decide +kernel
theorem dX12_readSign_130 : decode cX12_readSign 130 = .ok (.invokevirtual 250, 3) := by decide +kernel
theorem dX12_readSign_133 : decode cX12_readSign 133 = .ok (.goto 24, 3) := by decide +kernel
theorem dX12_readSign_136 : decode cX12_readSign 136 = .ok (.iload_n 1, 1) := by decide +kernel
theorem dX12_readSign_137 : decode cX12_readSign 137 = .ok (.bipush 41, 2) := by decide +kernel
theorem dX12_readSign_139 : decode cX12_readSign 139 = .ok (.if_icmp .ne 9, 3) := by decide +kernel
theorem dX12_readSign_142 : decode cX12_readSign 142 = .ok (.aload_n 0, 1) := by decide +kernel
theorem dX12_readSign_143 : decode cX12_readSign 143 = .ok (.invokevirtual 226, 3) := by decide +kernel
theorem dX12_readSign_146 : decode cX12_readSign 146 = .ok (.iconst 0, 1) := by decide +kernel
theorem dX12_readSign_147 : decode cX12_readSign 147 = .ok (.ireturn, 1) := by decide +kernel
theorem dX12_readSign_148 : decode cX12_readSign 148 = .ok (.aload_n 0, 1) := by decide +kernel
theorem dX12_readSign_149 : decode cX12_readSign 149 = .ok (.iconst 1, 1) := by decide +kernel
theorem dX12_readSign_150 : decode cX12_readSign 150 = .ok (.aload_n 0, 1) := by decide +kernel
theorem dX12_readSign_151 : decode cX12_readSign 151 = .ok (.getfield 147, 3) := by decide +kernel
theorem dX12_readSign_154 : decode cX12_readSign 154 = .ok (.invokevirtual 157, 3) := by decide +kernel
theorem dX12_readSign_157 : decode cX12_readSign 157 = .ok (.iconst 1, 1) := by decide +kernel
theorem dX12_readSign_158 : decode cX12_readSign 158 = .ok (.ireturn, 1) := by decide +kernel
theorem dX12_readExpression_0 : decode cX12_readExpression 0 = .ok (.aload_n 0, 1) := by decide +kernel
theorem dX12_readExpression_1 : decode cX12_readExpression 1 = .ok (.iconst 0, 1) := by decide +kernel
theorem dX12_readExpression_2 : decode cX12_readExpression 2 = .ok (.putfield 144, 3) := by decide +kernel
theorem dX12_readExpression_5 : decode cX12_readExpression 5 = .ok (.aload_n 0, 1) := by decide +kernel
theorem dX12_readExpression_6 : decode cX12_readExpression 6 = .ok (.iconst 0, 1) := by decide +kernel
theorem dX12_readExpression_7 : decode cX12_readExpression 7 = .ok (.putfield 154, 3) := by decide +kernel
theorem dX12_readExpression_10 : decode cX12_readExpression 10 = .ok (.aload_n 0, 1) := by decide +kernel
theorem dX12_readExpression_11 : decode cX12_readExpression 11 = .ok (.iconst 0, 1) := by decide +kernel
theorem dX12_readExpression_12 : decode cX12_readExpression 12 = .ok (.putfield 161, 3) := by decide +kernel
theorem dX12_readExpression_15 : decode cX12_readExpression 15 = .ok (.aload_n 0, 1) := by decide +kernel
theorem dX12_readExpression_16 : decode cX12_readExpression 16 = .ok (.iconst 0, 1) := by decide +kernel
theorem dX12_readExpression_17 : decode cX12_readExpression 17 = .ok (.putfield 164, 3) := by decide +kernel
theorem dX12_readExpression_20 : decode cX12_readExpression 20 = .ok (.aload_n 0, 1) := by decide +kernel
theorem dX12_readExpression_21 : decode cX12_readExpression 21 = .ok (.iconst 0, 1) := by decide +kernel
theorem dX12_readExpression_22 : decode cX12_readExpression 22 = .ok (.putfield 195, 3) := by decide +kernel
theorem dX12_readExpression_25 : decode cX12_readExpression 25 = .ok (.iconst 1, 1) := by decide +kernel
theorem dX12_readExpression_26 : decode cX12_readExpression 26 = .ok (.istore_n 1, 1) := by decide +kernel
theorem dX12_readExpression_27 : decode cX12_readExpression 27 = .ok (.iconst (-1), 1) := by decide +kernel
theorem dX12_readExpression_28 : decode cX12_readExpression 28 = .ok (.istore_n 2, 1) := by decide +kernel
theorem dX12_readExpression_29 : decode cX12_readExpression 29 = .ok (.aload_n 0, 1) := by decide +kernel
theorem dX12_readExpression_30 : decode cX12_readExpression 30 = .ok (.getfield 123, 3) := by decide +kernel
theorem dX12_readExpression_33 : decode cX12_readExpression 33 = .ok (.ifCond .ne 86, 3) := by decide +kernel
theorem dX12_readExpression_36 : decode cX12_readExpression 36 = .ok (.iload_n 1, 1) := by decide +kernel
theorem dX12_readExpression_37 : decode cX12_readExpression 37 = .ok (.ifCond .ne 10, 3) := by decide +kernel
theorem dX12_readExpression_40 : decode cX12_readExpression 40 = .ok (.aload_n 0, 1) := by decide +kernel
theorem dX12_readExpression_41 : decode cX12_readExpression 41 = .ok (.invokevirtual 222, 3) := by decide +kernel
theorem dX12_readExpression_44 : decode cX12_readExpression 44 = .ok (.ifCond .ne 75, 3) := by decide +kernel
theorem dX12_readExpression_47 : decode cX12_readExpression 47 = .ok (.iload_n 1, 1) := by decide +kernel
theorem dX12_readExpression_48 : decode cX12_readExpression 48 = .ok (.ifCond .eq 63, 3) := by decide +kernel
theorem dX12_readExpression_51 : decode cX12_readExpression 51 = .ok (.aload_n 0, 1) := by decide +kernel
theorem dX12_readExpression_52 : decode cX12_readExpression 52 = .ok (.invokevirtual 218, 3) := by decide +kernel
theorem dX12_readExpression_55 : decode cX12_readExpression 55 = .ok (.bipush 8, 2) := by decide +kernel
theorem dX12_readExpression_57 : decode cX12_readExpression 57 = .ok (.if_icmp .ne 30, 3) := by decide +kernel
theorem dX12_readExpression_60 : decode cX12_readExpression 60 = .ok (.aload_n 0, 1) := by decide +kernel
theorem dX12_readExpression_61 : decode cX12_readExpression 61 = .ok (.aload_n 0, 1) := by decide +kernel
theorem dX12_readExpression_62 : decode cX12_readExpression 62 = .ok (.getfield 147, 3) := by decide +kernel
theorem dX12_readExpression_65 : decode cX12_readExpression 65 = .ok (.iconst 1, 1) := by decide +kernel
theorem dX12_readExpression_66 : decode cX12_readExpression 66 = .ok (.isub, 1) := by decide +kernel
theorem dX12_readExpression_67 : decode cX12_readExpression 67 = .ok (.invokevirtual 130, 3) := by decide +kernel
theorem dX12_readExpression_70 : decode cX12_readExpression 70 = .ok (.bipush 40, 2) := by decide +kernel
theorem dX12_readExpression_72 : decode cX12_readExpression 72 = .ok (.if_icmp .ne 15, 3) := by decide +kernel
theorem dX12_readExpression_75 : decode cX12_readExpression 75 = .ok (.iload_n 2, 1) := by decide +kernel
theorem dX12_readExpression_76 : decode cX12_readExpression 76 = .ok (.aload_n 0, 1) := by decide +kernel
theorem dX12_readExpression_77 : decode cX12_readExpression 77 = .ok (.getfield 147, 3) := by decide +kernel
theorem dX12_readExpression_80 : decode cX12_readExpression 80 = .ok (.if_icmp .eq 7, 3) := by decide +kernel
theorem dX12_readExpression_83 : decode cX12_readExpression 83 = .ok (.iconst 1, 1) := by decide +kernel
theorem dX12_readExpression_84 : decode cX12_readExpression 84 = .ok (.goto 4, 3) := by decide +kernel
theorem dX12_readExpression_87 : decode cX12_readExpression 87 = .ok (.iconst 0, 1) := by decide +kernel
theorem dX12_readExpression_88 : decode cX12_readExpression 88 = .ok (.istore_n 3, 1) := by decide +kernel
theorem dX12_readExpression_89 : decode cX12_readExpression 89 = .ok (.aload_n 0, 1) := by decide +kernel
theorem dX12_readExpression_90 : decode cX12_readExpression 90 = .ok (.getfield 147, 3) := by decide +kernel
theorem dX12_readExpression_93 : decode cX12_readExpression 93 = .ok (.istore_n 2, 1) := by decide +kernel
theorem dX12_readExpression_94 : decode cX12_readExpression 94 = .ok (.aload_n 0, 1) := by decide +kernel
theorem dX12_readExpression_95 : decode cX12_readExpression 95 = .ok (.iload_n 3, 1) := by decide +kernel
theorem dX12_readExpression_96 : decode cX12_readExpression 96 = .ok (.invokevirtual 253, 3) := by decide +kernel
theorem dX12_readExpression_99 : decode cX12_readExpression 99 = .ok (.ifCond .ne 7, 3) := by decide +kernel
theorem dX12_readExpression_102 : decode cX12_readExpression 102 = .ok (.iconst 1, 1) := by decide +kernel
theorem dX12_readExpression_103 : decode cX12_readExpression 103 = .ok (.goto 4, 3) := by decide +kernel
theorem dX12_readExpression_106 : decode cX12_readExpression 106 = .ok (.iconst 0, 1) := by decide +kernel
theorem dX12_readExpression_107 : decode cX12_readExpression 107 = .ok (.istore_n 1, 1) := by decide +kernel
theorem dX12_readExpression_108 : decode cX12_readExpression 108 = .ok (.goto (-79), 3) := by decide +kernel
theorem dX12_readExpression_111 : decode cX12_readExpression 111 = .ok (.aload_n 0, 1) := by decide +kernel
theorem dX12_readExpression_112 : decode cX12_readExpression 112 = .ok (.invokevirtual 257, 3) := by decide +kernel
theorem dX12_readExpression_115 : decode cX12_readExpression 115 = .ok (.istore_n 1, 1) := by decide +kernel
theorem dX12_readExpression_116 : decode cX12_readExpression 116 = .ok (.goto (-87), 3) := by decide +kernel
theorem dX12_readExpression_119 : decode cX12_readExpression 119 = .ok (.aload_n 0, 1) := by decide +kernel
theorem dX12_readExpression_120 : decode cX12_readExpression 120 = .ok (.getfield 123, 3) := by decide +kernel
theorem dX12_readExpression_123 : decode cX12_readExpression 123 = .ok (.ifCond .ne 23, 3) := by decide +kernel
theorem dX12_readExpression_126 : decode cX12_readExpression 126 = .ok (.aload_n 0, 1) := by decide +kernel
theorem dX12_readExpression_127 : decode cX12_readExpression 127 = .ok (.invokevirtual 235, 3) := by decide +kernel
theorem dX12_readExpression_130 : decode cX12_readExpression 130 = .ok (.aload_n 0, 1) := by decide +kernel
theorem dX12_readExpression_131 : decode cX12_readExpression 131 = .ok (.getfield 161, 3) := by decide +kernel
theorem dX12_readExpression_134 : decode cX12_readExpression 134 = .ok (.ifCond .le 12, 3) := by decide +kernel
theorem dX12_readExpression_137 : decode cX12_readExpression 137 = .ok (.aload_n 0, 1) := by decide +kernel
theorem dX12_readExpression_138 : decode cX12_readExpression 138 = .ok (.iconst 1, 1) := by decide +kernel
theorem dX12_readExpression_139 : decode cX12_readExpression 139 = .ok (.aload_n 0, 1) := by decide +kernel
theorem dX12_readExpression_140 : decode cX12_readExpression 140 = .ok (.getfield 147, 3) := by decide +kernel
theorem dX12_readExpression_143 : decode cX12_readExpression 143 = .ok (.invokevirtual 157, 3) := by decide +kernel
theorem dX12_readExpression_146 : decode cX12_readExpression 146 = .ok (.return_, 1) := by decide +kernel
theorem dX12_keepExpression_0 : decode cX12_keepExpression 0 = .ok (.iconst 0, 1) := by decide +kernel
theorem dX12_keepExpression_1 : decode cX12_keepExpression 1 = .ok (.istore_n 2, 1) := by decide +kernel
theorem dX12_keepExpression_2 : decode cX12_keepExpression 2 = .ok (.iload_n 2, 1) := by decide +kernel
theorem dX12_keepExpression_3 : decode cX12_keepExpression 3 = .ok (.aload_n 0, 1) := by decide +kernel
theorem dX12_keepExpression_4 : decode cX12_keepExpression 4 = .ok (.getfield 144, 3) := by decide +kernel
theorem dX12_keepExpression_7 : decode cX12_keepExpression 7 = .ok (.if_icmp .ge 55, 3) := by decide +kernel
theorem dX12_keepExpression_10 : decode cX12_keepExpression 10 = .ok (.aload_n 0, 1) := by decide +kernel
theorem dX12_keepExpression_11 : decode cX12_keepExpression 11 = .ok (.getfield 17, 3) := by decide +kernel
theorem dX12_keepExpression_14 : decode cX12_keepExpression 14 = .ok (.iload_n 1, 1) := by decide +kernel
theorem dX12_keepExpression_15 : decode cX12_keepExpression 15 = .ok (.invokestatic 141, 3) := by decide +kernel
theorem dX12_keepExpression_18 : decode cX12_keepExpression 18 = .ok (.iload_n 2, 1) := by decide +kernel
theorem dX12_keepExpression_19 : decode cX12_keepExpression 19 = .ok (.iadd, 1) := by decide +kernel
theorem dX12_keepExpression_20 : decode cX12_keepExpression 20 = .ok (.aload_n 0, 1) := by decide +kernel
theorem dX12_keepExpression_21 : decode cX12_keepExpression 21 = .ok (.getfield 17, 3) := by decide +kernel
theorem dX12_keepExpression_24 : decode cX12_keepExpression 24 = .ok (.bipush 32, 2) := by decide +kernel
theorem dX12_keepExpression_26 : decode cX12_keepExpression 26 = .ok (.invokestatic 141, 3) := by decide +kernel
theorem dX12_keepExpression_29 : decode cX12_keepExpression 29 = .ok (.iload_n 2, 1) := by decide +kernel
theorem dX12_keepExpression_30 : decode cX12_keepExpression 30 = .ok (.iadd, 1) := by decide +kernel
theorem dX12_keepExpression_31 : decode cX12_keepExpression 31 = .ok (.iaload, 1) := by decide +kernel
theorem dX12_keepExpression_32 : decode cX12_keepExpression 32 = .ok (.iastore, 1) := by decide +kernel
theorem dX12_keepExpression_33 : decode cX12_keepExpression 33 = .ok (.aload_n 0, 1) := by decide +kernel
theorem dX12_keepExpression_34 : decode cX12_keepExpression 34 = .ok (.getfield 20, 3) := by decide +kernel
theorem dX12_keepExpression_37 : decode cX12_keepExpression 37 = .ok (.iload_n 1, 1) := by decide +kernel
theorem dX12_keepExpression_38 : decode cX12_keepExpression 38 = .ok (.invokestatic 141, 3) := by decide +kernel
theorem dX12_keepExpression_41 : decode cX12_keepExpression 41 = .ok (.iload_n 2, 1) := by decide +kernel
theorem dX12_keepExpression_42 : decode cX12_keepExpression 42 = .ok (.iadd, 1) := by decide +kernel
theorem dX12_keepExpression_43 : decode cX12_keepExpression 43 = .ok (.aload_n 0, 1) := by decide +kernel
theorem dX12_keepExpression_44 : decode cX12_keepExpression 44 = .ok (.getfield 20, 3) := by decide +kernel
theorem dX12_keepExpression_47 : decode cX12_keepExpression 47 = .ok (.bipush 32, 2) := by decide +kernel
theorem dX12_keepExpression_49 : decode cX12_keepExpression 49 = .ok (.invokestatic 141, 3) := by decide +kernel
theorem dX12_keepExpression_52 : decode cX12_keepExpression 52 = .ok (.iload_n 2, 1) := by decide +kernel
theorem dX12_keepExpression_53 : decode cX12_keepExpression 53 = .ok (.iadd, 1) := by decide +kernel
theorem dX12_keepExpression_54 : decode cX12_keepExpression 54 = .ok (.laload, 1) := by decide +kernel
theorem dX12_keepExpression_55 : decode cX12_keepExpression 55 = .ok (.lastore, 1) := by decide +kernel
theorem dX12_keepExpression_56 : decode cX12_keepExpression 56 = .ok (.iinc 2 1, 3) := by decide +kernel
theorem dX12_keepExpression_59 : decode cX12_keepExpression 59 = .ok (.goto (-57), 3) := by decide +kernel
theorem dX12_keepExpression_62 : decode cX12_keepExpression 62 = .ok (.aload_n 0, 1) := by decide +kernel
theorem dX12_keepExpression_63 : decode cX12_keepExpression 63 = .ok (.getfield 24, 3) := by decide +kernel
theorem dX12_keepExpression_66 : decode cX12_keepExpression 66 = .ok (.iload_n 1, 1) := by decide +kernel
theorem dX12_keepExpression_67 : decode cX12_keepExpression 67 = .ok (.aload_n 0, 1) := by decide +kernel
theorem dX12_keepExpression_68 : decode cX12_keepExpression 68 = .ok (.getfield 144, 3) := by decide +kernel
theorem dX12_keepExpression_71 : decode cX12_keepExpression 71 = .ok (.iastore, 1) := by decide +kernel
theorem dX12_keepExpression_72 : decode cX12_keepExpression 72 = .ok (.return_, 1) := by decide +kernel
theorem dX12_begin_0 : decode cX12_begin 0 = .ok (.aload_n 0, 1) := by decide +kernel
theorem dX12_begin_1 : decode cX12_begin 1 = .ok (.iconst 0, 1) := by decide +kernel
theorem dX12_begin_2 : decode cX12_begin 2 = .ok (.putfield 115, 3) := by decide +kernel
theorem dX12_begin_5 : decode cX12_begin 5 = .ok (.aload_n 0, 1) := by decide +kernel
theorem dX12_begin_6 : decode cX12_begin 6 = .ok (.iconst 0, 1) := by decide +kernel
theorem dX12_begin_7 : decode cX12_begin 7 = .ok (.putfield 123, 3) := by decide +kernel
theorem dX12_begin_10 : decode cX12_begin 10 = .ok (.aload_n 0, 1) := by decide +kernel
theorem dX12_begin_11 : decode cX12_begin 11 = .ok (.iconst (-1), 1) := by decide +kernel
theorem dX12_begin_12 : decode cX12_begin 12 = .ok (.putfield 13, 3) := by decide +kernel
theorem dX12_begin_15 : decode cX12_begin 15 = .ok (.aload_n 0, 1) := by decide +kernel
theorem dX12_begin_16 : decode cX12_begin 16 = .ok (.iconst 0, 1) := by decide +kernel
theorem dX12_begin_17 : decode cX12_begin 17 = .ok (.putfield 147, 3) := by decide +kernel
theorem dX12_begin_20 : decode cX12_begin 20 = .ok (.return_, 1) := by decide +kernel
theorem dX12_want_0 : decode cX12_want 0 = .ok (.aload_n 0, 1) := by decide +kernel
theorem dX12_want_1 : decode cX12_want 1 = .ok (.getfield 123, 3) := by decide +kernel
theorem dX12_want_4 : decode cX12_want 4 = .ok (.ifCond .ne 37, 3) := by decide +kernel
theorem dX12_want_7 : decode cX12_want 7 = .ok (.aload_n 0, 1) := by decide +kernel
theorem dX12_want_8 : decode cX12_want 8 = .ok (.aload_n 0, 1) := by decide +kernel
theorem dX12_want_9 : decode cX12_want 9 = .ok (.getfield 147, 3) := by decide +kernel
theorem dX12_want_12 : decode cX12_want 12 = .ok (.invokevirtual 130, 3) := by decide +kernel
theorem dX12_want_15 : decode cX12_want 15 = .ok (.iload_n 1, 1) := by decide +kernel
theorem dX12_want_16 : decode cX12_want 16 = .ok (.if_icmp .ne 16, 3) := by decide +kernel
theorem dX12_want_19 : decode cX12_want 19 = .ok (.aload_n 0, 1) := by decide +kernel
theorem dX12_want_20 : decode cX12_want 20 = .ok (.dup, 1) := by decide +kernel
theorem dX12_want_21 : decode cX12_want 21 = .ok (.getfield 147, 3) := by decide +kernel
theorem dX12_want_24 : decode cX12_want 24 = .ok (.iconst 1, 1) := by decide +kernel
theorem dX12_want_25 : decode cX12_want 25 = .ok (.iadd, 1) := by decide +kernel
theorem dX12_want_26 : decode cX12_want 26 = .ok (.putfield 147, 3) := by decide +kernel
theorem dX12_want_29 : decode cX12_want 29 = .ok (.goto 12, 3) := by decide +kernel
theorem dX12_want_32 : decode cX12_want 32 = .ok (.aload_n 0, 1) := by decide +kernel
theorem dX12_want_33 : decode cX12_want 33 = .ok (.iconst 1, 1) := by decide +kernel
theorem dX12_want_34 : decode cX12_want 34 = .ok (.aload_n 0, 1) := by decide +kernel
theorem dX12_want_35 : decode cX12_want 35 = .ok (.getfield 147, 3) := by decide +kernel
theorem dX12_want_38 : decode cX12_want 38 = .ok (.invokevirtual 157, 3) := by decide +kernel
theorem dX12_want_41 : decode cX12_want 41 = .ok (.return_, 1) := by decide +kernel
theorem dX12_findMethod_0 : decode cX12_findMethod 0 = .ok (.iconst 0, 1) := by decide +kernel
theorem dX12_findMethod_1 : decode cX12_findMethod 1 = .ok (.istore 4, 2) := by decide +kernel
theorem dX12_findMethod_3 : decode cX12_findMethod 3 = .ok (.iload 4, 2) := by decide +kernel
theorem dX12_findMethod_5 : decode cX12_findMethod 5 = .ok (.aload_n 0, 1) := by decide +kernel
theorem dX12_findMethod_6 : decode cX12_findMethod 6 = .ok (.getfield 260, 3) := by decide +kernel
theorem dX12_findMethod_9 : decode cX12_findMethod 9 = .ok (.if_icmp .ge 35, 3) := by decide +kernel
theorem dX12_findMethod_12 : decode cX12_findMethod 12 = .ok (.aload_n 0, 1) := by decide +kernel
theorem dX12_findMethod_13 : decode cX12_findMethod 13 = .ok (.getfield 27, 3) := by decide +kernel
theorem dX12_findMethod_16 : decode cX12_findMethod 16 = .ok (.iload 4, 2) := by decide +kernel
theorem dX12_findMethod_18 : decode cX12_findMethod 18 = .ok (.laload, 1) := by decide +kernel
theorem dX12_findMethod_19 : decode cX12_findMethod 19 = .ok (.lload_n 1, 1) := by decide +kernel
theorem dX12_findMethod_20 : decode cX12_findMethod 20 = .ok (.lcmp, 1) := by decide +kernel
theorem dX12_findMethod_21 : decode cX12_findMethod 21 = .ok (.ifCond .ne 17, 3) := by decide +kernel
theorem dX12_findMethod_24 : decode cX12_findMethod 24 = .ok (.aload_n 0, 1) := by decide +kernel
theorem dX12_findMethod_25 : decode cX12_findMethod 25 = .ok (.getfield 30, 3) := by decide +kernel
theorem dX12_findMethod_28 : decode cX12_findMethod 28 = .ok (.iload 4, 2) := by decide +kernel
theorem dX12_findMethod_30 : decode cX12_findMethod 30 = .ok (.iaload, 1) := by decide +kernel
theorem dX12_findMethod_31 : decode cX12_findMethod 31 = .ok (.iload_n 3, 1) := by decide +kernel
theorem dX12_findMethod_32 : decode cX12_findMethod 32 = .ok (.if_icmp .ne 6, 3) := by decide +kernel
theorem dX12_findMethod_35 : decode cX12_findMethod 35 = .ok (.iload 4, 2) := by decide +kernel
theorem dX12_findMethod_37 : decode cX12_findMethod 37 = .ok (.ireturn, 1) := by decide +kernel
theorem dX12_findMethod_38 : decode cX12_findMethod 38 = .ok (.iinc 4 1, 3) := by decide +kernel
theorem dX12_findMethod_41 : decode cX12_findMethod 41 = .ok (.goto (-38), 3) := by decide +kernel
theorem dX12_findMethod_44 : decode cX12_findMethod 44 = .ok (.iconst (-1), 1) := by decide +kernel
theorem dX12_findMethod_45 : decode cX12_findMethod 45 = .ok (.ireturn, 1) := by decide +kernel
theorem dX12_method_0 : decode cX12_method 0 = .ok (.aload_n 0, 1) := by decide +kernel
theorem dX12_method_1 : decode cX12_method 1 = .ok (.invokevirtual 263, 3) := by decide +kernel
theorem dX12_method_4 : decode cX12_method 4 = .ok (.aload_n 0, 1) := by decide +kernel
theorem dX12_method_5 : decode cX12_method 5 = .ok (.iconst 0, 1) := by decide +kernel
theorem dX12_method_6 : decode cX12_method 6 = .ok (.putfield 150, 3) := by decide +kernel
theorem dX12_method_9 : decode cX12_method 9 = .ok (.aload_n 0, 1) := by decide +kernel
theorem dX12_method_10 : decode cX12_method 10 = .ok (.iconst 0, 1) := by decide +kernel
theorem dX12_method_11 : decode cX12_method 11 = .ok (.invokevirtual 205, 3) := by decide +kernel
theorem dX12_method_14 : decode cX12_method 14 = .ok (.istore_n 1, 1) := by decide +kernel
theorem dX12_method_15 : decode cX12_method 15 = .ok (.iload_n 1, 1) := by decide +kernel
theorem dX12_method_16 : decode cX12_method 16 = .ok (.bipush 12, 2) := by decide +kernel
theorem dX12_method_18 : decode cX12_method 18 = .ok (.if_icmp .le 13, 3) := by decide +kernel
theorem dX12_method_21 : decode cX12_method 21 = .ok (.aload_n 0, 1) := by decide +kernel
theorem dX12_method_22 : decode cX12_method 22 = .ok (.iconst 3, 1) := by decide +kernel
theorem dX12_method_23 : decode cX12_method 23 = .ok (.bipush 12, 2) := by decide +kernel
theorem dX12_method_25 : decode cX12_method 25 = .ok (.invokevirtual 157, 3) := by decide +kernel
theorem dX12_method_28 : decode cX12_method 28 = .ok (.goto 18, 3) := by decide +kernel
theorem dX12_method_31 : decode cX12_method 31 = .ok (.aload_n 0, 1) := by decide +kernel
theorem dX12_method_32 : decode cX12_method 32 = .ok (.iconst 0, 1) := by decide +kernel
theorem dX12_method_33 : decode cX12_method 33 = .ok (.iload_n 1, 1) := by decide +kernel
theorem dX12_method_34 : decode cX12_method 34 = .ok (.invokevirtual 211, 3) := by decide +kernel
theorem dX12_method_37 : decode cX12_method 37 = .ok (.ifCond .ne 9, 3) := by decide +kernel
theorem dX12_method_40 : decode cX12_method 40 = .ok (.aload_n 0, 1) := by decide +kernel
theorem dX12_method_41 : decode cX12_method 41 = .ok (.iconst 1, 1) := by decide +kernel
theorem dX12_method_42 : decode cX12_method 42 = .ok (.iconst 0, 1) := by decide +kernel
theorem dX12_method_43 : decode cX12_method 43 = .ok (.invokevirtual 157, 3) := by decide +kernel
theorem dX12_method_46 : decode cX12_method 46 = .ok (.aload_n 0, 1) := by decide +kernel
theorem dX12_method_47 : decode cX12_method 47 = .ok (.getfield 137, 3) := by decide +kernel
theorem dX12_method_50 : decode cX12_method 50 = .ok (.lstore_n 2, 1) := by decide +kernel
theorem dX12_method_51 : decode cX12_method 51 = .ok (.aload_n 0, 1) := by decide +kernel
theorem dX12_method_52 : decode cX12_method 52 = .ok (.iload_n 1, 1) := by decide +kernel
theorem dX12_method_53 : decode cX12_method 53 = .ok (.putfield 147, 3) := by decide +kernel
theorem dX12_method_56 : decode cX12_method 56 = .ok (.aload_n 0, 1) := by decide +kernel
theorem dX12_method_57 : decode cX12_method 57 = .ok (.bipush 40, 2) := by decide +kernel
theorem dX12_method_59 : decode cX12_method 59 = .ok (.invokevirtual 266, 3) := by decide +kernel
theorem dX12_method_62 : decode cX12_method 62 = .ok (.aload_n 0, 1) := by decide +kernel
theorem dX12_method_63 : decode cX12_method 63 = .ok (.aload_n 0, 1) := by decide +kernel
theorem dX12_method_64 : decode cX12_method 64 = .ok (.getfield 147, 3) := by decide +kernel
theorem dX12_method_67 : decode cX12_method 67 = .ok (.invokevirtual 130, 3) := by decide +kernel
theorem dX12_method_70 : decode cX12_method 70 = .ok (.bipush 48, 2) := by decide +kernel
theorem dX12_method_72 : decode cX12_method 72 = .ok (.isub, 1) := by decide +kernel
theorem dX12_method_73 : decode cX12_method 73 = .ok (.istore 4, 2) := by decide +kernel
theorem dX12_method_75 : decode cX12_method 75 = .ok (.aload_n 0, 1) := by decide +kernel
theorem dX12_method_76 : decode cX12_method 76 = .ok (.getfield 123, 3) := by decide +kernel
theorem dX12_method_79 : decode cX12_method 79 = .ok (.ifCond .ne 23, 3) := by decide +kernel
theorem dX12_method_82 : decode cX12_method 82 = .ok (.iload 4, 2) := by decide +kernel
theorem dX12_method_84 : decode cX12_method 84 = .ok (.ifCond .lt 9, 3) := by decide +kernel
theorem dX12_method_87 : decode cX12_method 87 = .ok (.iload 4, 2) := by decide +kernel
theorem dX12_method_89 : decode cX12_method 89 = .ok (.iconst 3, 1) := by decide +kernel
theorem dX12_method_90 : decode cX12_method 90 = .ok (.if_icmp .le 12, 3) := by decide +kernel
theorem dX12_method_93 : decode cX12_method 93 = .ok (.aload_n 0, 1) := by decide +kernel
theorem dX12_method_94 : decode cX12_method 94 = .ok (.iconst 1, 1) := by decide +kernel
theorem dX12_method_95 : decode cX12_method 95 = .ok (.aload_n 0, 1) := by decide +kernel
theorem dX12_method_96 : decode cX12_method 96 = .ok (.getfield 147, 3) := by decide +kernel
theorem dX12_method_99 : decode cX12_method 99 = .ok (.invokevirtual 157, 3) := by decide +kernel
theorem dX12_method_102 : decode cX12_method 102 = .ok (.aload_n 0, 1) := by decide +kernel
theorem dX12_method_103 : decode cX12_method 103 = .ok (.dup, 1) := by decide +kernel
theorem dX12_method_104 : decode cX12_method 104 = .ok (.getfield 147, 3) := by decide +kernel
theorem dX12_method_107 : decode cX12_method 107 = .ok (.iconst 1, 1) := by decide +kernel
theorem dX12_method_108 : decode cX12_method 108 = .ok (.iadd, 1) := by decide +kernel
theorem dX12_method_109 : decode cX12_method 109 = .ok (.putfield 147, 3) := by decide +kernel
theorem dX12_method_112 : decode cX12_method 112 = .ok (.aload_n 0, 1) := by decide +kernel
theorem dX12_method_113 : decode cX12_method 113 = .ok (.bipush 41, 2) := by decide +kernel
theorem dX12_method_115 : decode cX12_method 115 = .ok (.invokevirtual 266, 3) := by decide +kernel
theorem dX12_method_118 : decode cX12_method 118 = .ok (.aload_n 0, 1) := by decide +kernel
theorem dX12_method_119 : decode cX12_method 119 = .ok (.bipush 61, 2) := by decide +kernel
theorem dX12_method_121 : decode cX12_method 121 = .ok (.invokevirtual 266, 3) := by decide +kernel
theorem dX12_method_124 : decode cX12_method 124 = .ok (.aload_n 0, 1) := by decide +kernel
theorem dX12_method_125 : decode cX12_method 125 = .ok (.iload 4, 2) := by decide +kernel
theorem dX12_method_127 : decode cX12_method 127 = .ok (.putfield 202, 3) := by decide +kernel
theorem dX12_method_130 : decode cX12_method 130 = .ok (.aload_n 0, 1) := by decide +kernel
theorem dX12_method_131 : decode cX12_method 131 = .ok (.getfield 123, 3) := by decide +kernel
theorem dX12_method_134 : decode cX12_method 134 = .ok (.ifCond .ne 7, 3) := by decide +kernel
theorem dX12_method_137 : decode cX12_method 137 = .ok (.aload_n 0, 1) := by decide +kernel
theorem dX12_method_138 : decode cX12_method 138 = .ok (.invokevirtual 269, 3) := by decide +kernel
theorem dX12_method_141 : decode cX12_method 141 = .ok (.aload_n 0, 1) := by decide +kernel
theorem dX12_method_142 : decode cX12_method 142 = .ok (.getfield 123, 3) := by decide +kernel
theorem dX12_method_145 : decode cX12_method 145 = .ok (.ifCond .ne 31, 3) := by decide +kernel
theorem dX12_method_148 : decode cX12_method 148 = .ok (.aload_n 0, 1) := by decide +kernel
theorem dX12_method_149 : decode cX12_method 149 = .ok (.getfield 260, 3) := by decide +kernel
theorem dX12_method_152 : decode cX12_method 152 = .ok (.bipush 16, 2) := by decide +kernel
theorem dX12_method_154 : decode cX12_method 154 = .ok (.if_icmp .eq 13, 3) := by decide +kernel
theorem dX12_method_157 : decode cX12_method 157 = .ok (.aload_n 0, 1) := by decide +kernel
theorem dX12_method_158 : decode cX12_method 158 = .ok (.lload_n 2, 1) := by decide +kernel
theorem dX12_method_159 : decode cX12_method 159 = .ok (.iload 4, 2) := by decide +kernel
theorem dX12_method_161 : decode cX12_method 161 = .ok (.invokevirtual 272, 3) := by decide +kernel
theorem dX12_method_164 : decode cX12_method 164 = .ok (.ifCond .lt 12, 3) := by decide +kernel
theorem dX12_method_167 : decode cX12_method 167 = .ok (.aload_n 0, 1) := by decide +kernel
theorem dX12_method_168 : decode cX12_method 168 = .ok (.iconst 5, 1) := by decide +kernel
theorem dX12_method_169 : decode cX12_method 169 = .ok (.aload_n 0, 1) := by decide +kernel
theorem dX12_method_170 : decode cX12_method 170 = .ok (.getfield 118, 3) := by decide +kernel
theorem dX12_method_173 : decode cX12_method 173 = .ok (.invokevirtual 157, 3) := by decide +kernel
theorem dX12_method_176 : decode cX12_method 176 = .ok (.aload_n 0, 1) := by decide +kernel
theorem dX12_method_177 : decode cX12_method 177 = .ok (.getfield 123, 3) := by decide +kernel
theorem dX12_method_180 : decode cX12_method 180 = .ok (.ifCond .le 5, 3) := by decide +kernel
theorem dX12_method_183 : decode cX12_method 183 = .ok (.iconst (-1), 1) := by decide +kernel
theorem dX12_method_184 : decode cX12_method 184 = .ok (.ireturn, 1) := by decide +kernel
theorem dX12_method_185 : decode cX12_method 185 = .ok (.aload_n 0, 1) := by decide +kernel
theorem dX12_method_186 : decode cX12_method 186 = .ok (.getfield 27, 3) := by decide +kernel
theorem dX12_method_189 : decode cX12_method 189 = .ok (.aload_n 0, 1) := by decide +kernel
theorem dX12_method_190 : decode cX12_method 190 = .ok (.getfield 260, 3) := by decide +kernel
theorem dX12_method_193 : decode cX12_method 193 = .ok (.lload_n 2, 1) := by decide +kernel
theorem dX12_method_194 : decode cX12_method 194 = .ok (.lastore, 1) := by decide +kernel
theorem dX12_method_195 : decode cX12_method 195 = .ok (.aload_n 0, 1) := by decide +kernel
theorem dX12_method_196 : decode cX12_method 196 = .ok (.getfield 30, 3) := by decide +kernel
theorem dX12_method_199 : decode cX12_method 199 = .ok (.aload_n 0, 1) := by decide +kernel
theorem dX12_method_200 : decode cX12_method 200 = .ok (.getfield 260, 3) := by decide +kernel
theorem dX12_method_203 : decode cX12_method 203 = .ok (.iload 4, 2) := by decide +kernel
theorem dX12_method_205 : decode cX12_method 205 = .ok (.iastore, 1) := by decide +kernel
theorem dX12_method_206 : decode cX12_method 206 = .ok (.aload_n 0, 1) := by decide +kernel
theorem dX12_method_207 : decode cX12_method 207 = .ok (.aload_n 0, 1) := by decide +kernel
theorem dX12_method_208 : decode cX12_method 208 = .ok (.getfield 260, 3) := by decide +kernel
theorem dX12_method_211 : decode cX12_method 211 = .ok (.invokevirtual 276, 3) := by decide +kernel
theorem dX12_method_214 : decode cX12_method 214 = .ok (.aload_n 0, 1) := by decide +kernel
theorem dX12_method_215 : decode cX12_method 215 = .ok (.dup, 1) := by decide +kernel
theorem dX12_method_216 : decode cX12_method 216 = .ok (.getfield 260, 3) := by decide +kernel
theorem dX12_method_219 : decode cX12_method 219 = .ok (.iconst 1, 1) := by decide +kernel
theorem dX12_method_220 : decode cX12_method 220 = .ok (.iadd, 1) := by decide +kernel
theorem dX12_method_221 : decode cX12_method 221 = .ok (.putfield 260, 3) := by decide +kernel
theorem dX12_method_224 : decode cX12_method 224 = .ok (.aload_n 0, 1) := by decide +kernel
theorem dX12_method_225 : decode cX12_method 225 = .ok (.getfield 260, 3) := by decide +kernel
theorem dX12_method_228 : decode cX12_method 228 = .ok (.iconst 1, 1) := by decide +kernel
theorem dX12_method_229 : decode cX12_method 229 = .ok (.isub, 1) := by decide +kernel
theorem dX12_method_230 : decode cX12_method 230 = .ok (.ireturn, 1) := by decide +kernel
theorem dX12_skip_0 : decode cX12_skip 0 = .ok (.aload_n 0, 1) := by decide +kernel
theorem dX12_skip_1 : decode cX12_skip 1 = .ok (.getfield 147, 3) := by decide +kernel
theorem dX12_skip_4 : decode cX12_skip 4 = .ok (.aload_n 0, 1) := by decide +kernel
theorem dX12_skip_5 : decode cX12_skip 5 = .ok (.getfield 118, 3) := by decide +kernel
theorem dX12_skip_8 : decode cX12_skip 8 = .ok (.if_icmp .ge 30, 3) := by decide +kernel
theorem dX12_skip_11 : decode cX12_skip 11 = .ok (.aload_n 0, 1) := by decide +kernel
theorem dX12_skip_12 : decode cX12_skip 12 = .ok (.getfield 7, 3) := by decide +kernel
theorem dX12_skip_15 : decode cX12_skip 15 = .ok (.aload_n 0, 1) := by decide +kernel
theorem dX12_skip_16 : decode cX12_skip 16 = .ok (.getfield 147, 3) := by decide +kernel
theorem dX12_skip_19 : decode cX12_skip 19 = .ok (.iaload, 1) := by decide +kernel
theorem dX12_skip_20 : decode cX12_skip 20 = .ok (.bipush 32, 2) := by decide +kernel
theorem dX12_skip_22 : decode cX12_skip 22 = .ok (.if_icmp .gt 16, 3) := by decide +kernel
theorem dX12_skip_25 : decode cX12_skip 25 = .ok (.aload_n 0, 1) := by decide +kernel
theorem dX12_skip_26 : decode cX12_skip 26 = .ok (.dup, 1) := by decide +kernel
theorem dX12_skip_27 : decode cX12_skip 27 = .ok (.getfield 147, 3) := by decide +kernel
theorem dX12_skip_30 : decode cX12_skip 30 = .ok (.iconst 1, 1) := by decide +kernel
theorem dX12_skip_31 : decode cX12_skip 31 = .ok (.iadd, 1) := by decide +kernel
theorem dX12_skip_32 : decode cX12_skip 32 = .ok (.putfield 147, 3) := by decide +kernel
theorem dX12_skip_35 : decode cX12_skip 35 = .ok (.goto (-35), 3) := by decide +kernel
theorem dX12_skip_38 : decode cX12_skip 38 = .ok (.return_, 1) := by decide +kernel
theorem dX12_word_0 : decode cX12_word 0 = .ok (.iload_n 0, 1) := by decide +kernel
theorem dX12_word_1 : decode cX12_word 1 = .ok (.i2l, 1) := by decide +kernel
theorem dX12_word_2 : decode cX12_word 2 = .ok (.bipush 15, 2) := by decide +kernel
theorem dX12_word_4 : decode cX12_word 4 = .ok (.lshl, 1) := by decide +kernel
theorem dX12_word_5 : decode cX12_word 5 = .ok (.iload_n 1, 1) := by decide +kernel
theorem dX12_word_6 : decode cX12_word 6 = .ok (.i2l, 1) := by decide +kernel
theorem dX12_word_7 : decode cX12_word 7 = .ok (.bipush 10, 2) := by decide +kernel
theorem dX12_word_9 : decode cX12_word 9 = .ok (.lshl, 1) := by decide +kernel
theorem dX12_word_10 : decode cX12_word 10 = .ok (.lor, 1) := by decide +kernel
theorem dX12_word_11 : decode cX12_word 11 = .ok (.iload_n 2, 1) := by decide +kernel
theorem dX12_word_12 : decode cX12_word 12 = .ok (.i2l, 1) := by decide +kernel
theorem dX12_word_13 : decode cX12_word 13 = .ok (.iconst 5, 1) := by decide +kernel
theorem dX12_word_14 : decode cX12_word 14 = .ok (.lshl, 1) := by decide +kernel
theorem dX12_word_15 : decode cX12_word 15 = .ok (.lor, 1) := by decide +kernel
theorem dX12_word_16 : decode cX12_word 16 = .ok (.iload_n 3, 1) := by decide +kernel
theorem dX12_word_17 : decode cX12_word 17 = .ok (.i2l, 1) := by decide +kernel
theorem dX12_word_18 : decode cX12_word 18 = .ok (.lor, 1) := by decide +kernel
theorem dX12_word_19 : decode cX12_word 19 = .ok (.ldc2_w 279, 3) := by decide +kernel
theorem dX12_word_22 : decode cX12_word 22 = .ok (.land, 1) := by decide +kernel
theorem dX12_word_23 : decode cX12_word 23 = .ok (.lreturn, 1) := by decide +kernel
theorem dX12_rowAt_0 : decode cX12_rowAt 0 = .ok (.aload_n 0, 1) := by decide +kernel
theorem dX12_rowAt_1 : decode cX12_rowAt 1 = .ok (.iload_n 1, 1) := by decide +kernel
theorem dX12_rowAt_2 : decode cX12_rowAt 2 = .ok (.invokevirtual 205, 3) := by decide +kernel
theorem dX12_rowAt_5 : decode cX12_rowAt 5 = .ok (.istore_n 2, 1) := by decide +kernel
theorem dX12_rowAt_6 : decode cX12_rowAt 6 = .ok (.aload_n 0, 1) := by decide +kernel
theorem dX12_rowAt_7 : decode cX12_rowAt 7 = .ok (.iload_n 1, 1) := by decide +kernel
theorem dX12_rowAt_8 : decode cX12_rowAt 8 = .ok (.iload_n 2, 1) := by decide +kernel
theorem dX12_rowAt_9 : decode cX12_rowAt 9 = .ok (.bipush 12, 2) := by decide +kernel
theorem dX12_rowAt_11 : decode cX12_rowAt 11 = .ok (.if_icmp .le 8, 3) := by decide +kernel
theorem dX12_rowAt_14 : decode cX12_rowAt 14 = .ok (.bipush 12, 2) := by decide +kernel
theorem dX12_rowAt_16 : decode cX12_rowAt 16 = .ok (.goto 4, 3) := by decide +kernel
theorem dX12_rowAt_19 : decode cX12_rowAt 19 = .ok (.iload_n 2, 1) := by decide +kernel
theorem dX12_rowAt_20 : decode cX12_rowAt 20 = .ok (.invokevirtual 211, 3) := by decide +kernel
theorem dX12_rowAt_23 : decode cX12_rowAt 23 = .ok (.istore_n 3, 1) := by decide +kernel
theorem dX12_rowAt_24 : decode cX12_rowAt 24 = .ok (.iload_n 2, 1) := by decide +kernel
theorem dX12_rowAt_25 : decode cX12_rowAt 25 = .ok (.bipush 8, 2) := by decide +kernel
theorem dX12_rowAt_27 : decode cX12_rowAt 27 = .ok (.if_icmp .le 7, 3) := by decide +kernel
theorem dX12_rowAt_30 : decode cX12_rowAt 30 = .ok (.lconst 0, 1) := by decide +kernel
theorem dX12_rowAt_31 : decode cX12_rowAt 31 = .ok (.goto 18, 3) := by decide +kernel
theorem dX12_rowAt_34 : decode cX12_rowAt 34 = .ok (.iload_n 3, 1) := by decide +kernel
theorem dX12_rowAt_35 : decode cX12_rowAt 35 = .ok (.ifCond .eq 10, 3) := by decide +kernel
theorem dX12_rowAt_38 : decode cX12_rowAt 38 = .ok (.aload_n 0, 1) := by decide +kernel
theorem dX12_rowAt_39 : decode cX12_rowAt 39 = .ok (.getfield 137, 3) := by decide +kernel
theorem dX12_rowAt_42 : decode cX12_rowAt 42 = .ok (.goto 7, 3) := by decide +kernel
theorem dX12_rowAt_45 : decode cX12_rowAt 45 = .ok (.aload_n 0, 1) := by decide +kernel
theorem dX12_rowAt_46 : decode cX12_rowAt 46 = .ok (.getfield 137, 3) := by decide +kernel
theorem dX12_rowAt_49 : decode cX12_rowAt 49 = .ok (.lreturn, 1) := by decide +kernel
theorem dX12_endsAt_0 : decode cX12_endsAt 0 = .ok (.iload_n 1, 1) := by decide +kernel
theorem dX12_endsAt_1 : decode cX12_endsAt 1 = .ok (.aload_n 0, 1) := by decide +kernel
theorem dX12_endsAt_2 : decode cX12_endsAt 2 = .ok (.getfield 118, 3) := by decide +kernel
theorem dX12_endsAt_5 : decode cX12_endsAt 5 = .ok (.if_icmp .ge 14, 3) := by decide +kernel
theorem dX12_endsAt_8 : decode cX12_endsAt 8 = .ok (.aload_n 0, 1) := by decide +kernel
theorem dX12_endsAt_9 : decode cX12_endsAt 9 = .ok (.getfield 7, 3) := by decide +kernel
theorem dX12_endsAt_12 : decode cX12_endsAt 12 = .ok (.iload_n 1, 1) := by decide +kernel
theorem dX12_endsAt_13 : decode cX12_endsAt 13 = .ok (.iaload, 1) := by decide +kernel
theorem dX12_endsAt_14 : decode cX12_endsAt 14 = .ok (.bipush 32, 2) := by decide +kernel
theorem dX12_endsAt_16 : decode cX12_endsAt 16 = .ok (.if_icmp .gt 7, 3) := by decide +kernel
theorem dX12_endsAt_19 : decode cX12_endsAt 19 = .ok (.iconst 1, 1) := by decide +kernel
theorem dX12_endsAt_20 : decode cX12_endsAt 20 = .ok (.goto 4, 3) := by decide +kernel
theorem dX12_endsAt_23 : decode cX12_endsAt 23 = .ok (.iconst 0, 1) := by decide +kernel
theorem dX12_endsAt_24 : decode cX12_endsAt 24 = .ok (.ireturn, 1) := by decide +kernel
theorem dX12_wantBlank_0 : decode cX12_wantBlank 0 = .ok (.aload_n 0, 1) := by decide +kernel
theorem dX12_wantBlank_1 : decode cX12_wantBlank 1 = .ok (.getfield 123, 3) := by decide +kernel
theorem dX12_wantBlank_4 : decode cX12_wantBlank 4 = .ok (.ifCond .ne 37, 3) := by decide +kernel
theorem dX12_wantBlank_7 : decode cX12_wantBlank 7 = .ok (.aload_n 0, 1) := by decide +kernel
theorem dX12_wantBlank_8 : decode cX12_wantBlank 8 = .ok (.getfield 147, 3) := by decide +kernel
theorem dX12_wantBlank_11 : decode cX12_wantBlank 11 = .ok (.aload_n 0, 1) := by decide +kernel
theorem dX12_wantBlank_12 : decode cX12_wantBlank 12 = .ok (.getfield 118, 3) := by decide +kernel
theorem dX12_wantBlank_15 : decode cX12_wantBlank 15 = .ok (.if_icmp .ge 26, 3) := by decide +kernel
theorem dX12_wantBlank_18 : decode cX12_wantBlank 18 = .ok (.aload_n 0, 1) := by decide +kernel
theorem dX12_wantBlank_19 : decode cX12_wantBlank 19 = .ok (.getfield 7, 3) := by decide +kernel
theorem dX12_wantBlank_22 : decode cX12_wantBlank 22 = .ok (.aload_n 0, 1) := by decide +kernel
theorem dX12_wantBlank_23 : decode cX12_wantBlank 23 = .ok (.getfield 147, 3) := by decide +kernel
theorem dX12_wantBlank_26 : decode cX12_wantBlank 26 = .ok (.iaload, 1) := by decide +kernel
theorem dX12_wantBlank_27 : decode cX12_wantBlank 27 = .ok (.bipush 32, 2) := by decide +kernel
theorem dX12_wantBlank_29 : decode cX12_wantBlank 29 = .ok (.if_icmp .le 12, 3) := by decide +kernel
theorem dX12_wantBlank_32 : decode cX12_wantBlank 32 = .ok (.aload_n 0, 1) := by decide +kernel
theorem dX12_wantBlank_33 : decode cX12_wantBlank 33 = .ok (.iconst 1, 1) := by decide +kernel
theorem dX12_wantBlank_34 : decode cX12_wantBlank 34 = .ok (.aload_n 0, 1) := by decide +kernel
theorem dX12_wantBlank_35 : decode cX12_wantBlank 35 = .ok (.getfield 147, 3) := by decide +kernel
theorem dX12_wantBlank_38 : decode cX12_wantBlank 38 = .ok (.invokevirtual 157, 3) := by decide +kernel
theorem dX12_wantBlank_41 : decode cX12_wantBlank 41 = .ok (.return_, 1) := by decide +kernel
theorem dX12_wantEnd_0 : decode cX12_wantEnd 0 = .ok (.aload_n 0, 1) := by decide +kernel
theorem dX12_wantEnd_1 : decode cX12_wantEnd 1 = .ok (.invokevirtual 281, 3) := by decide +kernel
theorem dX12_wantEnd_4 : decode cX12_wantEnd 4 = .ok (.aload_n 0, 1) := by decide +kernel
theorem dX12_wantEnd_5 : decode cX12_wantEnd 5 = .ok (.getfield 123, 3) := by decide +kernel
theorem dX12_wantEnd_8 : decode cX12_wantEnd 8 = .ok (.ifCond .ne 23, 3) := by decide +kernel
theorem dX12_wantEnd_11 : decode cX12_wantEnd 11 = .ok (.aload_n 0, 1) := by decide +kernel
theorem dX12_wantEnd_12 : decode cX12_wantEnd 12 = .ok (.getfield 147, 3) := by decide +kernel
theorem dX12_wantEnd_15 : decode cX12_wantEnd 15 = .ok (.aload_n 0, 1) := by decide +kernel
theorem dX12_wantEnd_16 : decode cX12_wantEnd 16 = .ok (.getfield 118, 3) := by decide +kernel
theorem dX12_wantEnd_19 : decode cX12_wantEnd 19 = .ok (.if_icmp .ge 12, 3) := by decide +kernel
theorem dX12_wantEnd_22 : decode cX12_wantEnd 22 = .ok (.aload_n 0, 1) := by decide +kernel
theorem dX12_wantEnd_23 : decode cX12_wantEnd 23 = .ok (.iconst 1, 1) := by decide +kernel
theorem dX12_wantEnd_24 : decode cX12_wantEnd 24 = .ok (.aload_n 0, 1) := by decide +kernel
theorem dX12_wantEnd_25 : decode cX12_wantEnd 25 = .ok (.getfield 147, 3) := by decide +kernel
theorem dX12_wantEnd_28 : decode cX12_wantEnd 28 = .ok (.invokevirtual 157, 3) := by decide +kernel
theorem dX12_wantEnd_31 : decode cX12_wantEnd 31 = .ok (.return_, 1) := by decide +kernel
theorem dX12_readPattern_0 : decode cX12_readPattern 0 = .ok (.aload_n 0, 1) := by decide +kernel
theorem dX12_readPattern_1 : decode cX12_readPattern 1 = .ok (.invokevirtual 281, 3) := by decide +kernel
theorem dX12_readPattern_4 : decode cX12_readPattern 4 = .ok (.aload_n 0, 1) := by decide +kernel
theorem dX12_readPattern_5 : decode cX12_readPattern 5 = .ok (.iconst 0, 1) := by decide +kernel
theorem dX12_readPattern_6 : decode cX12_readPattern 6 = .ok (.putfield 284, 3) := by decide +kernel
theorem dX12_readPattern_9 : decode cX12_readPattern 9 = .ok (.aload_n 0, 1) := by decide +kernel
theorem dX12_readPattern_10 : decode cX12_readPattern 10 = .ok (.getfield 147, 3) := by decide +kernel
theorem dX12_readPattern_13 : decode cX12_readPattern 13 = .ok (.aload_n 0, 1) := by decide +kernel
theorem dX12_readPattern_14 : decode cX12_readPattern 14 = .ok (.getfield 118, 3) := by decide +kernel
theorem dX12_readPattern_17 : decode cX12_readPattern 17 = .ok (.if_icmp .lt 12, 3) := by decide +kernel
theorem dX12_readPattern_20 : decode cX12_readPattern 20 = .ok (.aload_n 0, 1) := by decide +kernel
theorem dX12_readPattern_21 : decode cX12_readPattern 21 = .ok (.iconst 1, 1) := by decide +kernel
theorem dX12_readPattern_22 : decode cX12_readPattern 22 = .ok (.aload_n 0, 1) := by decide +kernel
theorem dX12_readPattern_23 : decode cX12_readPattern 23 = .ok (.getfield 147, 3) := by decide +kernel
theorem dX12_readPattern_26 : decode cX12_readPattern 26 = .ok (.invokevirtual 157, 3) := by decide +kernel
theorem dX12_readPattern_29 : decode cX12_readPattern 29 = .ok (.aload_n 0, 1) := by decide +kernel
theorem dX12_readPattern_30 : decode cX12_readPattern 30 = .ok (.getfield 123, 3) := by decide +kernel
theorem dX12_readPattern_33 : decode cX12_readPattern 33 = .ok (.ifCond .ne 123, 3) := by decide +kernel
theorem dX12_readPattern_36 : decode cX12_readPattern 36 = .ok (.aload_n 0, 1) := by decide +kernel
theorem dX12_readPattern_37 : decode cX12_readPattern 37 = .ok (.getfield 147, 3) := by decide +kernel
theorem dX12_readPattern_40 : decode cX12_readPattern 40 = .ok (.aload_n 0, 1) := by decide +kernel
theorem dX12_readPattern_41 : decode cX12_readPattern 41 = .ok (.getfield 118, 3) := by decide +kernel
theorem dX12_readPattern_44 : decode cX12_readPattern 44 = .ok (.if_icmp .ge 112, 3) := by decide +kernel
theorem dX12_readPattern_47 : decode cX12_readPattern 47 = .ok (.aload_n 0, 1) := by decide +kernel
theorem dX12_readPattern_48 : decode cX12_readPattern 48 = .ok (.getfield 7, 3) := by decide +kernel
theorem dX12_readPattern_51 : decode cX12_readPattern 51 = .ok (.aload_n 0, 1) := by decide +kernel
theorem dX12_readPattern_52 : decode cX12_readPattern 52 = .ok (.getfield 147, 3) := by decide +kernel
theorem dX12_readPattern_55 : decode cX12_readPattern 55 = .ok (.iaload, 1) := by decide +kernel
theorem dX12_readPattern_56 : decode cX12_readPattern 56 = .ok (.bipush 32, 2) := by decide +kernel
theorem dX12_readPattern_58 : decode cX12_readPattern 58 = .ok (.if_icmp .le 98, 3) := by decide +kernel
theorem dX12_readPattern_61 : decode cX12_readPattern 61 = .ok (.aload_n 0, 1) := by decide +kernel
theorem dX12_readPattern_62 : decode cX12_readPattern 62 = .ok (.getfield 7, 3) := by decide +kernel
theorem dX12_readPattern_65 : decode cX12_readPattern 65 = .ok (.aload_n 0, 1) := by decide +kernel
theorem dX12_readPattern_66 : decode cX12_readPattern 66 = .ok (.getfield 147, 3) := by decide +kernel
theorem dX12_readPattern_69 : decode cX12_readPattern 69 = .ok (.iaload, 1) := by decide +kernel
theorem dX12_readPattern_70 : decode cX12_readPattern 70 = .ok (.istore_n 1, 1) := by decide +kernel
theorem dX12_readPattern_71 : decode cX12_readPattern 71 = .ok (.iload_n 1, 1) := by decide +kernel
theorem dX12_readPattern_72 : decode cX12_readPattern 72 = .ok (.invokestatic 134, 3) := by decide +kernel
theorem dX12_readPattern_75 : decode cX12_readPattern 75 = .ok (.ifCond .ne 27, 3) := by decide +kernel
theorem dX12_readPattern_78 : decode cX12_readPattern 78 = .ok (.iload_n 1, 1) := by decide +kernel
theorem dX12_readPattern_79 : decode cX12_readPattern 79 = .ok (.bipush 42, 2) := by decide +kernel
theorem dX12_readPattern_81 : decode cX12_readPattern 81 = .ok (.if_icmp .eq 21, 3) := by decide +kernel
theorem dX12_readPattern_84 : decode cX12_readPattern 84 = .ok (.iload_n 1, 1) := by decide +kernel
theorem dX12_readPattern_85 : decode cX12_readPattern 85 = .ok (.bipush 63, 2) := by decide +kernel
theorem dX12_readPattern_87 : decode cX12_readPattern 87 = .ok (.if_icmp .eq 15, 3) := by decide +kernel
theorem dX12_readPattern_90 : decode cX12_readPattern 90 = .ok (.aload_n 0, 1) := by decide +kernel
theorem dX12_readPattern_91 : decode cX12_readPattern 91 = .ok (.iconst 1, 1) := by decide +kernel
theorem dX12_readPattern_92 : decode cX12_readPattern 92 = .ok (.aload_n 0, 1) := by decide +kernel
theorem dX12_readPattern_93 : decode cX12_readPattern 93 = .ok (.getfield 147, 3) := by decide +kernel
theorem dX12_readPattern_96 : decode cX12_readPattern 96 = .ok (.invokevirtual 157, 3) := by decide +kernel
theorem dX12_readPattern_99 : decode cX12_readPattern 99 = .ok (.goto 54, 3) := by decide +kernel
theorem dX12_readPattern_102 : decode cX12_readPattern 102 = .ok (.aload_n 0, 1) := by decide +kernel
theorem dX12_readPattern_103 : decode cX12_readPattern 103 = .ok (.getfield 284, 3) := by decide +kernel
theorem dX12_readPattern_106 : decode cX12_readPattern 106 = .ok (.bipush 12, 2) := by decide +kernel
theorem dX12_readPattern_108 : decode cX12_readPattern 108 = .ok (.if_icmp .ne 15, 3) := by decide +kernel
theorem dX12_readPattern_111 : decode cX12_readPattern 111 = .ok (.aload_n 0, 1) := by decide +kernel
theorem dX12_readPattern_112 : decode cX12_readPattern 112 = .ok (.iconst 3, 1) := by decide +kernel
theorem dX12_readPattern_113 : decode cX12_readPattern 113 = .ok (.aload_n 0, 1) := by decide +kernel
theorem dX12_readPattern_114 : decode cX12_readPattern 114 = .ok (.getfield 147, 3) := by decide +kernel
theorem dX12_readPattern_117 : decode cX12_readPattern 117 = .ok (.invokevirtual 157, 3) := by decide +kernel
theorem dX12_readPattern_120 : decode cX12_readPattern 120 = .ok (.goto 33, 3) := by decide +kernel
theorem dX12_readPattern_123 : decode cX12_readPattern 123 = .ok (.aload_n 0, 1) := by decide +kernel
theorem dX12_readPattern_124 : decode cX12_readPattern 124 = .ok (.getfield 70, 3) := by decide +kernel
theorem dX12_readPattern_127 : decode cX12_readPattern 127 = .ok (.aload_n 0, 1) := by decide +kernel
theorem dX12_readPattern_128 : decode cX12_readPattern 128 = .ok (.getfield 284, 3) := by decide +kernel
theorem dX12_readPattern_131 : decode cX12_readPattern 131 = .ok (.iload_n 1, 1) := by decide +kernel
theorem dX12_readPattern_132 : decode cX12_readPattern 132 = .ok (.iastore, 1) := by decide +kernel
theorem dX12_readPattern_133 : decode cX12_readPattern 133 = .ok (.aload_n 0, 1) := by decide +kernel
theorem dX12_readPattern_134 : decode cX12_readPattern 134 = .ok (.dup, 1) := by decide +kernel
theorem dX12_readPattern_135 : decode cX12_readPattern 135 = .ok (.getfield 284, 3) := by decide +kernel
theorem dX12_readPattern_138 : decode cX12_readPattern 138 = .ok (.iconst 1, 1) := by decide +kernel
theorem dX12_readPattern_139 : decode cX12_readPattern 139 = .ok (.iadd, 1) := by decide +kernel
theorem dX12_readPattern_140 : decode cX12_readPattern 140 = .ok (.putfield 284, 3) := by decide +kernel
theorem dX12_readPattern_143 : decode cX12_readPattern 143 = .ok (.aload_n 0, 1) := by decide +kernel
theorem dX12_readPattern_144 : decode cX12_readPattern 144 = .ok (.dup, 1) := by decide +kernel
theorem dX12_readPattern_145 : decode cX12_readPattern 145 = .ok (.getfield 147, 3) := by decide +kernel
theorem dX12_readPattern_148 : decode cX12_readPattern 148 = .ok (.iconst 1, 1) := by decide +kernel
theorem dX12_readPattern_149 : decode cX12_readPattern 149 = .ok (.iadd, 1) := by decide +kernel
theorem dX12_readPattern_150 : decode cX12_readPattern 150 = .ok (.putfield 147, 3) := by decide +kernel
theorem dX12_readPattern_153 : decode cX12_readPattern 153 = .ok (.goto (-124), 3) := by decide +kernel
theorem dX12_readPattern_156 : decode cX12_readPattern 156 = .ok (.return_, 1) := by decide +kernel
theorem dX12_smallNumber_0 : decode cX12_smallNumber 0 = .ok (.aload_n 0, 1) := by decide +kernel
theorem dX12_smallNumber_1 : decode cX12_smallNumber 1 = .ok (.invokevirtual 281, 3) := by decide +kernel
theorem dX12_smallNumber_4 : decode cX12_smallNumber 4 = .ok (.aload_n 0, 1) := by decide +kernel
theorem dX12_smallNumber_5 : decode cX12_smallNumber 5 = .ok (.getfield 147, 3) := by decide +kernel
theorem dX12_smallNumber_8 : decode cX12_smallNumber 8 = .ok (.istore_n 2, 1) := by decide +kernel
theorem dX12_smallNumber_9 : decode cX12_smallNumber 9 = .ok (.aload_n 0, 1) := by decide +kernel
theorem dX12_smallNumber_10 : decode cX12_smallNumber 10 = .ok (.aload_n 0, 1) := by decide +kernel
theorem dX12_smallNumber_11 : decode cX12_smallNumber 11 = .ok (.getfield 147, 3) := by decide +kernel
theorem dX12_smallNumber_14 : decode cX12_smallNumber 14 = .ok (.invokevirtual 130, 3) := by decide +kernel
theorem dX12_smallNumber_17 : decode cX12_smallNumber 17 = .ok (.invokestatic 181, 3) := by decide +kernel
theorem dX12_smallNumber_20 : decode cX12_smallNumber 20 = .ok (.ifCond .ne 14, 3) := by decide +kernel
theorem dX12_smallNumber_23 : decode cX12_smallNumber 23 = .ok (.aload_n 0, 1) := by decide +kernel
theorem dX12_smallNumber_24 : decode cX12_smallNumber 24 = .ok (.iconst 1, 1) := by decide +kernel
theorem dX12_smallNumber_25 : decode cX12_smallNumber 25 = .ok (.aload_n 0, 1) := by decide +kernel
theorem dX12_smallNumber_26 : decode cX12_smallNumber 26 = .ok (.getfield 147, 3) := by decide +kernel
theorem dX12_smallNumber_29 : decode cX12_smallNumber 29 = .ok (.invokevirtual 157, 3) := by decide +kernel
theorem dX12_smallNumber_32 : decode cX12_smallNumber 32 = .ok (.iconst 0, 1) := by decide +kernel
theorem dX12_smallNumber_33 : decode cX12_smallNumber 33 = .ok (.ireturn, 1) := by decide +kernel
theorem dX12_smallNumber_34 : decode cX12_smallNumber 34 = .ok (.iconst 0, 1) := by decide +kernel
theorem dX12_smallNumber_35 : decode cX12_smallNumber 35 = .ok (.istore_n 3, 1) := by decide +kernel
theorem dX12_smallNumber_36 : decode cX12_smallNumber 36 = .ok (.aload_n 0, 1) := by decide +kernel


theorem dX10_give_29 : decode cX10_give 29 = .ok (.getfield 93, 3) := by decide +kernel
theorem dX10_give_32 : decode cX10_give 32 = .ok (.bipush 48, 2) := by decide +kernel
theorem dX10_give_34 : decode cX10_give 34 = .ok (.iload_n 1, 1) := by decide +kernel
theorem dX10_give_35 : decode cX10_give 35 = .ok (.imul, 1) := by decide +kernel
theorem dX10_give_36 : decode cX10_give 36 = .ok (.iload_n 2, 1) := by decide +kernel
theorem dX10_give_37 : decode cX10_give 37 = .ok (.iadd, 1) := by decide +kernel
theorem dX10_give_38 : decode cX10_give 38 = .ok (.aload_n 0, 1) := by decide +kernel
theorem dX10_give_39 : decode cX10_give 39 = .ok (.getfield 87, 3) := by decide +kernel
theorem dX10_give_42 : decode cX10_give 42 = .ok (.iload_n 2, 1) := by decide +kernel
theorem dX10_give_43 : decode cX10_give 43 = .ok (.iaload, 1) := by decide +kernel
theorem dX10_give_44 : decode cX10_give 44 = .ok (.iastore, 1) := by decide +kernel
theorem dX10_give_45 : decode cX10_give 45 = .ok (.iinc 2 1, 3) := by decide +kernel
theorem dX10_give_48 : decode cX10_give 48 = .ok (.goto (-28), 3) := by decide +kernel
theorem dX10_give_51 : decode cX10_give 51 = .ok (.aload_n 0, 1) := by decide +kernel
theorem dX10_give_52 : decode cX10_give 52 = .ok (.getfield 90, 3) := by decide +kernel
theorem dX10_give_55 : decode cX10_give 55 = .ok (.iload_n 1, 1) := by decide +kernel
theorem dX10_give_56 : decode cX10_give 56 = .ok (.aload_n 0, 1) := by decide +kernel
theorem dX10_give_57 : decode cX10_give 57 = .ok (.getfield 209, 3) := by decide +kernel
theorem dX10_give_60 : decode cX10_give 60 = .ok (.iastore, 1) := by decide +kernel
theorem dX10_give_61 : decode cX10_give 61 = .ok (.aload_n 0, 1) := by decide +kernel
theorem dX10_give_62 : decode cX10_give 62 = .ok (.getfield 209, 3) := by decide +kernel
theorem dX10_give_65 : decode cX10_give 65 = .ok (.ireturn, 1) := by decide +kernel
theorem dX10_kept_0 : decode cX10_kept 0 = .ok (.iload_n 1, 1) := by decide +kernel
theorem dX10_kept_1 : decode cX10_kept 1 = .ok (.i2l, 1) := by decide +kernel
theorem dX10_kept_2 : decode cX10_kept 2 = .ok (.lconst 0, 1) := by decide +kernel
theorem dX10_kept_3 : decode cX10_kept 3 = .ok (.ldc2_w 180, 3) := by decide +kernel
theorem dX10_kept_6 : decode cX10_kept 6 = .ok (.invokestatic 131, 3) := by decide +kernel
theorem dX10_kept_9 : decode cX10_kept 9 = .ok (.ifCond .eq 15, 3) := by decide +kernel
theorem dX10_kept_12 : decode cX10_kept 12 = .ok (.iload_n 2, 1) := by decide +kernel
theorem dX10_kept_13 : decode cX10_kept 13 = .ok (.i2l, 1) := by decide +kernel
theorem dX10_kept_14 : decode cX10_kept 14 = .ok (.lconst 0, 1) := by decide +kernel
theorem dX10_kept_15 : decode cX10_kept 15 = .ok (.ldc2_w 242, 3) := by decide +kernel
theorem dX10_kept_18 : decode cX10_kept 18 = .ok (.invokestatic 131, 3) := by decide +kernel
theorem dX10_kept_21 : decode cX10_kept 21 = .ok (.ifCond .ne 5, 3) := by decide +kernel
theorem dX10_kept_24 : decode cX10_kept 24 = .ok (.iconst (-1), 1) := by decide +kernel
theorem dX10_kept_25 : decode cX10_kept 25 = .ok (.ireturn, 1) := by decide +kernel
theorem dX10_kept_26 : decode cX10_kept 26 = .ok (.iload_n 2, 1) := by decide +kernel
theorem dX10_kept_27 : decode cX10_kept 27 = .ok (.aload_n 0, 1) := by decide +kernel
theorem dX10_kept_28 : decode cX10_kept 28 = .ok (.getfield 90, 3) := by decide +kernel
theorem dX10_kept_31 : decode cX10_kept 31 = .ok (.iload_n 1, 1) := by decide +kernel
theorem dX10_kept_32 : decode cX10_kept 32 = .ok (.iaload, 1) := by decide +kernel
theorem dX10_kept_33 : decode cX10_kept 33 = .ok (.if_icmp .ge 17, 3) := by decide +kernel
theorem dX10_kept_36 : decode cX10_kept 36 = .ok (.aload_n 0, 1) := by decide +kernel
theorem dX10_kept_37 : decode cX10_kept 37 = .ok (.getfield 93, 3) := by decide +kernel
theorem dX10_kept_40 : decode cX10_kept 40 = .ok (.bipush 48, 2) := by decide +kernel
theorem dX10_kept_42 : decode cX10_kept 42 = .ok (.iload_n 1, 1) := by decide +kernel
theorem dX10_kept_43 : decode cX10_kept 43 = .ok (.imul, 1) := by decide +kernel
theorem dX10_kept_44 : decode cX10_kept 44 = .ok (.iload_n 2, 1) := by decide +kernel
theorem dX10_kept_45 : decode cX10_kept 45 = .ok (.iadd, 1) := by decide +kernel
theorem dX10_kept_46 : decode cX10_kept 46 = .ok (.iaload, 1) := by decide +kernel
theorem dX10_kept_47 : decode cX10_kept 47 = .ok (.goto 5, 3) := by decide +kernel
theorem dX10_kept_50 : decode cX10_kept 50 = .ok (.bipush (-4), 2) := by decide +kernel
theorem dX10_kept_52 : decode cX10_kept 52 = .ok (.ireturn, 1) := by decide +kernel
theorem dX10_torn_0 : decode cX10_torn 0 = .ok (.aload_n 0, 1) := by decide +kernel
theorem dX10_torn_1 : decode cX10_torn 1 = .ok (.getfield 90, 3) := by decide +kernel
theorem dX10_torn_4 : decode cX10_torn 4 = .ok (.iconst 0, 1) := by decide +kernel
theorem dX10_torn_5 : decode cX10_torn 5 = .ok (.iaload, 1) := by decide +kernel
theorem dX10_torn_6 : decode cX10_torn 6 = .ok (.aload_n 0, 1) := by decide +kernel
theorem dX10_torn_7 : decode cX10_torn 7 = .ok (.getfield 90, 3) := by decide +kernel
theorem dX10_torn_10 : decode cX10_torn 10 = .ok (.iconst 1, 1) := by decide +kernel
theorem dX10_torn_11 : decode cX10_torn 11 = .ok (.iaload, 1) := by decide +kernel
theorem dX10_torn_12 : decode cX10_torn 12 = .ok (.iadd, 1) := by decide +kernel
theorem dX10_torn_13 : decode cX10_torn 13 = .ok (.aload_n 0, 1) := by decide +kernel
theorem dX10_torn_14 : decode cX10_torn 14 = .ok (.getfield 90, 3) := by decide +kernel
theorem dX10_torn_17 : decode cX10_torn 17 = .ok (.iconst 2, 1) := by decide +kernel
theorem dX10_torn_18 : decode cX10_torn 18 = .ok (.iaload, 1) := by decide +kernel
theorem dX10_torn_19 : decode cX10_torn 19 = .ok (.iadd, 1) := by decide +kernel
theorem dX10_torn_20 : decode cX10_torn 20 = .ok (.ifCond .ne 6, 3) := by decide +kernel
theorem dX10_torn_23 : decode cX10_torn 23 = .ok (.bipush (-2), 2) := by decide +kernel
theorem dX10_torn_25 : decode cX10_torn 25 = .ok (.ireturn, 1) := by decide +kernel
theorem dX10_torn_26 : decode cX10_torn 26 = .ok (.aload_n 0, 1) := by decide +kernel
theorem dX10_torn_27 : decode cX10_torn 27 = .ok (.invokevirtual 229, 3) := by decide +kernel
theorem dX10_torn_30 : decode cX10_torn 30 = .ok (.iconst 0, 1) := by decide +kernel
theorem dX10_torn_31 : decode cX10_torn 31 = .ok (.istore_n 1, 1) := by decide +kernel
theorem dX10_torn_32 : decode cX10_torn 32 = .ok (.iload_n 1, 1) := by decide +kernel
theorem dX10_torn_33 : decode cX10_torn 33 = .ok (.aload_n 0, 1) := by decide +kernel
theorem dX10_torn_34 : decode cX10_torn 34 = .ok (.getfield 209, 3) := by decide +kernel
theorem dX10_torn_37 : decode cX10_torn 37 = .ok (.if_icmp .ge 19, 3) := by decide +kernel
theorem dX10_torn_40 : decode cX10_torn 40 = .ok (.aload_n 0, 1) := by decide +kernel
theorem dX10_torn_41 : decode cX10_torn 41 = .ok (.iload_n 1, 1) := by decide +kernel
theorem dX10_torn_42 : decode cX10_torn 42 = .ok (.invokevirtual 232, 3) := by decide +kernel
theorem dX10_torn_45 : decode cX10_torn 45 = .ok (.ifCond .ne 5, 3) := by decide +kernel
theorem dX10_torn_48 : decode cX10_torn 48 = .ok (.iload_n 1, 1) := by decide +kernel
theorem dX10_torn_49 : decode cX10_torn 49 = .ok (.ireturn, 1) := by decide +kernel
theorem dX10_torn_50 : decode cX10_torn 50 = .ok (.iinc 1 1, 3) := by decide +kernel
theorem dX10_torn_53 : decode cX10_torn 53 = .ok (.goto (-21), 3) := by decide +kernel
theorem dX10_torn_56 : decode cX10_torn 56 = .ok (.bipush (-4), 2) := by decide +kernel
theorem dX10_torn_58 : decode cX10_torn 58 = .ok (.ireturn, 1) := by decide +kernel
theorem dX10_differs_0 : decode cX10_differs 0 = .ok (.aload_n 0, 1) := by decide +kernel
theorem dX10_differs_1 : decode cX10_differs 1 = .ok (.invokevirtual 200, 3) := by decide +kernel
theorem dX10_differs_4 : decode cX10_differs 4 = .ok (.aload_n 0, 1) := by decide +kernel
theorem dX10_differs_5 : decode cX10_differs 5 = .ok (.getfield 209, 3) := by decide +kernel
theorem dX10_differs_8 : decode cX10_differs 8 = .ok (.iconst 1, 1) := by decide +kernel
theorem dX10_differs_9 : decode cX10_differs 9 = .ok (.isub, 1) := by decide +kernel
theorem dX10_differs_10 : decode cX10_differs 10 = .ok (.istore_n 1, 1) := by decide +kernel
theorem dX10_differs_11 : decode cX10_differs 11 = .ok (.iload_n 1, 1) := by decide +kernel
theorem dX10_differs_12 : decode cX10_differs 12 = .ok (.ifCond .lt 65, 3) := by decide +kernel
theorem dX10_differs_15 : decode cX10_differs 15 = .ok (.aload_n 0, 1) := by decide +kernel
theorem dX10_differs_16 : decode cX10_differs 16 = .ok (.getfield 78, 3) := by decide +kernel
theorem dX10_differs_19 : decode cX10_differs 19 = .ok (.iload_n 1, 1) := by decide +kernel
theorem dX10_differs_20 : decode cX10_differs 20 = .ok (.iaload, 1) := by decide +kernel
theorem dX10_differs_21 : decode cX10_differs 21 = .ok (.ifCond .ne 23, 3) := by decide +kernel
theorem dX10_differs_24 : decode cX10_differs 24 = .ok (.aload_n 0, 1) := by decide +kernel
theorem dX10_differs_25 : decode cX10_differs 25 = .ok (.getfield 63, 3) := by decide +kernel
theorem dX10_differs_28 : decode cX10_differs 28 = .ok (.aload_n 0, 1) := by decide +kernel
theorem dX10_differs_29 : decode cX10_differs 29 = .ok (.getfield 81, 3) := by decide +kernel
theorem dX10_differs_32 : decode cX10_differs 32 = .ok (.iload_n 1, 1) := by decide +kernel
theorem dX10_differs_33 : decode cX10_differs 33 = .ok (.iaload, 1) := by decide +kernel
theorem dX10_differs_34 : decode cX10_differs 34 = .ok (.aload_n 0, 1) := by decide +kernel
theorem dX10_differs_35 : decode cX10_differs 35 = .ok (.getfield 84, 3) := by decide +kernel
theorem dX10_differs_38 : decode cX10_differs 38 = .ok (.iload_n 1, 1) := by decide +kernel
theorem dX10_differs_39 : decode cX10_differs 39 = .ok (.iaload, 1) := by decide +kernel
theorem dX10_differs_40 : decode cX10_differs 40 = .ok (.iastore, 1) := by decide +kernel
theorem dX10_differs_41 : decode cX10_differs 41 = .ok (.goto 30, 3) := by decide +kernel
theorem dX10_differs_44 : decode cX10_differs 44 = .ok (.aload_n 0, 1) := by decide +kernel
theorem dX10_differs_45 : decode cX10_differs 45 = .ok (.getfield 78, 3) := by decide +kernel
theorem dX10_differs_48 : decode cX10_differs 48 = .ok (.iload_n 1, 1) := by decide +kernel
theorem dX10_differs_49 : decode cX10_differs 49 = .ok (.iaload, 1) := by decide +kernel
theorem dX10_differs_50 : decode cX10_differs 50 = .ok (.iconst 3, 1) := by decide +kernel
theorem dX10_differs_51 : decode cX10_differs 51 = .ok (.if_icmp .ne 20, 3) := by decide +kernel
theorem dX10_differs_54 : decode cX10_differs 54 = .ok (.aload_n 0, 1) := by decide +kernel
theorem dX10_differs_55 : decode cX10_differs 55 = .ok (.getfield 66, 3) := by decide +kernel
theorem dX10_differs_58 : decode cX10_differs 58 = .ok (.aload_n 0, 1) := by decide +kernel
theorem dX10_differs_59 : decode cX10_differs 59 = .ok (.getfield 81, 3) := by decide +kernel
theorem dX10_differs_62 : decode cX10_differs 62 = .ok (.iload_n 1, 1) := by decide +kernel
theorem dX10_differs_63 : decode cX10_differs 63 = .ok (.iaload, 1) := by decide +kernel
theorem dX10_differs_64 : decode cX10_differs 64 = .ok (.aload_n 0, 1) := by decide +kernel
theorem dX10_differs_65 : decode cX10_differs 65 = .ok (.getfield 84, 3) := by decide +kernel
theorem dX10_differs_68 : decode cX10_differs 68 = .ok (.iload_n 1, 1) := by decide +kernel
theorem dX10_differs_69 : decode cX10_differs 69 = .ok (.iaload, 1) := by decide +kernel
theorem dX10_differs_70 : decode cX10_differs 70 = .ok (.iastore, 1) := by decide +kernel
theorem dX10_differs_71 : decode cX10_differs 71 = .ok (.iinc 1 (-1), 3) := by decide +kernel
theorem dX10_differs_74 : decode cX10_differs 74 = .ok (.goto (-63), 3) := by decide +kernel
theorem dX10_differs_77 : decode cX10_differs 77 = .ok (.aload_n 0, 1) := by decide +kernel
theorem dX10_differs_78 : decode cX10_differs 78 = .ok (.iconst 0, 1) := by decide +kernel
theorem dX10_differs_79 : decode cX10_differs 79 = .ok (.iconst 0, 1) := by decide +kernel
theorem dX10_differs_80 : decode cX10_differs 80 = .ok (.invokevirtual 203, 3) := by decide +kernel
theorem dX10_differs_83 : decode cX10_differs 83 = .ok (.iconst 0, 1) := by decide +kernel
theorem dX10_differs_84 : decode cX10_differs 84 = .ok (.istore_n 1, 1) := by decide +kernel
theorem dX10_differs_85 : decode cX10_differs 85 = .ok (.iload_n 1, 1) := by decide +kernel
theorem dX10_differs_86 : decode cX10_differs 86 = .ok (.aload_n 0, 1) := by decide +kernel
theorem dX10_differs_87 : decode cX10_differs 87 = .ok (.getfield 209, 3) := by decide +kernel
theorem dX10_differs_90 : decode cX10_differs 90 = .ok (.if_icmp .ge 94, 3) := by decide +kernel
theorem dX10_differs_93 : decode cX10_differs 93 = .ok (.aload_n 0, 1) := by decide +kernel
theorem dX10_differs_94 : decode cX10_differs 94 = .ok (.getfield 81, 3) := by decide +kernel
theorem dX10_differs_97 : decode cX10_differs 97 = .ok (.iload_n 1, 1) := by decide +kernel
theorem dX10_differs_98 : decode cX10_differs 98 = .ok (.iaload, 1) := by decide +kernel
theorem dX10_differs_99 : decode cX10_differs 99 = .ok (.istore_n 2, 1) := by decide +kernel
theorem dX10_differs_100 : decode cX10_differs 100 = .ok (.aload_n 0, 1) := by decide +kernel
theorem dX10_differs_101 : decode cX10_differs 101 = .ok (.getfield 78, 3) := by decide +kernel
theorem dX10_differs_104 : decode cX10_differs 104 = .ok (.iload_n 1, 1) := by decide +kernel
theorem dX10_differs_105 : decode cX10_differs 105 = .ok (.iaload, 1) := by decide +kernel
theorem dX10_differs_106 : decode cX10_differs 106 = .ok (.iconst 1, 1) := by decide +kernel
theorem dX10_differs_107 : decode cX10_differs 107 = .ok (.if_icmp .ne 30, 3) := by decide +kernel
theorem dX10_differs_110 : decode cX10_differs 110 = .ok (.iload_n 2, 1) := by decide +kernel
theorem dX10_differs_111 : decode cX10_differs 111 = .ok (.aload_n 0, 1) := by decide +kernel
theorem dX10_differs_112 : decode cX10_differs 112 = .ok (.getfield 50, 3) := by decide +kernel
theorem dX10_differs_115 : decode cX10_differs 115 = .ok (.if_icmp .ge 22, 3) := by decide +kernel
theorem dX10_differs_118 : decode cX10_differs 118 = .ok (.aload_n 0, 1) := by decide +kernel
theorem dX10_differs_119 : decode cX10_differs 119 = .ok (.getfield 84, 3) := by decide +kernel
theorem dX10_differs_122 : decode cX10_differs 122 = .ok (.iload_n 1, 1) := by decide +kernel
theorem dX10_differs_123 : decode cX10_differs 123 = .ok (.iaload, 1) := by decide +kernel
theorem dX10_differs_124 : decode cX10_differs 124 = .ok (.aload_n 0, 1) := by decide +kernel
theorem dX10_differs_125 : decode cX10_differs 125 = .ok (.getfield 72, 3) := by decide +kernel
theorem dX10_differs_128 : decode cX10_differs 128 = .ok (.iload_n 2, 1) := by decide +kernel
theorem dX10_differs_129 : decode cX10_differs 129 = .ok (.iaload, 1) := by decide +kernel
theorem dX10_differs_130 : decode cX10_differs 130 = .ok (.if_icmp .eq 7, 3) := by decide +kernel
theorem dX10_differs_133 : decode cX10_differs 133 = .ok (.iconst 1, 1) := by decide +kernel
theorem dX10_differs_134 : decode cX10_differs 134 = .ok (.goto 4, 3) := by decide +kernel
theorem dX10_differs_137 : decode cX10_differs 137 = .ok (.iconst 0, 1) := by decide +kernel
theorem dX10_differs_138 : decode cX10_differs 138 = .ok (.istore_n 3, 1) := by decide +kernel
theorem dX10_differs_139 : decode cX10_differs 139 = .ok (.iload_n 3, 1) := by decide +kernel
theorem dX10_differs_140 : decode cX10_differs 140 = .ok (.ifCond .ne 36, 3) := by decide +kernel
theorem dX10_differs_143 : decode cX10_differs 143 = .ok (.aload_n 0, 1) := by decide +kernel
theorem dX10_differs_144 : decode cX10_differs 144 = .ok (.getfield 78, 3) := by decide +kernel
theorem dX10_differs_147 : decode cX10_differs 147 = .ok (.iload_n 1, 1) := by decide +kernel
theorem dX10_differs_148 : decode cX10_differs 148 = .ok (.iaload, 1) := by decide +kernel
theorem dX10_differs_149 : decode cX10_differs 149 = .ok (.iconst 2, 1) := by decide +kernel
theorem dX10_differs_150 : decode cX10_differs 150 = .ok (.if_icmp .ne 28, 3) := by decide +kernel
theorem dX10_differs_153 : decode cX10_differs 153 = .ok (.iload_n 2, 1) := by decide +kernel
theorem dX10_differs_154 : decode cX10_differs 154 = .ok (.aload_n 0, 1) := by decide +kernel
theorem dX10_differs_155 : decode cX10_differs 155 = .ok (.getfield 50, 3) := by decide +kernel
theorem dX10_differs_158 : decode cX10_differs 158 = .ok (.if_icmp .ge 20, 3) := by decide +kernel
theorem dX10_differs_161 : decode cX10_differs 161 = .ok (.aload_n 0, 1) := by decide +kernel
theorem dX10_differs_162 : decode cX10_differs 162 = .ok (.getfield 84, 3) := by decide +kernel
theorem dX10_differs_165 : decode cX10_differs 165 = .ok (.iload_n 1, 1) := by decide +kernel
theorem dX10_differs_166 : decode cX10_differs 166 = .ok (.iaload, 1) := by decide +kernel
theorem dX10_differs_167 : decode cX10_differs 167 = .ok (.aload_n 0, 1) := by decide +kernel
theorem dX10_differs_168 : decode cX10_differs 168 = .ok (.getfield 75, 3) := by decide +kernel
theorem dX10_differs_171 : decode cX10_differs 171 = .ok (.iload_n 2, 1) := by decide +kernel
theorem dX10_differs_172 : decode cX10_differs 172 = .ok (.iaload, 1) := by decide +kernel
theorem dX10_differs_173 : decode cX10_differs 173 = .ok (.if_icmp .eq 5, 3) := by decide +kernel
theorem dX10_differs_176 : decode cX10_differs 176 = .ok (.iload_n 1, 1) := by decide +kernel
theorem dX10_differs_177 : decode cX10_differs 177 = .ok (.ireturn, 1) := by decide +kernel
theorem dX10_differs_178 : decode cX10_differs 178 = .ok (.iinc 1 1, 3) := by decide +kernel
theorem dX10_differs_181 : decode cX10_differs 181 = .ok (.goto (-96), 3) := by decide +kernel
theorem dX10_differs_184 : decode cX10_differs 184 = .ok (.bipush (-4), 2) := by decide +kernel
theorem dX10_differs_186 : decode cX10_differs 186 = .ok (.ireturn, 1) := by decide +kernel
theorem dX10_count_0 : decode cX10_count 0 = .ok (.iconst 0, 1) := by decide +kernel
theorem dX10_count_1 : decode cX10_count 1 = .ok (.istore_n 2, 1) := by decide +kernel
theorem dX10_count_2 : decode cX10_count 2 = .ok (.iconst 0, 1) := by decide +kernel
theorem dX10_count_3 : decode cX10_count 3 = .ok (.istore_n 3, 1) := by decide +kernel
theorem dX10_count_4 : decode cX10_count 4 = .ok (.iload_n 3, 1) := by decide +kernel
theorem dX10_count_5 : decode cX10_count 5 = .ok (.aload_n 0, 1) := by decide +kernel
theorem dX10_count_6 : decode cX10_count 6 = .ok (.getfield 209, 3) := by decide +kernel
theorem dX10_count_9 : decode cX10_count 9 = .ok (.if_icmp .ge 27, 3) := by decide +kernel
theorem dX10_count_12 : decode cX10_count 12 = .ok (.iload_n 2, 1) := by decide +kernel
theorem dX10_count_13 : decode cX10_count 13 = .ok (.aload_n 0, 1) := by decide +kernel
theorem dX10_count_14 : decode cX10_count 14 = .ok (.getfield 78, 3) := by decide +kernel
theorem dX10_count_17 : decode cX10_count 17 = .ok (.iload_n 3, 1) := by decide +kernel
theorem dX10_count_18 : decode cX10_count 18 = .ok (.iaload, 1) := by decide +kernel
theorem dX10_count_19 : decode cX10_count 19 = .ok (.iconst 5, 1) := by decide +kernel
theorem dX10_count_20 : decode cX10_count 20 = .ok (.if_icmp .ne 7, 3) := by decide +kernel
theorem dX10_count_23 : decode cX10_count 23 = .ok (.iconst 1, 1) := by decide +kernel
theorem dX10_count_24 : decode cX10_count 24 = .ok (.goto 4, 3) := by decide +kernel
theorem dX10_count_27 : decode cX10_count 27 = .ok (.iconst 0, 1) := by decide +kernel
theorem dX10_count_28 : decode cX10_count 28 = .ok (.iadd, 1) := by decide +kernel
theorem dX10_count_29 : decode cX10_count 29 = .ok (.istore_n 2, 1) := by decide +kernel
theorem dX10_count_30 : decode cX10_count 30 = .ok (.iinc 3 1, 3) := by decide +kernel
theorem dX10_count_33 : decode cX10_count 33 = .ok (.goto (-29), 3) := by decide +kernel
theorem dX10_count_36 : decode cX10_count 36 = .ok (.iload_n 1, 1) := by decide +kernel
theorem dX10_count_37 : decode cX10_count 37 = .ok (.tableswitch 70 0 5 #[39, 44, 51, 58, 63, 65], 39) := by decide +kernel
theorem dX10_count_76 : decode cX10_count 76 = .ok (.aload_n 0, 1) := by decide +kernel
theorem dX10_count_77 : decode cX10_count 77 = .ok (.getfield 50, 3) := by decide +kernel
theorem dX10_count_80 : decode cX10_count 80 = .ok (.ireturn, 1) := by decide +kernel
theorem dX10_count_81 : decode cX10_count 81 = .ok (.aload_n 0, 1) := by decide +kernel
theorem dX10_count_82 : decode cX10_count 82 = .ok (.getfield 23, 3) := by decide +kernel
theorem dX10_count_85 : decode cX10_count 85 = .ok (.iconst 0, 1) := by decide +kernel
theorem dX10_count_86 : decode cX10_count 86 = .ok (.iaload, 1) := by decide +kernel
theorem dX10_count_87 : decode cX10_count 87 = .ok (.ireturn, 1) := by decide +kernel
theorem dX10_count_88 : decode cX10_count 88 = .ok (.aload_n 0, 1) := by decide +kernel
theorem dX10_count_89 : decode cX10_count 89 = .ok (.getfield 23, 3) := by decide +kernel
theorem dX10_count_92 : decode cX10_count 92 = .ok (.iconst 1, 1) := by decide +kernel
theorem dX10_count_93 : decode cX10_count 93 = .ok (.iaload, 1) := by decide +kernel
theorem dX10_count_94 : decode cX10_count 94 = .ok (.ireturn, 1) := by decide +kernel
theorem dX10_count_95 : decode cX10_count 95 = .ok (.aload_n 0, 1) := by decide +kernel
theorem dX10_count_96 : decode cX10_count 96 = .ok (.getfield 209, 3) := by decide +kernel
theorem dX10_count_99 : decode cX10_count 99 = .ok (.ireturn, 1) := by decide +kernel
theorem dX10_count_100 : decode cX10_count 100 = .ok (.iload_n 2, 1) := by decide +kernel
theorem dX10_count_101 : decode cX10_count 101 = .ok (.ireturn, 1) := by decide +kernel
theorem dX10_count_102 : decode cX10_count 102 = .ok (.aload_n 0, 1) := by decide +kernel
theorem dX10_count_103 : decode cX10_count 103 = .ok (.getfield 244, 3) := by decide +kernel
theorem dX10_count_106 : decode cX10_count 106 = .ok (.ireturn, 1) := by decide +kernel
theorem dX10_count_107 : decode cX10_count 107 = .ok (.iconst (-1), 1) := by decide +kernel
theorem dX10_count_108 : decode cX10_count 108 = .ok (.ireturn, 1) := by decide +kernel
theorem dX10_comesBy_0 : decode cX10_comesBy 0 = .ok (.aload_n 0, 1) := by decide +kernel
theorem dX10_comesBy_1 : decode cX10_comesBy 1 = .ok (.invokevirtual 200, 3) := by decide +kernel
theorem dX10_comesBy_4 : decode cX10_comesBy 4 = .ok (.iconst 0, 1) := by decide +kernel
theorem dX10_comesBy_5 : decode cX10_comesBy 5 = .ok (.istore_n 3, 1) := by decide +kernel
theorem dX10_comesBy_6 : decode cX10_comesBy 6 = .ok (.iconst 0, 1) := by decide +kernel
theorem dX10_comesBy_7 : decode cX10_comesBy 7 = .ok (.istore 4, 2) := by decide +kernel
theorem dX10_comesBy_9 : decode cX10_comesBy 9 = .ok (.iload 4, 2) := by decide +kernel
theorem dX10_comesBy_11 : decode cX10_comesBy 11 = .ok (.aload_n 0, 1) := by decide +kernel
theorem dX10_comesBy_12 : decode cX10_comesBy 12 = .ok (.getfield 23, 3) := by decide +kernel
theorem dX10_comesBy_15 : decode cX10_comesBy 15 = .ok (.iconst 0, 1) := by decide +kernel
theorem dX10_comesBy_16 : decode cX10_comesBy 16 = .ok (.iaload, 1) := by decide +kernel
theorem dX10_comesBy_17 : decode cX10_comesBy 17 = .ok (.if_icmp .ge 35, 3) := by decide +kernel
theorem dX10_comesBy_20 : decode cX10_comesBy 20 = .ok (.iload_n 3, 1) := by decide +kernel
theorem dX10_comesBy_21 : decode cX10_comesBy 21 = .ok (.iload_n 2, 1) := by decide +kernel
theorem dX10_comesBy_22 : decode cX10_comesBy 22 = .ok (.aload_n 0, 1) := by decide +kernel
theorem dX10_comesBy_23 : decode cX10_comesBy 23 = .ok (.getfield 26, 3) := by decide +kernel
theorem dX10_comesBy_26 : decode cX10_comesBy 26 = .ok (.iload 4, 2) := by decide +kernel
theorem dX10_comesBy_28 : decode cX10_comesBy 28 = .ok (.iaload, 1) := by decide +kernel
theorem dX10_comesBy_29 : decode cX10_comesBy 29 = .ok (.ishr, 1) := by decide +kernel
theorem dX10_comesBy_30 : decode cX10_comesBy 30 = .ok (.iconst 1, 1) := by decide +kernel
theorem dX10_comesBy_31 : decode cX10_comesBy 31 = .ok (.iand, 1) := by decide +kernel
theorem dX10_comesBy_32 : decode cX10_comesBy 32 = .ok (.iconst 1, 1) := by decide +kernel
theorem dX10_comesBy_33 : decode cX10_comesBy 33 = .ok (.if_icmp .ne 7, 3) := by decide +kernel
theorem dX10_comesBy_36 : decode cX10_comesBy 36 = .ok (.iconst 0, 1) := by decide +kernel
theorem dX10_comesBy_37 : decode cX10_comesBy 37 = .ok (.goto 7, 3) := by decide +kernel
theorem dX10_comesBy_40 : decode cX10_comesBy 40 = .ok (.iconst 1, 1) := by decide +kernel
theorem dX10_comesBy_41 : decode cX10_comesBy 41 = .ok (.iload 4, 2) := by decide +kernel
theorem dX10_comesBy_43 : decode cX10_comesBy 43 = .ok (.ishl, 1) := by decide +kernel
theorem dX10_comesBy_44 : decode cX10_comesBy 44 = .ok (.ior, 1) := by decide +kernel
theorem dX10_comesBy_45 : decode cX10_comesBy 45 = .ok (.istore_n 3, 1) := by decide +kernel
theorem dX10_comesBy_46 : decode cX10_comesBy 46 = .ok (.iinc 4 1, 3) := by decide +kernel
theorem dX10_comesBy_49 : decode cX10_comesBy 49 = .ok (.goto (-40), 3) := by decide +kernel
theorem dX10_comesBy_52 : decode cX10_comesBy 52 = .ok (.iconst 0, 1) := by decide +kernel
theorem dX10_comesBy_53 : decode cX10_comesBy 53 = .ok (.istore 4, 2) := by decide +kernel
theorem dX10_comesBy_55 : decode cX10_comesBy 55 = .ok (.iload 4, 2) := by decide +kernel
theorem dX10_comesBy_57 : decode cX10_comesBy 57 = .ok (.aload_n 0, 1) := by decide +kernel
theorem dX10_comesBy_58 : decode cX10_comesBy 58 = .ok (.getfield 244, 3) := by decide +kernel
theorem dX10_comesBy_61 : decode cX10_comesBy 61 = .ok (.if_icmp .ge 109, 3) := by decide +kernel
theorem dX10_comesBy_64 : decode cX10_comesBy 64 = .ok (.iload_n 1, 1) := by decide +kernel
theorem dX10_comesBy_65 : decode cX10_comesBy 65 = .ok (.iload 4, 2) := by decide +kernel
theorem dX10_comesBy_67 : decode cX10_comesBy 67 = .ok (.ishr, 1) := by decide +kernel
theorem dX10_comesBy_68 : decode cX10_comesBy 68 = .ok (.iconst 1, 1) := by decide +kernel
theorem dX10_comesBy_69 : decode cX10_comesBy 69 = .ok (.iand, 1) := by decide +kernel
theorem dX10_comesBy_70 : decode cX10_comesBy 70 = .ok (.iconst 1, 1) := by decide +kernel
theorem dX10_comesBy_71 : decode cX10_comesBy 71 = .ok (.if_icmp .ne 93, 3) := by decide +kernel
theorem dX10_comesBy_74 : decode cX10_comesBy 74 = .ok (.aload_n 0, 1) := by decide +kernel
theorem dX10_comesBy_75 : decode cX10_comesBy 75 = .ok (.getfield 99, 3) := by decide +kernel
theorem dX10_comesBy_78 : decode cX10_comesBy 78 = .ok (.iload 4, 2) := by decide +kernel
theorem dX10_comesBy_80 : decode cX10_comesBy 80 = .ok (.iaload, 1) := by decide +kernel
theorem dX10_comesBy_81 : decode cX10_comesBy 81 = .ok (.istore 5, 2) := by decide +kernel
theorem dX10_comesBy_83 : decode cX10_comesBy 83 = .ok (.aload_n 0, 1) := by decide +kernel
theorem dX10_comesBy_84 : decode cX10_comesBy 84 = .ok (.getfield 63, 3) := by decide +kernel
theorem dX10_comesBy_87 : decode cX10_comesBy 87 = .ok (.aload_n 0, 1) := by decide +kernel
theorem dX10_comesBy_88 : decode cX10_comesBy 88 = .ok (.getfield 102, 3) := by decide +kernel
theorem dX10_comesBy_91 : decode cX10_comesBy 91 = .ok (.iload 4, 2) := by decide +kernel
theorem dX10_comesBy_93 : decode cX10_comesBy 93 = .ok (.iaload, 1) := by decide +kernel
theorem dX10_comesBy_94 : decode cX10_comesBy 94 = .ok (.dup2, 1) := by decide +kernel
theorem dX10_comesBy_95 : decode cX10_comesBy 95 = .ok (.iaload, 1) := by decide +kernel
theorem dX10_comesBy_96 : decode cX10_comesBy 96 = .ok (.iload 5, 2) := by decide +kernel
theorem dX10_comesBy_98 : decode cX10_comesBy 98 = .ok (.ifCond .ne 15, 3) := by decide +kernel
theorem dX10_comesBy_101 : decode cX10_comesBy 101 = .ok (.iconst 1, 1) := by decide +kernel
theorem dX10_comesBy_102 : decode cX10_comesBy 102 = .ok (.aload_n 0, 1) := by decide +kernel
theorem dX10_comesBy_103 : decode cX10_comesBy 103 = .ok (.getfield 105, 3) := by decide +kernel
theorem dX10_comesBy_106 : decode cX10_comesBy 106 = .ok (.iload 4, 2) := by decide +kernel
theorem dX10_comesBy_108 : decode cX10_comesBy 108 = .ok (.iaload, 1) := by decide +kernel
theorem dX10_comesBy_109 : decode cX10_comesBy 109 = .ok (.ishl, 1) := by decide +kernel
theorem dX10_comesBy_110 : decode cX10_comesBy 110 = .ok (.goto 4, 3) := by decide +kernel
theorem dX10_comesBy_113 : decode cX10_comesBy 113 = .ok (.iconst 0, 1) := by decide +kernel
theorem dX10_comesBy_114 : decode cX10_comesBy 114 = .ok (.ixor, 1) := by decide +kernel
theorem dX10_comesBy_115 : decode cX10_comesBy 115 = .ok (.iastore, 1) := by decide +kernel
theorem dX10_comesBy_116 : decode cX10_comesBy 116 = .ok (.aload_n 0, 1) := by decide +kernel
theorem dX10_comesBy_117 : decode cX10_comesBy 117 = .ok (.getfield 66, 3) := by decide +kernel
theorem dX10_comesBy_120 : decode cX10_comesBy 120 = .ok (.aload_n 0, 1) := by decide +kernel
theorem dX10_comesBy_121 : decode cX10_comesBy 121 = .ok (.getfield 102, 3) := by decide +kernel
theorem dX10_comesBy_124 : decode cX10_comesBy 124 = .ok (.iload 4, 2) := by decide +kernel
theorem dX10_comesBy_126 : decode cX10_comesBy 126 = .ok (.iaload, 1) := by decide +kernel
theorem dX10_comesBy_127 : decode cX10_comesBy 127 = .ok (.dup2, 1) := by decide +kernel
theorem dX10_comesBy_128 : decode cX10_comesBy 128 = .ok (.iaload, 1) := by decide +kernel
theorem dX10_comesBy_129 : decode cX10_comesBy 129 = .ok (.iload 5, 2) := by decide +kernel
theorem dX10_comesBy_131 : decode cX10_comesBy 131 = .ok (.iconst 1, 1) := by decide +kernel
theorem dX10_comesBy_132 : decode cX10_comesBy 132 = .ok (.if_icmp .ne 7, 3) := by decide +kernel
theorem dX10_comesBy_135 : decode cX10_comesBy 135 = .ok (.iconst 1, 1) := by decide +kernel
theorem dX10_comesBy_136 : decode cX10_comesBy 136 = .ok (.goto 4, 3) := by decide +kernel
theorem dX10_comesBy_139 : decode cX10_comesBy 139 = .ok (.iconst 0, 1) := by decide +kernel
theorem dX10_comesBy_140 : decode cX10_comesBy 140 = .ok (.ixor, 1) := by decide +kernel
theorem dX10_comesBy_141 : decode cX10_comesBy 141 = .ok (.iastore, 1) := by decide +kernel
theorem dX10_comesBy_142 : decode cX10_comesBy 142 = .ok (.iload_n 3, 1) := by decide +kernel
theorem dX10_comesBy_143 : decode cX10_comesBy 143 = .ok (.iload 5, 2) := by decide +kernel
theorem dX10_comesBy_145 : decode cX10_comesBy 145 = .ok (.iconst 2, 1) := by decide +kernel
theorem dX10_comesBy_146 : decode cX10_comesBy 146 = .ok (.if_icmp .ne 15, 3) := by decide +kernel
theorem dX10_comesBy_149 : decode cX10_comesBy 149 = .ok (.iconst 1, 1) := by decide +kernel
theorem dX10_comesBy_150 : decode cX10_comesBy 150 = .ok (.aload_n 0, 1) := by decide +kernel
theorem dX10_comesBy_151 : decode cX10_comesBy 151 = .ok (.getfield 105, 3) := by decide +kernel
theorem dX10_comesBy_154 : decode cX10_comesBy 154 = .ok (.iload 4, 2) := by decide +kernel
theorem dX10_comesBy_156 : decode cX10_comesBy 156 = .ok (.iaload, 1) := by decide +kernel
theorem dX10_comesBy_157 : decode cX10_comesBy 157 = .ok (.ishl, 1) := by decide +kernel
theorem dX10_comesBy_158 : decode cX10_comesBy 158 = .ok (.goto 4, 3) := by decide +kernel
theorem dX10_comesBy_161 : decode cX10_comesBy 161 = .ok (.iconst 0, 1) := by decide +kernel
theorem dX10_comesBy_162 : decode cX10_comesBy 162 = .ok (.ior, 1) := by decide +kernel
theorem dX10_comesBy_163 : decode cX10_comesBy 163 = .ok (.istore_n 3, 1) := by decide +kernel
theorem dX10_comesBy_164 : decode cX10_comesBy 164 = .ok (.iinc 4 1, 3) := by decide +kernel
theorem dX10_comesBy_167 : decode cX10_comesBy 167 = .ok (.goto (-112), 3) := by decide +kernel
theorem dX10_comesBy_170 : decode cX10_comesBy 170 = .ok (.aload_n 0, 1) := by decide +kernel
theorem dX10_comesBy_171 : decode cX10_comesBy 171 = .ok (.iconst 0, 1) := by decide +kernel
theorem dX10_comesBy_172 : decode cX10_comesBy 172 = .ok (.iload_n 3, 1) := by decide +kernel
theorem dX10_comesBy_173 : decode cX10_comesBy 173 = .ok (.invokevirtual 203, 3) := by decide +kernel
theorem dX10_comesBy_176 : decode cX10_comesBy 176 = .ok (.aload_n 0, 1) := by decide +kernel
theorem dX10_comesBy_177 : decode cX10_comesBy 177 = .ok (.getfield 75, 3) := by decide +kernel
theorem dX10_comesBy_180 : decode cX10_comesBy 180 = .ok (.aload_n 0, 1) := by decide +kernel
theorem dX10_comesBy_181 : decode cX10_comesBy 181 = .ok (.getfield 96, 3) := by decide +kernel
theorem dX10_comesBy_184 : decode cX10_comesBy 184 = .ok (.iaload, 1) := by decide +kernel
theorem dX10_comesBy_185 : decode cX10_comesBy 185 = .ok (.aload_n 0, 1) := by decide +kernel
theorem dX10_comesBy_186 : decode cX10_comesBy 186 = .ok (.getfield 247, 3) := by decide +kernel
theorem dX10_comesBy_189 : decode cX10_comesBy 189 = .ok (.if_icmp .ne 7, 3) := by decide +kernel
theorem dX10_comesBy_192 : decode cX10_comesBy 192 = .ok (.iconst 1, 1) := by decide +kernel
theorem dX10_comesBy_193 : decode cX10_comesBy 193 = .ok (.goto 4, 3) := by decide +kernel
theorem dX10_comesBy_196 : decode cX10_comesBy 196 = .ok (.iconst 0, 1) := by decide +kernel
theorem dX10_comesBy_197 : decode cX10_comesBy 197 = .ok (.ireturn, 1) := by decide +kernel
theorem dX10_doing_0 : decode cX10_doing 0 = .ok (.iload_n 1, 1) := by decide +kernel
theorem dX10_doing_1 : decode cX10_doing 1 = .ok (.i2l, 1) := by decide +kernel
theorem dX10_doing_2 : decode cX10_doing 2 = .ok (.lconst 0, 1) := by decide +kernel
theorem dX10_doing_3 : decode cX10_doing 3 = .ok (.ldc2_w 207, 3) := by decide +kernel
theorem dX10_doing_6 : decode cX10_doing 6 = .ok (.invokestatic 131, 3) := by decide +kernel
theorem dX10_doing_9 : decode cX10_doing 9 = .ok (.ifCond .eq 11, 3) := by decide +kernel
theorem dX10_doing_12 : decode cX10_doing 12 = .ok (.aload_n 0, 1) := by decide +kernel
theorem dX10_doing_13 : decode cX10_doing 13 = .ok (.iload_n 2, 1) := by decide +kernel
theorem dX10_doing_14 : decode cX10_doing 14 = .ok (.invokevirtual 184, 3) := by decide +kernel
theorem dX10_doing_17 : decode cX10_doing 17 = .ok (.ifCond .ne 5, 3) := by decide +kernel
theorem dX10_doing_20 : decode cX10_doing 20 = .ok (.iconst (-1), 1) := by decide +kernel
theorem dX10_doing_21 : decode cX10_doing 21 = .ok (.ireturn, 1) := by decide +kernel
theorem dX10_doing_22 : decode cX10_doing 22 = .ok (.aload_n 0, 1) := by decide +kernel
theorem dX10_doing_23 : decode cX10_doing 23 = .ok (.iload_n 1, 1) := by decide +kernel
theorem dX10_doing_24 : decode cX10_doing 24 = .ok (.putfield 247, 3) := by decide +kernel
theorem dX10_doing_27 : decode cX10_doing 27 = .ok (.aload_n 0, 1) := by decide +kernel
theorem dX10_doing_28 : decode cX10_doing 28 = .ok (.iload_n 2, 1) := by decide +kernel
theorem dX10_doing_29 : decode cX10_doing 29 = .ok (.putfield 96, 3) := by decide +kernel
theorem dX10_doing_32 : decode cX10_doing 32 = .ok (.aload_n 0, 1) := by decide +kernel
theorem dX10_doing_33 : decode cX10_doing 33 = .ok (.iconst 0, 1) := by decide +kernel
theorem dX10_doing_34 : decode cX10_doing 34 = .ok (.bipush 15, 2) := by decide +kernel
theorem dX10_doing_36 : decode cX10_doing 36 = .ok (.invokevirtual 250, 3) := by decide +kernel
theorem dX10_doing_39 : decode cX10_doing 39 = .ok (.ifCond .eq 7, 3) := by decide +kernel
theorem dX10_doing_42 : decode cX10_doing 42 = .ok (.iconst 1, 1) := by decide +kernel
theorem dX10_doing_43 : decode cX10_doing 43 = .ok (.goto 4, 3) := by decide +kernel
theorem dX10_doing_46 : decode cX10_doing 46 = .ok (.iconst 0, 1) := by decide +kernel
theorem dX10_doing_47 : decode cX10_doing 47 = .ok (.ireturn, 1) := by decide +kernel
theorem dX10_thing_0 : decode cX10_thing 0 = .ok (.iload_n 1, 1) := by decide +kernel
theorem dX10_thing_1 : decode cX10_thing 1 = .ok (.i2l, 1) := by decide +kernel
theorem dX10_thing_2 : decode cX10_thing 2 = .ok (.lconst 0, 1) := by decide +kernel
theorem dX10_thing_3 : decode cX10_thing 3 = .ok (.ldc2_w 180, 3) := by decide +kernel
theorem dX10_thing_6 : decode cX10_thing 6 = .ok (.invokestatic 131, 3) := by decide +kernel
theorem dX10_thing_9 : decode cX10_thing 9 = .ok (.ifCond .eq 59, 3) := by decide +kernel
theorem dX10_thing_12 : decode cX10_thing 12 = .ok (.iload_n 2, 1) := by decide +kernel
theorem dX10_thing_13 : decode cX10_thing 13 = .ok (.i2l, 1) := by decide +kernel
theorem dX10_thing_14 : decode cX10_thing 14 = .ok (.lconst 0, 1) := by decide +kernel
theorem dX10_thing_15 : decode cX10_thing 15 = .ok (.iload_n 1, 1) := by decide +kernel
theorem dX10_thing_16 : decode cX10_thing 16 = .ok (.iconst 2, 1) := by decide +kernel
theorem dX10_thing_17 : decode cX10_thing 17 = .ok (.if_icmp .ne 7, 3) := by decide +kernel
theorem dX10_thing_20 : decode cX10_thing 20 = .ok (.lconst 0, 1) := by decide +kernel
theorem dX10_thing_21 : decode cX10_thing 21 = .ok (.goto 6, 3) := by decide +kernel
theorem dX10_thing_24 : decode cX10_thing 24 = .ok (.ldc2_w 220, 3) := by decide +kernel
theorem dX10_thing_27 : decode cX10_thing 27 = .ok (.invokestatic 131, 3) := by decide +kernel
theorem dX10_thing_30 : decode cX10_thing 30 = .ok (.ifCond .eq 38, 3) := by decide +kernel
theorem dX10_thing_33 : decode cX10_thing 33 = .ok (.iload_n 3, 1) := by decide +kernel
theorem dX10_thing_34 : decode cX10_thing 34 = .ok (.i2l, 1) := by decide +kernel
theorem dX10_thing_35 : decode cX10_thing 35 = .ok (.lconst 0, 1) := by decide +kernel
theorem dX10_thing_36 : decode cX10_thing 36 = .ok (.iload_n 1, 1) := by decide +kernel
theorem dX10_thing_37 : decode cX10_thing 37 = .ok (.ifCond .ne 9, 3) := by decide +kernel
theorem dX10_thing_40 : decode cX10_thing 40 = .ok (.ldc2_w 207, 3) := by decide +kernel
theorem dX10_thing_43 : decode cX10_thing 43 = .ok (.goto 15, 3) := by decide +kernel
theorem dX10_thing_46 : decode cX10_thing 46 = .ok (.iload_n 1, 1) := by decide +kernel
theorem dX10_thing_47 : decode cX10_thing 47 = .ok (.iconst 1, 1) := by decide +kernel
theorem dX10_thing_48 : decode cX10_thing 48 = .ok (.if_icmp .ne 7, 3) := by decide +kernel
theorem dX10_thing_51 : decode cX10_thing 51 = .ok (.lconst 0, 1) := by decide +kernel
theorem dX10_thing_52 : decode cX10_thing 52 = .ok (.goto 6, 3) := by decide +kernel
theorem dX10_thing_55 : decode cX10_thing 55 = .ok (.ldc2_w 254, 3) := by decide +kernel
theorem dX10_thing_58 : decode cX10_thing 58 = .ok (.invokestatic 131, 3) := by decide +kernel
theorem dX10_thing_61 : decode cX10_thing 61 = .ok (.ifCond .eq 7, 3) := by decide +kernel
theorem dX10_thing_64 : decode cX10_thing 64 = .ok (.iconst 1, 1) := by decide +kernel
theorem dX10_thing_65 : decode cX10_thing 65 = .ok (.goto 4, 3) := by decide +kernel
theorem dX10_thing_68 : decode cX10_thing 68 = .ok (.iconst 0, 1) := by decide +kernel
theorem dX10_thing_69 : decode cX10_thing 69 = .ok (.istore 4, 2) := by decide +kernel
theorem dX10_thing_71 : decode cX10_thing 71 = .ok (.iload 4, 2) := by decide +kernel
theorem dX10_thing_73 : decode cX10_thing 73 = .ok (.ifCond .ne 5, 3) := by decide +kernel
theorem dX10_thing_76 : decode cX10_thing 76 = .ok (.iconst (-1), 1) := by decide +kernel
theorem dX10_thing_77 : decode cX10_thing 77 = .ok (.ireturn, 1) := by decide +kernel
theorem dX10_thing_78 : decode cX10_thing 78 = .ok (.iconst 0, 1) := by decide +kernel
theorem dX10_thing_79 : decode cX10_thing 79 = .ok (.istore 5, 2) := by decide +kernel
theorem dX10_thing_81 : decode cX10_thing 81 = .ok (.iload 5, 2) := by decide +kernel
theorem dX10_thing_83 : decode cX10_thing 83 = .ok (.aload_n 0, 1) := by decide +kernel
theorem dX10_thing_84 : decode cX10_thing 84 = .ok (.getfield 244, 3) := by decide +kernel
theorem dX10_thing_87 : decode cX10_thing 87 = .ok (.if_icmp .ge 45, 3) := by decide +kernel
theorem dX10_thing_90 : decode cX10_thing 90 = .ok (.aload_n 0, 1) := by decide +kernel
theorem dX10_thing_91 : decode cX10_thing 91 = .ok (.getfield 99, 3) := by decide +kernel
theorem dX10_thing_94 : decode cX10_thing 94 = .ok (.iload 5, 2) := by decide +kernel
theorem dX10_thing_96 : decode cX10_thing 96 = .ok (.iaload, 1) := by decide +kernel
theorem dX10_thing_97 : decode cX10_thing 97 = .ok (.iload_n 1, 1) := by decide +kernel
theorem dX10_thing_98 : decode cX10_thing 98 = .ok (.if_icmp .ne 28, 3) := by decide +kernel
theorem dX10_thing_101 : decode cX10_thing 101 = .ok (.aload_n 0, 1) := by decide +kernel
theorem dX10_thing_102 : decode cX10_thing 102 = .ok (.getfield 102, 3) := by decide +kernel
theorem dX10_thing_105 : decode cX10_thing 105 = .ok (.iload 5, 2) := by decide +kernel
theorem dX10_thing_107 : decode cX10_thing 107 = .ok (.iaload, 1) := by decide +kernel
theorem dX10_thing_108 : decode cX10_thing 108 = .ok (.iload_n 2, 1) := by decide +kernel
theorem dX10_thing_109 : decode cX10_thing 109 = .ok (.if_icmp .ne 17, 3) := by decide +kernel
theorem dX10_thing_112 : decode cX10_thing 112 = .ok (.aload_n 0, 1) := by decide +kernel
theorem dX10_thing_113 : decode cX10_thing 113 = .ok (.getfield 105, 3) := by decide +kernel
theorem dX10_thing_116 : decode cX10_thing 116 = .ok (.iload 5, 2) := by decide +kernel
theorem dX10_thing_118 : decode cX10_thing 118 = .ok (.iaload, 1) := by decide +kernel
theorem dX10_thing_119 : decode cX10_thing 119 = .ok (.iload_n 3, 1) := by decide +kernel
theorem dX10_thing_120 : decode cX10_thing 120 = .ok (.if_icmp .ne 6, 3) := by decide +kernel
theorem dX10_thing_123 : decode cX10_thing 123 = .ok (.bipush (-2), 2) := by decide +kernel
theorem dX10_thing_125 : decode cX10_thing 125 = .ok (.ireturn, 1) := by decide +kernel
theorem dX10_thing_126 : decode cX10_thing 126 = .ok (.iinc 5 1, 3) := by decide +kernel
theorem dX10_thing_129 : decode cX10_thing 129 = .ok (.goto (-48), 3) := by decide +kernel
theorem dX10_thing_132 : decode cX10_thing 132 = .ok (.aload_n 0, 1) := by decide +kernel
theorem dX10_thing_133 : decode cX10_thing 133 = .ok (.getfield 244, 3) := by decide +kernel
theorem dX10_thing_136 : decode cX10_thing 136 = .ok (.bipush 6, 2) := by decide +kernel
theorem dX10_thing_138 : decode cX10_thing 138 = .ok (.if_icmp .ne 6, 3) := by decide +kernel
theorem dX10_thing_141 : decode cX10_thing 141 = .ok (.bipush (-3), 2) := by decide +kernel
theorem dX10_thing_143 : decode cX10_thing 143 = .ok (.ireturn, 1) := by decide +kernel
theorem dX10_thing_144 : decode cX10_thing 144 = .ok (.aload_n 0, 1) := by decide +kernel
theorem dX10_thing_145 : decode cX10_thing 145 = .ok (.getfield 99, 3) := by decide +kernel
theorem dX10_thing_148 : decode cX10_thing 148 = .ok (.aload_n 0, 1) := by decide +kernel
theorem dX10_thing_149 : decode cX10_thing 149 = .ok (.getfield 244, 3) := by decide +kernel
theorem dX10_thing_152 : decode cX10_thing 152 = .ok (.iload_n 1, 1) := by decide +kernel
theorem dX10_thing_153 : decode cX10_thing 153 = .ok (.iastore, 1) := by decide +kernel
theorem dX10_thing_154 : decode cX10_thing 154 = .ok (.aload_n 0, 1) := by decide +kernel
theorem dX10_thing_155 : decode cX10_thing 155 = .ok (.getfield 102, 3) := by decide +kernel
theorem dX10_thing_158 : decode cX10_thing 158 = .ok (.aload_n 0, 1) := by decide +kernel
theorem dX10_thing_159 : decode cX10_thing 159 = .ok (.getfield 244, 3) := by decide +kernel
theorem dX10_thing_162 : decode cX10_thing 162 = .ok (.iload_n 2, 1) := by decide +kernel
theorem dX10_thing_163 : decode cX10_thing 163 = .ok (.iastore, 1) := by decide +kernel
theorem dX10_thing_164 : decode cX10_thing 164 = .ok (.aload_n 0, 1) := by decide +kernel
theorem dX10_thing_165 : decode cX10_thing 165 = .ok (.getfield 105, 3) := by decide +kernel
theorem dX10_thing_168 : decode cX10_thing 168 = .ok (.aload_n 0, 1) := by decide +kernel
theorem dX10_thing_169 : decode cX10_thing 169 = .ok (.getfield 244, 3) := by decide +kernel
theorem dX10_thing_172 : decode cX10_thing 172 = .ok (.iload_n 3, 1) := by decide +kernel
theorem dX10_thing_173 : decode cX10_thing 173 = .ok (.iastore, 1) := by decide +kernel
theorem dX10_thing_174 : decode cX10_thing 174 = .ok (.aload_n 0, 1) := by decide +kernel
theorem dX10_thing_175 : decode cX10_thing 175 = .ok (.dup, 1) := by decide +kernel
theorem dX10_thing_176 : decode cX10_thing 176 = .ok (.getfield 244, 3) := by decide +kernel
theorem dX10_thing_179 : decode cX10_thing 179 = .ok (.iconst 1, 1) := by decide +kernel
theorem dX10_thing_180 : decode cX10_thing 180 = .ok (.iadd, 1) := by decide +kernel
theorem dX10_thing_181 : decode cX10_thing 181 = .ok (.putfield 244, 3) := by decide +kernel
theorem dX10_thing_184 : decode cX10_thing 184 = .ok (.aload_n 0, 1) := by decide +kernel
theorem dX10_thing_185 : decode cX10_thing 185 = .ok (.getfield 244, 3) := by decide +kernel
theorem dX10_thing_188 : decode cX10_thing 188 = .ok (.iconst 1, 1) := by decide +kernel
theorem dX10_thing_189 : decode cX10_thing 189 = .ok (.isub, 1) := by decide +kernel
theorem dX10_thing_190 : decode cX10_thing 190 = .ok (.ireturn, 1) := by decide +kernel
theorem dX10_clear_0 : decode cX10_clear 0 = .ok (.aload_n 0, 1) := by decide +kernel
theorem dX10_clear_1 : decode cX10_clear 1 = .ok (.getfield 244, 3) := by decide +kernel
theorem dX10_clear_4 : decode cX10_clear 4 = .ok (.istore_n 1, 1) := by decide +kernel
theorem dX10_clear_5 : decode cX10_clear 5 = .ok (.aload_n 0, 1) := by decide +kernel
theorem dX10_clear_6 : decode cX10_clear 6 = .ok (.iconst 0, 1) := by decide +kernel
theorem dX10_clear_7 : decode cX10_clear 7 = .ok (.putfield 244, 3) := by decide +kernel
theorem dX10_clear_10 : decode cX10_clear 10 = .ok (.iload_n 1, 1) := by decide +kernel
theorem dX10_clear_11 : decode cX10_clear 11 = .ok (.ireturn, 1) := by decide +kernel
theorem dX10_isTold_0 : decode cX10_isTold 0 = .ok (.aload_n 0, 1) := by decide +kernel
theorem dX10_isTold_1 : decode cX10_isTold 1 = .ok (.aload_n 0, 1) := by decide +kernel
theorem dX10_isTold_2 : decode cX10_isTold 2 = .ok (.getfield 96, 3) := by decide +kernel
theorem dX10_isTold_5 : decode cX10_isTold 5 = .ok (.invokevirtual 184, 3) := by decide +kernel
theorem dX10_isTold_8 : decode cX10_isTold 8 = .ok (.ireturn, 1) := by decide +kernel
theorem dX10_otherwise_0 : decode cX10_otherwise 0 = .ok (.iload_n 1, 1) := by decide +kernel
theorem dX10_otherwise_1 : decode cX10_otherwise 1 = .ok (.i2l, 1) := by decide +kernel
theorem dX10_otherwise_2 : decode cX10_otherwise 2 = .ok (.lconst 0, 1) := by decide +kernel
theorem dX10_otherwise_3 : decode cX10_otherwise 3 = .ok (.iconst 1, 1) := by decide +kernel
theorem dX10_otherwise_4 : decode cX10_otherwise 4 = .ok (.aload_n 0, 1) := by decide +kernel
theorem dX10_otherwise_5 : decode cX10_otherwise 5 = .ok (.getfield 244, 3) := by decide +kernel
theorem dX10_otherwise_8 : decode cX10_otherwise 8 = .ok (.ishl, 1) := by decide +kernel
theorem dX10_otherwise_9 : decode cX10_otherwise 9 = .ok (.iconst 1, 1) := by decide +kernel
theorem dX10_otherwise_10 : decode cX10_otherwise 10 = .ok (.isub, 1) := by decide +kernel
theorem dX10_otherwise_11 : decode cX10_otherwise 11 = .ok (.i2l, 1) := by decide +kernel
theorem dX10_otherwise_12 : decode cX10_otherwise 12 = .ok (.invokestatic 131, 3) := by decide +kernel
theorem dX10_otherwise_15 : decode cX10_otherwise 15 = .ok (.ifCond .ne 5, 3) := by decide +kernel
theorem dX10_otherwise_18 : decode cX10_otherwise 18 = .ok (.iconst (-1), 1) := by decide +kernel
theorem dX10_otherwise_19 : decode cX10_otherwise 19 = .ok (.ireturn, 1) := by decide +kernel
theorem dX10_otherwise_20 : decode cX10_otherwise 20 = .ok (.aload_n 0, 1) := by decide +kernel
theorem dX10_otherwise_21 : decode cX10_otherwise 21 = .ok (.invokevirtual 256, 3) := by decide +kernel
theorem dX10_otherwise_24 : decode cX10_otherwise 24 = .ok (.ifCond .eq 21, 3) := by decide +kernel
theorem dX10_otherwise_27 : decode cX10_otherwise 27 = .ok (.aload_n 0, 1) := by decide +kernel
theorem dX10_otherwise_28 : decode cX10_otherwise 28 = .ok (.iload_n 1, 1) := by decide +kernel
theorem dX10_otherwise_29 : decode cX10_otherwise 29 = .ok (.bipush 15, 2) := by decide +kernel
theorem dX10_otherwise_31 : decode cX10_otherwise 31 = .ok (.invokevirtual 250, 3) := by decide +kernel
theorem dX10_otherwise_34 : decode cX10_otherwise 34 = .ok (.ifCond .eq 7, 3) := by decide +kernel
theorem dX10_otherwise_37 : decode cX10_otherwise 37 = .ok (.iconst 1, 1) := by decide +kernel
theorem dX10_otherwise_38 : decode cX10_otherwise 38 = .ok (.goto 9, 3) := by decide +kernel
theorem dX10_otherwise_41 : decode cX10_otherwise 41 = .ok (.iconst 0, 1) := by decide +kernel
theorem dX10_otherwise_42 : decode cX10_otherwise 42 = .ok (.goto 5, 3) := by decide +kernel
theorem dX10_otherwise_45 : decode cX10_otherwise 45 = .ok (.bipush (-2), 2) := by decide +kernel
theorem dX10_otherwise_47 : decode cX10_otherwise 47 = .ok (.ireturn, 1) := by decide +kernel
theorem dX10_tries_0 : decode cX10_tries 0 = .ok (.iconst 0, 1) := by decide +kernel
theorem dX10_tries_1 : decode cX10_tries 1 = .ok (.istore_n 1, 1) := by decide +kernel
theorem dX10_tries_2 : decode cX10_tries 2 = .ok (.iload_n 1, 1) := by decide +kernel
theorem dX10_tries_3 : decode cX10_tries 3 = .ok (.iconst 1, 1) := by decide +kernel
theorem dX10_tries_4 : decode cX10_tries 4 = .ok (.aload_n 0, 1) := by decide +kernel
theorem dX10_tries_5 : decode cX10_tries 5 = .ok (.getfield 244, 3) := by decide +kernel
theorem dX10_tries_8 : decode cX10_tries 8 = .ok (.ishl, 1) := by decide +kernel
theorem dX10_tries_9 : decode cX10_tries 9 = .ok (.if_icmp .ge 22, 3) := by decide +kernel
theorem dX10_tries_12 : decode cX10_tries 12 = .ok (.aload_n 0, 1) := by decide +kernel
theorem dX10_tries_13 : decode cX10_tries 13 = .ok (.getfield 108, 3) := by decide +kernel
theorem dX10_tries_16 : decode cX10_tries 16 = .ok (.iload_n 1, 1) := by decide +kernel
theorem dX10_tries_17 : decode cX10_tries 17 = .ok (.aload_n 0, 1) := by decide +kernel
theorem dX10_tries_18 : decode cX10_tries 18 = .ok (.iload_n 1, 1) := by decide +kernel
theorem dX10_tries_19 : decode cX10_tries 19 = .ok (.bipush 15, 2) := by decide +kernel
theorem dX10_tries_21 : decode cX10_tries 21 = .ok (.invokevirtual 250, 3) := by decide +kernel
theorem dX10_tries_24 : decode cX10_tries 24 = .ok (.bastore, 1) := by decide +kernel
theorem dX10_tries_25 : decode cX10_tries 25 = .ok (.iinc 1 1, 3) := by decide +kernel
theorem dX10_tries_28 : decode cX10_tries 28 = .ok (.goto (-26), 3) := by decide +kernel
theorem dX10_tries_31 : decode cX10_tries 31 = .ok (.return_, 1) := by decide +kernel
theorem dX10_isSuch_0 : decode cX10_isSuch 0 = .ok (.aload_n 0, 1) := by decide +kernel
theorem dX10_isSuch_1 : decode cX10_isSuch 1 = .ok (.getfield 108, 3) := by decide +kernel
theorem dX10_isSuch_4 : decode cX10_isSuch 4 = .ok (.iconst 0, 1) := by decide +kernel
theorem dX10_isSuch_5 : decode cX10_isSuch 5 = .ok (.baload, 1) := by decide +kernel
theorem dX10_isSuch_6 : decode cX10_isSuch 6 = .ok (.ifCond .eq 21, 3) := by decide +kernel
theorem dX10_isSuch_9 : decode cX10_isSuch 9 = .ok (.iload_n 2, 1) := by decide +kernel
theorem dX10_isSuch_10 : decode cX10_isSuch 10 = .ok (.iconst 1, 1) := by decide +kernel
theorem dX10_isSuch_11 : decode cX10_isSuch 11 = .ok (.if_icmp .eq 12, 3) := by decide +kernel
theorem dX10_isSuch_14 : decode cX10_isSuch 14 = .ok (.aload_n 0, 1) := by decide +kernel
theorem dX10_isSuch_15 : decode cX10_isSuch 15 = .ok (.getfield 108, 3) := by decide +kernel
theorem dX10_isSuch_18 : decode cX10_isSuch 18 = .ok (.iload_n 1, 1) := by decide +kernel
theorem dX10_isSuch_19 : decode cX10_isSuch 19 = .ok (.baload, 1) := by decide +kernel
theorem dX10_isSuch_20 : decode cX10_isSuch 20 = .ok (.ifCond .ne 7, 3) := by decide +kernel
theorem dX10_isSuch_23 : decode cX10_isSuch 23 = .ok (.iconst 1, 1) := by decide +kernel
theorem dX10_isSuch_24 : decode cX10_isSuch 24 = .ok (.goto 4, 3) := by decide +kernel
theorem dX10_isSuch_27 : decode cX10_isSuch 27 = .ok (.iconst 0, 1) := by decide +kernel
theorem dX10_isSuch_28 : decode cX10_isSuch 28 = .ok (.istore_n 3, 1) := by decide +kernel
theorem dX10_isSuch_29 : decode cX10_isSuch 29 = .ok (.iconst 0, 1) := by decide +kernel
theorem dX10_isSuch_30 : decode cX10_isSuch 30 = .ok (.istore 4, 2) := by decide +kernel
theorem dX10_isSuch_32 : decode cX10_isSuch 32 = .ok (.iload 4, 2) := by decide +kernel
theorem dX10_isSuch_34 : decode cX10_isSuch 34 = .ok (.iconst 1, 1) := by decide +kernel
theorem dX10_isSuch_35 : decode cX10_isSuch 35 = .ok (.aload_n 0, 1) := by decide +kernel
theorem dX10_isSuch_36 : decode cX10_isSuch 36 = .ok (.getfield 244, 3) := by decide +kernel
theorem dX10_isSuch_39 : decode cX10_isSuch 39 = .ok (.ishl, 1) := by decide +kernel
theorem dX10_isSuch_40 : decode cX10_isSuch 40 = .ok (.if_icmp .ge 41, 3) := by decide +kernel
theorem dX10_isSuch_43 : decode cX10_isSuch 43 = .ok (.iload_n 2, 1) := by decide +kernel
theorem dX10_isSuch_44 : decode cX10_isSuch 44 = .ok (.iconst 1, 1) := by decide +kernel
theorem dX10_isSuch_45 : decode cX10_isSuch 45 = .ok (.if_icmp .ne 36, 3) := by decide +kernel
theorem dX10_isSuch_48 : decode cX10_isSuch 48 = .ok (.iload_n 3, 1) := by decide +kernel
theorem dX10_isSuch_49 : decode cX10_isSuch 49 = .ok (.ifCond .eq 24, 3) := by decide +kernel
theorem dX10_isSuch_52 : decode cX10_isSuch 52 = .ok (.iload 4, 2) := by decide +kernel
theorem dX10_isSuch_54 : decode cX10_isSuch 54 = .ok (.iload_n 1, 1) := by decide +kernel
theorem dX10_isSuch_55 : decode cX10_isSuch 55 = .ok (.iand, 1) := by decide +kernel
theorem dX10_isSuch_56 : decode cX10_isSuch 56 = .ok (.ifCond .ne 13, 3) := by decide +kernel
theorem dX10_isSuch_59 : decode cX10_isSuch 59 = .ok (.aload_n 0, 1) := by decide +kernel
theorem dX10_isSuch_60 : decode cX10_isSuch 60 = .ok (.getfield 108, 3) := by decide +kernel
theorem dX10_isSuch_63 : decode cX10_isSuch 63 = .ok (.iload 4, 2) := by decide +kernel
theorem dX10_isSuch_65 : decode cX10_isSuch 65 = .ok (.baload, 1) := by decide +kernel
theorem dX10_isSuch_66 : decode cX10_isSuch 66 = .ok (.ifCond .eq 7, 3) := by decide +kernel
theorem dX10_isSuch_69 : decode cX10_isSuch 69 = .ok (.iconst 1, 1) := by decide +kernel
theorem dX10_isSuch_70 : decode cX10_isSuch 70 = .ok (.goto 4, 3) := by decide +kernel
theorem dX10_isSuch_73 : decode cX10_isSuch 73 = .ok (.iconst 0, 1) := by decide +kernel
theorem dX10_isSuch_74 : decode cX10_isSuch 74 = .ok (.istore_n 3, 1) := by decide +kernel
theorem dX10_isSuch_75 : decode cX10_isSuch 75 = .ok (.iinc 4 1, 3) := by decide +kernel
theorem dX10_isSuch_78 : decode cX10_isSuch 78 = .ok (.goto (-46), 3) := by decide +kernel
theorem dX10_isSuch_81 : decode cX10_isSuch 81 = .ok (.iload_n 3, 1) := by decide +kernel
theorem dX10_isSuch_82 : decode cX10_isSuch 82 = .ok (.ireturn, 1) := by decide +kernel
theorem dX10_size_0 : decode cX10_size 0 = .ok (.iconst 0, 1) := by decide +kernel
theorem dX10_size_1 : decode cX10_size 1 = .ok (.istore_n 1, 1) := by decide +kernel
theorem dX10_size_2 : decode cX10_size 2 = .ok (.iconst 0, 1) := by decide +kernel
theorem dX10_size_3 : decode cX10_size 3 = .ok (.istore_n 2, 1) := by decide +kernel
theorem dX10_size_4 : decode cX10_size 4 = .ok (.iload_n 2, 1) := by decide +kernel
theorem dX10_size_5 : decode cX10_size 5 = .ok (.bipush 8, 2) := by decide +kernel
theorem dX10_size_7 : decode cX10_size 7 = .ok (.if_icmp .ge 17, 3) := by decide +kernel
theorem dX10_size_10 : decode cX10_size 10 = .ok (.iload_n 1, 1) := by decide +kernel
theorem dX10_size_11 : decode cX10_size 11 = .ok (.iload_n 0, 1) := by decide +kernel
theorem dX10_size_12 : decode cX10_size 12 = .ok (.iload_n 2, 1) := by decide +kernel
theorem dX10_size_13 : decode cX10_size 13 = .ok (.ishr, 1) := by decide +kernel
theorem dX10_size_14 : decode cX10_size 14 = .ok (.iconst 1, 1) := by decide +kernel
theorem dX10_size_15 : decode cX10_size 15 = .ok (.iand, 1) := by decide +kernel
theorem dX10_size_16 : decode cX10_size 16 = .ok (.iadd, 1) := by decide +kernel
theorem dX10_size_17 : decode cX10_size 17 = .ok (.istore_n 1, 1) := by decide +kernel
theorem dX10_size_18 : decode cX10_size 18 = .ok (.iinc 2 1, 3) := by decide +kernel
theorem dX10_size_21 : decode cX10_size 21 = .ok (.goto (-17), 3) := by decide +kernel
theorem dX10_size_24 : decode cX10_size 24 = .ok (.iload_n 1, 1) := by decide +kernel
theorem dX10_size_25 : decode cX10_size 25 = .ok (.ireturn, 1) := by decide +kernel
theorem dX10_leastOf_0 : decode cX10_leastOf 0 = .ok (.aload_n 0, 1) := by decide +kernel
theorem dX10_leastOf_1 : decode cX10_leastOf 1 = .ok (.invokevirtual 256, 3) := by decide +kernel
theorem dX10_leastOf_4 : decode cX10_leastOf 4 = .ok (.ifCond .ne 6, 3) := by decide +kernel
theorem dX10_leastOf_7 : decode cX10_leastOf 7 = .ok (.bipush (-2), 2) := by decide +kernel
theorem dX10_leastOf_9 : decode cX10_leastOf 9 = .ok (.ireturn, 1) := by decide +kernel
theorem dX10_leastOf_10 : decode cX10_leastOf 10 = .ok (.aload_n 0, 1) := by decide +kernel
theorem dX10_leastOf_11 : decode cX10_leastOf 11 = .ok (.invokevirtual 260, 3) := by decide +kernel
theorem dX10_leastOf_14 : decode cX10_leastOf 14 = .ok (.bipush (-4), 2) := by decide +kernel
theorem dX10_leastOf_16 : decode cX10_leastOf 16 = .ok (.istore_n 2, 1) := by decide +kernel
theorem dX10_leastOf_17 : decode cX10_leastOf 17 = .ok (.iconst 0, 1) := by decide +kernel
theorem dX10_leastOf_18 : decode cX10_leastOf 18 = .ok (.istore_n 3, 1) := by decide +kernel
theorem dX10_leastOf_19 : decode cX10_leastOf 19 = .ok (.iload_n 3, 1) := by decide +kernel
theorem dX10_leastOf_20 : decode cX10_leastOf 20 = .ok (.iconst 1, 1) := by decide +kernel
theorem dX10_leastOf_21 : decode cX10_leastOf 21 = .ok (.aload_n 0, 1) := by decide +kernel
theorem dX10_leastOf_22 : decode cX10_leastOf 22 = .ok (.getfield 244, 3) := by decide +kernel
theorem dX10_leastOf_25 : decode cX10_leastOf 25 = .ok (.ishl, 1) := by decide +kernel
theorem dX10_leastOf_26 : decode cX10_leastOf 26 = .ok (.if_icmp .ge 39, 3) := by decide +kernel
theorem dX10_leastOf_29 : decode cX10_leastOf 29 = .ok (.aload_n 0, 1) := by decide +kernel
theorem dX10_leastOf_30 : decode cX10_leastOf 30 = .ok (.iload_n 3, 1) := by decide +kernel
theorem dX10_leastOf_31 : decode cX10_leastOf 31 = .ok (.iload_n 1, 1) := by decide +kernel
theorem dX10_leastOf_32 : decode cX10_leastOf 32 = .ok (.invokevirtual 263, 3) := by decide +kernel
theorem dX10_leastOf_35 : decode cX10_leastOf 35 = .ok (.ifCond .eq 22, 3) := by decide +kernel
theorem dX10_leastOf_38 : decode cX10_leastOf 38 = .ok (.iload_n 2, 1) := by decide +kernel
theorem dX10_leastOf_39 : decode cX10_leastOf 39 = .ok (.ifCond .lt 14, 3) := by decide +kernel
theorem dX10_leastOf_42 : decode cX10_leastOf 42 = .ok (.iload_n 3, 1) := by decide +kernel
theorem dX10_leastOf_43 : decode cX10_leastOf 43 = .ok (.invokestatic 266, 3) := by decide +kernel
theorem dX10_leastOf_46 : decode cX10_leastOf 46 = .ok (.iload_n 2, 1) := by decide +kernel
theorem dX10_leastOf_47 : decode cX10_leastOf 47 = .ok (.invokestatic 266, 3) := by decide +kernel
theorem dX10_leastOf_50 : decode cX10_leastOf 50 = .ok (.if_icmp .ge 7, 3) := by decide +kernel
theorem dX10_leastOf_53 : decode cX10_leastOf 53 = .ok (.iload_n 3, 1) := by decide +kernel
theorem dX10_leastOf_54 : decode cX10_leastOf 54 = .ok (.goto 4, 3) := by decide +kernel
theorem dX10_leastOf_57 : decode cX10_leastOf 57 = .ok (.iload_n 2, 1) := by decide +kernel
theorem dX10_leastOf_58 : decode cX10_leastOf 58 = .ok (.istore_n 2, 1) := by decide +kernel
theorem dX10_leastOf_59 : decode cX10_leastOf 59 = .ok (.iinc 3 1, 3) := by decide +kernel
theorem dX10_leastOf_62 : decode cX10_leastOf 62 = .ok (.goto (-43), 3) := by decide +kernel
theorem dX10_leastOf_65 : decode cX10_leastOf 65 = .ok (.iload_n 2, 1) := by decide +kernel
theorem dX10_leastOf_66 : decode cX10_leastOf 66 = .ok (.ireturn, 1) := by decide +kernel
theorem dX10_because_0 : decode cX10_because 0 = .ok (.aload_n 0, 1) := by decide +kernel
theorem dX10_because_1 : decode cX10_because 1 = .ok (.iconst 0, 1) := by decide +kernel
theorem dX10_because_2 : decode cX10_because 2 = .ok (.invokevirtual 269, 3) := by decide +kernel
theorem dX10_because_5 : decode cX10_because 5 = .ok (.ireturn, 1) := by decide +kernel
theorem dX10_enough_0 : decode cX10_enough 0 = .ok (.aload_n 0, 1) := by decide +kernel
theorem dX10_enough_1 : decode cX10_enough 1 = .ok (.iconst 1, 1) := by decide +kernel
theorem dX10_enough_2 : decode cX10_enough 2 = .ok (.invokevirtual 269, 3) := by decide +kernel
theorem dX10_enough_5 : decode cX10_enough 5 = .ok (.ireturn, 1) := by decide +kernel
theorem dX10_sets_0 : decode cX10_sets 0 = .ok (.iload_n 1, 1) := by decide +kernel
theorem dX10_sets_1 : decode cX10_sets 1 = .ok (.i2l, 1) := by decide +kernel
theorem dX10_sets_2 : decode cX10_sets 2 = .ok (.lconst 0, 1) := by decide +kernel
theorem dX10_sets_3 : decode cX10_sets 3 = .ok (.lconst 1, 1) := by decide +kernel
theorem dX10_sets_4 : decode cX10_sets 4 = .ok (.invokestatic 131, 3) := by decide +kernel
theorem dX10_sets_7 : decode cX10_sets 7 = .ok (.ifCond .ne 5, 3) := by decide +kernel
theorem dX10_sets_10 : decode cX10_sets 10 = .ok (.iconst (-1), 1) := by decide +kernel
theorem dX10_sets_11 : decode cX10_sets 11 = .ok (.ireturn, 1) := by decide +kernel
theorem dX10_sets_12 : decode cX10_sets 12 = .ok (.aload_n 0, 1) := by decide +kernel
theorem dX10_sets_13 : decode cX10_sets 13 = .ok (.invokevirtual 256, 3) := by decide +kernel
theorem dX10_sets_16 : decode cX10_sets 16 = .ok (.ifCond .ne 6, 3) := by decide +kernel
theorem dX10_sets_19 : decode cX10_sets 19 = .ok (.bipush (-2), 2) := by decide +kernel
theorem dX10_sets_21 : decode cX10_sets 21 = .ok (.ireturn, 1) := by decide +kernel
theorem dX10_sets_22 : decode cX10_sets 22 = .ok (.aload_n 0, 1) := by decide +kernel
theorem dX10_sets_23 : decode cX10_sets 23 = .ok (.invokevirtual 260, 3) := by decide +kernel
theorem dX10_sets_26 : decode cX10_sets 26 = .ok (.iconst 0, 1) := by decide +kernel
theorem dX10_sets_27 : decode cX10_sets 27 = .ok (.istore_n 2, 1) := by decide +kernel
theorem dX10_sets_28 : decode cX10_sets 28 = .ok (.iconst 0, 1) := by decide +kernel
theorem dX10_sets_29 : decode cX10_sets 29 = .ok (.istore_n 3, 1) := by decide +kernel
theorem dX10_sets_30 : decode cX10_sets 30 = .ok (.iload_n 3, 1) := by decide +kernel
theorem dX10_sets_31 : decode cX10_sets 31 = .ok (.iconst 1, 1) := by decide +kernel
theorem dX10_sets_32 : decode cX10_sets 32 = .ok (.aload_n 0, 1) := by decide +kernel
theorem dX10_sets_33 : decode cX10_sets 33 = .ok (.getfield 244, 3) := by decide +kernel
theorem dX10_sets_36 : decode cX10_sets 36 = .ok (.ishl, 1) := by decide +kernel
theorem dX10_sets_37 : decode cX10_sets 37 = .ok (.if_icmp .ge 26, 3) := by decide +kernel
theorem dX10_sets_40 : decode cX10_sets 40 = .ok (.iload_n 2, 1) := by decide +kernel
theorem dX10_sets_41 : decode cX10_sets 41 = .ok (.aload_n 0, 1) := by decide +kernel
theorem dX10_sets_42 : decode cX10_sets 42 = .ok (.iload_n 3, 1) := by decide +kernel
theorem dX10_sets_43 : decode cX10_sets 43 = .ok (.iload_n 1, 1) := by decide +kernel
theorem dX10_sets_44 : decode cX10_sets 44 = .ok (.invokevirtual 263, 3) := by decide +kernel
theorem dX10_sets_47 : decode cX10_sets 47 = .ok (.ifCond .eq 7, 3) := by decide +kernel
theorem dX10_sets_50 : decode cX10_sets 50 = .ok (.iconst 1, 1) := by decide +kernel
theorem dX10_sets_51 : decode cX10_sets 51 = .ok (.goto 4, 3) := by decide +kernel
theorem dX10_sets_54 : decode cX10_sets 54 = .ok (.iconst 0, 1) := by decide +kernel
theorem dX10_sets_55 : decode cX10_sets 55 = .ok (.iadd, 1) := by decide +kernel
theorem dX10_sets_56 : decode cX10_sets 56 = .ok (.istore_n 2, 1) := by decide +kernel
theorem dX10_sets_57 : decode cX10_sets 57 = .ok (.iinc 3 1, 3) := by decide +kernel
theorem dX10_sets_60 : decode cX10_sets 60 = .ok (.goto (-30), 3) := by decide +kernel
theorem dX10_sets_63 : decode cX10_sets 63 = .ok (.iload_n 2, 1) := by decide +kernel
theorem dX10_sets_64 : decode cX10_sets 64 = .ok (.ireturn, 1) := by decide +kernel
theorem dX10_part_0 : decode cX10_part 0 = .ok (.iload_n 1, 1) := by decide +kernel
theorem dX10_part_1 : decode cX10_part 1 = .ok (.i2l, 1) := by decide +kernel
theorem dX10_part_2 : decode cX10_part 2 = .ok (.lconst 0, 1) := by decide +kernel
theorem dX10_part_3 : decode cX10_part 3 = .ok (.ldc2_w 207, 3) := by decide +kernel
theorem dX10_part_6 : decode cX10_part 6 = .ok (.invokestatic 131, 3) := by decide +kernel
theorem dX10_part_9 : decode cX10_part 9 = .ok (.ifCond .ne 5, 3) := by decide +kernel
theorem dX10_part_12 : decode cX10_part 12 = .ok (.iconst (-1), 1) := by decide +kernel
theorem dX10_part_13 : decode cX10_part 13 = .ok (.ireturn, 1) := by decide +kernel
theorem dX10_part_14 : decode cX10_part 14 = .ok (.aload_n 0, 1) := by decide +kernel
theorem dX10_part_15 : decode cX10_part 15 = .ok (.invokevirtual 256, 3) := by decide +kernel
theorem dX10_part_18 : decode cX10_part 18 = .ok (.ifCond .ne 6, 3) := by decide +kernel
theorem dX10_part_21 : decode cX10_part 21 = .ok (.bipush (-2), 2) := by decide +kernel
theorem dX10_part_23 : decode cX10_part 23 = .ok (.ireturn, 1) := by decide +kernel
theorem dX10_part_24 : decode cX10_part 24 = .ok (.iconst 0, 1) := by decide +kernel
theorem dX10_part_25 : decode cX10_part 25 = .ok (.istore_n 2, 1) := by decide +kernel
theorem dX10_part_26 : decode cX10_part 26 = .ok (.iconst 0, 1) := by decide +kernel
theorem dX10_part_27 : decode cX10_part 27 = .ok (.istore_n 3, 1) := by decide +kernel
theorem dX10_part_28 : decode cX10_part 28 = .ok (.iload_n 3, 1) := by decide +kernel
theorem dX10_part_29 : decode cX10_part 29 = .ok (.bipush 16, 2) := by decide +kernel
theorem dX10_part_31 : decode cX10_part 31 = .ok (.if_icmp .ge 57, 3) := by decide +kernel
theorem dX10_part_34 : decode cX10_part 34 = .ok (.iload_n 3, 1) := by decide +kernel
theorem dX10_part_35 : decode cX10_part 35 = .ok (.iload_n 1, 1) := by decide +kernel
theorem dX10_part_36 : decode cX10_part 36 = .ok (.ishr, 1) := by decide +kernel
theorem dX10_part_37 : decode cX10_part 37 = .ok (.iconst 1, 1) := by decide +kernel
theorem dX10_part_38 : decode cX10_part 38 = .ok (.iand, 1) := by decide +kernel
theorem dX10_part_39 : decode cX10_part 39 = .ok (.ifCond .ne 43, 3) := by decide +kernel
theorem dX10_part_42 : decode cX10_part 42 = .ok (.aload_n 0, 1) := by decide +kernel
theorem dX10_part_43 : decode cX10_part 43 = .ok (.iconst 0, 1) := by decide +kernel
theorem dX10_part_44 : decode cX10_part 44 = .ok (.iload_n 3, 1) := by decide +kernel
theorem dX10_part_45 : decode cX10_part 45 = .ok (.invokevirtual 250, 3) := by decide +kernel
theorem dX10_part_48 : decode cX10_part 48 = .ok (.ifCond .ne 34, 3) := by decide +kernel
theorem dX10_part_51 : decode cX10_part 51 = .ok (.aload_n 0, 1) := by decide +kernel
theorem dX10_part_52 : decode cX10_part 52 = .ok (.iconst 0, 1) := by decide +kernel
theorem dX10_part_53 : decode cX10_part 53 = .ok (.iload_n 3, 1) := by decide +kernel
theorem dX10_part_54 : decode cX10_part 54 = .ok (.iconst 1, 1) := by decide +kernel
theorem dX10_part_55 : decode cX10_part 55 = .ok (.iload_n 1, 1) := by decide +kernel
theorem dX10_part_56 : decode cX10_part 56 = .ok (.ishl, 1) := by decide +kernel
theorem dX10_part_57 : decode cX10_part 57 = .ok (.ior, 1) := by decide +kernel
theorem dX10_part_58 : decode cX10_part 58 = .ok (.invokevirtual 250, 3) := by decide +kernel
theorem dX10_part_61 : decode cX10_part 61 = .ok (.ifCond .eq 21, 3) := by decide +kernel
theorem dX10_part_64 : decode cX10_part 64 = .ok (.iload_n 2, 1) := by decide +kernel
theorem dX10_part_65 : decode cX10_part 65 = .ok (.iload_n 3, 1) := by decide +kernel
theorem dX10_part_66 : decode cX10_part 66 = .ok (.invokestatic 266, 3) := by decide +kernel
theorem dX10_part_69 : decode cX10_part 69 = .ok (.iconst 3, 1) := by decide +kernel
theorem dX10_part_70 : decode cX10_part 70 = .ok (.irem, 1) := by decide +kernel
theorem dX10_part_71 : decode cX10_part 71 = .ok (.ifCond .ne 8, 3) := by decide +kernel
theorem dX10_part_74 : decode cX10_part 74 = .ok (.bipush 6, 2) := by decide +kernel
theorem dX10_part_76 : decode cX10_part 76 = .ok (.goto 4, 3) := by decide +kernel
theorem dX10_part_79 : decode cX10_part 79 = .ok (.iconst 2, 1) := by decide +kernel
theorem dX10_part_80 : decode cX10_part 80 = .ok (.iadd, 1) := by decide +kernel
theorem dX10_part_81 : decode cX10_part 81 = .ok (.istore_n 2, 1) := by decide +kernel
theorem dX10_part_82 : decode cX10_part 82 = .ok (.iinc 3 1, 3) := by decide +kernel
theorem dX10_part_85 : decode cX10_part 85 = .ok (.goto (-57), 3) := by decide +kernel
theorem dX10_part_88 : decode cX10_part 88 = .ok (.iload_n 2, 1) := by decide +kernel
theorem dX10_part_89 : decode cX10_part 89 = .ok (.ireturn, 1) := by decide +kernel
theorem dX10_careful_0 : decode cX10_careful 0 = .ok (.aload_n 0, 1) := by decide +kernel
theorem dX10_careful_1 : decode cX10_careful 1 = .ok (.iload_n 1, 1) := by decide +kernel
theorem dX10_careful_2 : decode cX10_careful 2 = .ok (.invokevirtual 184, 3) := by decide +kernel
theorem dX10_careful_5 : decode cX10_careful 5 = .ok (.ifCond .eq 13, 3) := by decide +kernel
theorem dX10_careful_8 : decode cX10_careful 8 = .ok (.iload_n 2, 1) := by decide +kernel
theorem dX10_careful_9 : decode cX10_careful 9 = .ok (.i2l, 1) := by decide +kernel
theorem dX10_careful_10 : decode cX10_careful 10 = .ok (.lconst 0, 1) := by decide +kernel
theorem dX10_careful_11 : decode cX10_careful 11 = .ok (.lconst 1, 1) := by decide +kernel
theorem dX10_careful_12 : decode cX10_careful 12 = .ok (.invokestatic 131, 3) := by decide +kernel
theorem dX10_careful_15 : decode cX10_careful 15 = .ok (.ifCond .ne 5, 3) := by decide +kernel
theorem dX10_careful_18 : decode cX10_careful 18 = .ok (.iconst (-1), 1) := by decide +kernel
theorem dX10_careful_19 : decode cX10_careful 19 = .ok (.ireturn, 1) := by decide +kernel
theorem dX10_careful_20 : decode cX10_careful 20 = .ok (.aload_n 0, 1) := by decide +kernel
theorem dX10_careful_21 : decode cX10_careful 21 = .ok (.invokevirtual 200, 3) := by decide +kernel
theorem dX10_careful_24 : decode cX10_careful 24 = .ok (.iconst 0, 1) := by decide +kernel
theorem dX10_careful_25 : decode cX10_careful 25 = .ok (.istore_n 3, 1) := by decide +kernel
theorem dX10_careful_26 : decode cX10_careful 26 = .ok (.iload_n 3, 1) := by decide +kernel
theorem dX10_careful_27 : decode cX10_careful 27 = .ok (.aload_n 0, 1) := by decide +kernel
theorem dX10_careful_28 : decode cX10_careful 28 = .ok (.getfield 50, 3) := by decide +kernel
theorem dX10_careful_31 : decode cX10_careful 31 = .ok (.if_icmp .ge 33, 3) := by decide +kernel
theorem dX10_careful_34 : decode cX10_careful 34 = .ok (.aload_n 0, 1) := by decide +kernel
theorem dX10_careful_35 : decode cX10_careful 35 = .ok (.getfield 63, 3) := by decide +kernel
theorem dX10_careful_38 : decode cX10_careful 38 = .ok (.iload_n 3, 1) := by decide +kernel
theorem dX10_careful_39 : decode cX10_careful 39 = .ok (.dup2, 1) := by decide +kernel
theorem dX10_careful_40 : decode cX10_careful 40 = .ok (.iaload, 1) := by decide +kernel
theorem dX10_careful_41 : decode cX10_careful 41 = .ok (.iload_n 2, 1) := by decide +kernel
theorem dX10_careful_42 : decode cX10_careful 42 = .ok (.ifCond .ne 12, 3) := by decide +kernel
theorem dX10_careful_45 : decode cX10_careful 45 = .ok (.aload_n 0, 1) := by decide +kernel
theorem dX10_careful_46 : decode cX10_careful 46 = .ok (.getfield 60, 3) := by decide +kernel
theorem dX10_careful_49 : decode cX10_careful 49 = .ok (.iload_n 3, 1) := by decide +kernel
theorem dX10_careful_50 : decode cX10_careful 50 = .ok (.iaload, 1) := by decide +kernel
theorem dX10_careful_51 : decode cX10_careful 51 = .ok (.goto 5, 3) := by decide +kernel
theorem dX10_careful_54 : decode cX10_careful 54 = .ok (.bipush 15, 2) := by decide +kernel
theorem dX10_careful_56 : decode cX10_careful 56 = .ok (.iand, 1) := by decide +kernel
theorem dX10_careful_57 : decode cX10_careful 57 = .ok (.iastore, 1) := by decide +kernel
theorem dX10_careful_58 : decode cX10_careful 58 = .ok (.iinc 3 1, 3) := by decide +kernel
theorem dX10_careful_61 : decode cX10_careful 61 = .ok (.goto (-35), 3) := by decide +kernel
theorem dX10_careful_64 : decode cX10_careful 64 = .ok (.aload_n 0, 1) := by decide +kernel
theorem dX10_careful_65 : decode cX10_careful 65 = .ok (.iconst 1, 1) := by decide +kernel
theorem dX10_careful_66 : decode cX10_careful 66 = .ok (.iconst 0, 1) := by decide +kernel
theorem dX10_careful_67 : decode cX10_careful 67 = .ok (.invokevirtual 203, 3) := by decide +kernel
theorem dX10_careful_70 : decode cX10_careful 70 = .ok (.aload_n 0, 1) := by decide +kernel
theorem dX10_careful_71 : decode cX10_careful 71 = .ok (.getfield 75, 3) := by decide +kernel
theorem dX10_careful_74 : decode cX10_careful 74 = .ok (.iload_n 1, 1) := by decide +kernel
theorem dX10_careful_75 : decode cX10_careful 75 = .ok (.iaload, 1) := by decide +kernel
theorem dX10_careful_76 : decode cX10_careful 76 = .ok (.ireturn, 1) := by decide +kernel
theorem dX10_actAt_0 : decode cX10_actAt 0 = .ok (.aload_n 0, 1) := by decide +kernel
theorem dX10_actAt_1 : decode cX10_actAt 1 = .ok (.iconst 0, 1) := by decide +kernel
theorem dX10_actAt_2 : decode cX10_actAt 2 = .ok (.iload_n 1, 1) := by decide +kernel
theorem dX10_actAt_3 : decode cX10_actAt 3 = .ok (.iconst 0, 1) := by decide +kernel
theorem dX10_actAt_4 : decode cX10_actAt 4 = .ok (.invokevirtual 196, 3) := by decide +kernel
theorem dX10_actAt_7 : decode cX10_actAt 7 = .ok (.istore_n 2, 1) := by decide +kernel
theorem dX10_actAt_8 : decode cX10_actAt 8 = .ok (.iload_n 2, 1) := by decide +kernel
theorem dX10_actAt_9 : decode cX10_actAt 9 = .ok (.bipush 8, 2) := by decide +kernel
theorem dX10_actAt_11 : decode cX10_actAt 11 = .ok (.if_icmp .ne 7, 3) := by decide +kernel
theorem dX10_actAt_14 : decode cX10_actAt 14 = .ok (.iconst 0, 1) := by decide +kernel
theorem dX10_actAt_15 : decode cX10_actAt 15 = .ok (.goto 9, 3) := by decide +kernel
theorem dX10_actAt_18 : decode cX10_actAt 18 = .ok (.aload_n 0, 1) := by decide +kernel
theorem dX10_actAt_19 : decode cX10_actAt 19 = .ok (.getfield 29, 3) := by decide +kernel
theorem dX10_actAt_22 : decode cX10_actAt 22 = .ok (.iload_n 2, 1) := by decide +kernel
theorem dX10_actAt_23 : decode cX10_actAt 23 = .ok (.iaload, 1) := by decide +kernel
theorem dX10_actAt_24 : decode cX10_actAt 24 = .ok (.ireturn, 1) := by decide +kernel
theorem dX10_saying_0 : decode cX10_saying 0 = .ok (.iload_n 1, 1) := by decide +kernel
theorem dX10_saying_1 : decode cX10_saying 1 = .ok (.i2l, 1) := by decide +kernel
theorem dX10_saying_2 : decode cX10_saying 2 = .ok (.lconst 0, 1) := by decide +kernel
theorem dX10_saying_3 : decode cX10_saying 3 = .ok (.ldc2_w 187, 3) := by decide +kernel
theorem dX10_saying_6 : decode cX10_saying 6 = .ok (.invokestatic 131, 3) := by decide +kernel
theorem dX10_saying_9 : decode cX10_saying 9 = .ok (.ifCond .ne 5, 3) := by decide +kernel
theorem dX10_saying_12 : decode cX10_saying 12 = .ok (.iconst (-1), 1) := by decide +kernel
theorem dX10_saying_13 : decode cX10_saying 13 = .ok (.ireturn, 1) := by decide +kernel
theorem dX10_saying_14 : decode cX10_saying 14 = .ok (.iconst 2, 1) := by decide +kernel
theorem dX10_saying_15 : decode cX10_saying 15 = .ok (.iload_n 1, 1) := by decide +kernel
theorem dX10_saying_16 : decode cX10_saying 16 = .ok (.imul, 1) := by decide +kernel
theorem dX10_saying_17 : decode cX10_saying 17 = .ok (.iload_n 2, 1) := by decide +kernel
theorem dX10_saying_18 : decode cX10_saying 18 = .ok (.ifCond .eq 8, 3) := by decide +kernel
theorem dX10_saying_21 : decode cX10_saying 21 = .ok (.bipush 96, 2) := by decide +kernel
theorem dX10_saying_23 : decode cX10_saying 23 = .ok (.goto 4, 3) := by decide +kernel
theorem dX10_saying_26 : decode cX10_saying 26 = .ok (.iconst 0, 1) := by decide +kernel
theorem dX10_saying_27 : decode cX10_saying 27 = .ok (.iadd, 1) := by decide +kernel
theorem dX10_saying_28 : decode cX10_saying 28 = .ok (.iload_n 3, 1) := by decide +kernel
theorem dX10_saying_29 : decode cX10_saying 29 = .ok (.ifCond .eq 7, 3) := by decide +kernel
theorem dX10_saying_32 : decode cX10_saying 32 = .ok (.iconst 1, 1) := by decide +kernel
theorem dX10_saying_33 : decode cX10_saying 33 = .ok (.goto 4, 3) := by decide +kernel
theorem dX10_saying_36 : decode cX10_saying 36 = .ok (.iconst 0, 1) := by decide +kernel
theorem dX10_saying_37 : decode cX10_saying 37 = .ok (.iadd, 1) := by decide +kernel
theorem dX10_saying_38 : decode cX10_saying 38 = .ok (.istore 4, 2) := by decide +kernel
theorem dX10_saying_40 : decode cX10_saying 40 = .ok (.iconst 0, 1) := by decide +kernel
theorem dX10_saying_41 : decode cX10_saying 41 = .ok (.istore 5, 2) := by decide +kernel
theorem dX10_saying_43 : decode cX10_saying 43 = .ok (.iload 5, 2) := by decide +kernel
theorem dX10_saying_45 : decode cX10_saying 45 = .ok (.sipush 128, 3) := by decide +kernel
theorem dX10_saying_48 : decode cX10_saying 48 = .ok (.if_icmp .ge 71, 3) := by decide +kernel
theorem dX10_saying_51 : decode cX10_saying 51 = .ok (.aload_n 0, 1) := by decide +kernel
theorem dX10_saying_52 : decode cX10_saying 52 = .ok (.iload 5, 2) := by decide +kernel
theorem dX10_saying_54 : decode cX10_saying 54 = .ok (.invokevirtual 272, 3) := by decide +kernel
theorem dX10_saying_57 : decode cX10_saying 57 = .ok (.istore 6, 2) := by decide +kernel
theorem dX10_saying_59 : decode cX10_saying 59 = .ok (.iload 5, 2) := by decide +kernel
theorem dX10_saying_61 : decode cX10_saying 61 = .ok (.iconst 1, 1) := by decide +kernel
theorem dX10_saying_62 : decode cX10_saying 62 = .ok (.iadd, 1) := by decide +kernel
theorem dX10_saying_63 : decode cX10_saying 63 = .ok (.istore 7, 2) := by decide +kernel
theorem dX10_saying_65 : decode cX10_saying 65 = .ok (.iload 7, 2) := by decide +kernel
theorem dX10_saying_67 : decode cX10_saying 67 = .ok (.sipush 128, 3) := by decide +kernel
theorem dX10_saying_70 : decode cX10_saying 70 = .ok (.if_icmp .ge 43, 3) := by decide +kernel
theorem dX10_saying_73 : decode cX10_saying 73 = .ok (.iload 5, 2) := by decide +kernel
theorem dX10_saying_75 : decode cX10_saying 75 = .ok (.iload 4, 2) := by decide +kernel
theorem dX10_saying_77 : decode cX10_saying 77 = .ok (.iand, 1) := by decide +kernel
theorem dX10_saying_78 : decode cX10_saying 78 = .ok (.iload 7, 2) := by decide +kernel
theorem dX10_saying_80 : decode cX10_saying 80 = .ok (.iload 4, 2) := by decide +kernel
theorem dX10_saying_82 : decode cX10_saying 82 = .ok (.iand, 1) := by decide +kernel
theorem dX10_saying_83 : decode cX10_saying 83 = .ok (.if_icmp .ne 24, 3) := by decide +kernel
theorem dX10_saying_86 : decode cX10_saying 86 = .ok (.aload_n 0, 1) := by decide +kernel
theorem dX10_saying_87 : decode cX10_saying 87 = .ok (.iload 7, 2) := by decide +kernel
theorem dX10_saying_89 : decode cX10_saying 89 = .ok (.invokevirtual 272, 3) := by decide +kernel
theorem dX10_saying_92 : decode cX10_saying 92 = .ok (.iload 6, 2) := by decide +kernel
theorem dX10_saying_94 : decode cX10_saying 94 = .ok (.if_icmp .eq 13, 3) := by decide +kernel
theorem dX10_saying_97 : decode cX10_saying 97 = .ok (.sipush 128, 3) := by decide +kernel
theorem dX10_saying_100 : decode cX10_saying 100 = .ok (.iload 5, 2) := by decide +kernel
theorem dX10_saying_102 : decode cX10_saying 102 = .ok (.imul, 1) := by decide +kernel
theorem dX10_saying_103 : decode cX10_saying 103 = .ok (.iload 7, 2) := by decide +kernel
theorem dX10_saying_105 : decode cX10_saying 105 = .ok (.iadd, 1) := by decide +kernel
theorem dX10_saying_106 : decode cX10_saying 106 = .ok (.ireturn, 1) := by decide +kernel
theorem dX10_saying_107 : decode cX10_saying 107 = .ok (.iinc 7 1, 3) := by decide +kernel
theorem dX10_saying_110 : decode cX10_saying 110 = .ok (.goto (-45), 3) := by decide +kernel
theorem dX10_saying_113 : decode cX10_saying 113 = .ok (.iinc 5 1, 3) := by decide +kernel
theorem dX10_saying_116 : decode cX10_saying 116 = .ok (.goto (-73), 3) := by decide +kernel
theorem dX10_saying_119 : decode cX10_saying 119 = .ok (.bipush (-4), 2) := by decide +kernel
theorem dX10_saying_121 : decode cX10_saying 121 = .ok (.ireturn, 1) := by decide +kernel
theorem dX10_duty_0 : decode cX10_duty 0 = .ok (.aload_n 0, 1) := by decide +kernel
theorem dX10_duty_1 : decode cX10_duty 1 = .ok (.iconst 0, 1) := by decide +kernel
theorem dX10_duty_2 : decode cX10_duty 2 = .ok (.putfield 147, 3) := by decide +kernel
theorem dX10_duty_5 : decode cX10_duty 5 = .ok (.iconst 0, 1) := by decide +kernel
theorem dX10_duty_6 : decode cX10_duty 6 = .ok (.istore_n 1, 1) := by decide +kernel
theorem dX10_duty_7 : decode cX10_duty 7 = .ok (.iload_n 1, 1) := by decide +kernel
theorem dX10_duty_8 : decode cX10_duty 8 = .ok (.sipush 512, 3) := by decide +kernel
theorem dX10_duty_11 : decode cX10_duty 11 = .ok (.if_icmp .ge 42, 3) := by decide +kernel
theorem dX10_duty_14 : decode cX10_duty 14 = .ok (.aload_n 0, 1) := by decide +kernel
theorem dX10_duty_15 : decode cX10_duty 15 = .ok (.getfield 147, 3) := by decide +kernel
theorem dX10_duty_18 : decode cX10_duty 18 = .ok (.ifCond .ne 35, 3) := by decide +kernel
theorem dX10_duty_21 : decode cX10_duty 21 = .ok (.aload_n 0, 1) := by decide +kernel
theorem dX10_duty_22 : decode cX10_duty 22 = .ok (.iconst 0, 1) := by decide +kernel
theorem dX10_duty_23 : decode cX10_duty 23 = .ok (.putfield 144, 3) := by decide +kernel
theorem dX10_duty_26 : decode cX10_duty 26 = .ok (.aload_n 0, 1) := by decide +kernel
theorem dX10_duty_27 : decode cX10_duty 27 = .ok (.getfield 114, 3) := by decide +kernel
theorem dX10_duty_30 : decode cX10_duty 30 = .ok (.iload_n 1, 1) := by decide +kernel
theorem dX10_duty_31 : decode cX10_duty 31 = .ok (.aload_n 0, 1) := by decide +kernel
theorem dX10_duty_32 : decode cX10_duty 32 = .ok (.iload_n 1, 1) := by decide +kernel
theorem dX10_duty_33 : decode cX10_duty 33 = .ok (.sipush 128, 3) := by decide +kernel
theorem dX10_duty_36 : decode cX10_duty 36 = .ok (.irem, 1) := by decide +kernel
theorem dX10_duty_37 : decode cX10_duty 37 = .ok (.iload_n 1, 1) := by decide +kernel
theorem dX10_duty_38 : decode cX10_duty 38 = .ok (.sipush 128, 3) := by decide +kernel
theorem dX10_duty_41 : decode cX10_duty 41 = .ok (.idiv, 1) := by decide +kernel
theorem dX10_duty_42 : decode cX10_duty 42 = .ok (.iconst 1, 1) := by decide +kernel
theorem dX10_duty_43 : decode cX10_duty 43 = .ok (.invokevirtual 170, 3) := by decide +kernel
theorem dX10_duty_46 : decode cX10_duty 46 = .ok (.bastore, 1) := by decide +kernel
theorem dX10_duty_47 : decode cX10_duty 47 = .ok (.iinc 1 1, 3) := by decide +kernel
theorem dX10_duty_50 : decode cX10_duty 50 = .ok (.goto (-43), 3) := by decide +kernel
theorem dX10_duty_53 : decode cX10_duty 53 = .ok (.aload_n 0, 1) := by decide +kernel
theorem dX10_duty_54 : decode cX10_duty 54 = .ok (.aload_n 0, 1) := by decide +kernel
theorem dX10_duty_55 : decode cX10_duty 55 = .ok (.getfield 147, 3) := by decide +kernel
theorem dX10_duty_58 : decode cX10_duty 58 = .ok (.ifCond .ne 10, 3) := by decide +kernel
theorem dX10_duty_61 : decode cX10_duty 61 = .ok (.aload_n 0, 1) := by decide +kernel
theorem dX10_duty_62 : decode cX10_duty 62 = .ok (.invokevirtual 151, 3) := by decide +kernel
theorem dX10_duty_65 : decode cX10_duty 65 = .ok (.ifCond .eq 7, 3) := by decide +kernel
theorem dX10_duty_68 : decode cX10_duty 68 = .ok (.iconst 1, 1) := by decide +kernel
theorem dX10_duty_69 : decode cX10_duty 69 = .ok (.goto 4, 3) := by decide +kernel
theorem dX10_duty_72 : decode cX10_duty 72 = .ok (.iconst 0, 1) := by decide +kernel
theorem dX10_duty_73 : decode cX10_duty 73 = .ok (.putfield 147, 3) := by decide +kernel
theorem dX10_duty_76 : decode cX10_duty 76 = .ok (.aload_n 0, 1) := by decide +kernel
theorem dX10_duty_77 : decode cX10_duty 77 = .ok (.iconst 0, 1) := by decide +kernel
theorem dX10_duty_78 : decode cX10_duty 78 = .ok (.putfield 141, 3) := by decide +kernel
theorem dX10_duty_81 : decode cX10_duty 81 = .ok (.aload_n 0, 1) := by decide +kernel
theorem dX10_duty_82 : decode cX10_duty 82 = .ok (.getfield 147, 3) := by decide +kernel
theorem dX10_duty_85 : decode cX10_duty 85 = .ok (.ifCond .eq 11, 3) := by decide +kernel
theorem dX10_duty_88 : decode cX10_duty 88 = .ok (.bipush (-20), 2) := by decide +kernel
theorem dX10_duty_90 : decode cX10_duty 90 = .ok (.aload_n 0, 1) := by decide +kernel
theorem dX10_duty_91 : decode cX10_duty 91 = .ok (.getfield 144, 3) := by decide +kernel
theorem dX10_duty_94 : decode cX10_duty 94 = .ok (.isub, 1) := by decide +kernel
theorem dX10_duty_95 : decode cX10_duty 95 = .ok (.ireturn, 1) := by decide +kernel
theorem dX10_duty_96 : decode cX10_duty 96 = .ok (.iconst 0, 1) := by decide +kernel
theorem dX10_duty_97 : decode cX10_duty 97 = .ok (.istore_n 1, 1) := by decide +kernel
theorem dX10_duty_98 : decode cX10_duty 98 = .ok (.iload_n 1, 1) := by decide +kernel
theorem dX10_duty_99 : decode cX10_duty 99 = .ok (.sipush 512, 3) := by decide +kernel
theorem dX10_duty_102 : decode cX10_duty 102 = .ok (.if_icmp .ge 21, 3) := by decide +kernel
theorem dX10_duty_105 : decode cX10_duty 105 = .ok (.aload_n 0, 1) := by decide +kernel
theorem dX10_duty_106 : decode cX10_duty 106 = .ok (.getfield 111, 3) := by decide +kernel
theorem dX10_duty_109 : decode cX10_duty 109 = .ok (.iload_n 1, 1) := by decide +kernel
theorem dX10_duty_110 : decode cX10_duty 110 = .ok (.aload_n 0, 1) := by decide +kernel
theorem dX10_duty_111 : decode cX10_duty 111 = .ok (.getfield 114, 3) := by decide +kernel
theorem dX10_duty_114 : decode cX10_duty 114 = .ok (.iload_n 1, 1) := by decide +kernel
theorem dX10_duty_115 : decode cX10_duty 115 = .ok (.baload, 1) := by decide +kernel
theorem dX10_duty_116 : decode cX10_duty 116 = .ok (.bastore, 1) := by decide +kernel
theorem dX10_duty_117 : decode cX10_duty 117 = .ok (.iinc 1 1, 3) := by decide +kernel
theorem dX10_duty_120 : decode cX10_duty 120 = .ok (.goto (-22), 3) := by decide +kernel
theorem dX10_duty_123 : decode cX10_duty 123 = .ok (.aload_n 0, 1) := by decide +kernel
theorem dX10_duty_124 : decode cX10_duty 124 = .ok (.iconst 1, 1) := by decide +kernel
theorem dX10_duty_125 : decode cX10_duty 125 = .ok (.putfield 275, 3) := by decide +kernel
theorem dX10_duty_128 : decode cX10_duty 128 = .ok (.iconst 1, 1) := by decide +kernel
theorem dX10_duty_129 : decode cX10_duty 129 = .ok (.ireturn, 1) := by decide +kernel
theorem dX10_broken_0 : decode cX10_broken 0 = .ok (.aload_n 0, 1) := by decide +kernel
theorem dX10_broken_1 : decode cX10_broken 1 = .ok (.getfield 275, 3) := by decide +kernel
theorem dX10_broken_4 : decode cX10_broken 4 = .ok (.ifCond .ne 6, 3) := by decide +kernel
theorem dX10_broken_7 : decode cX10_broken 7 = .ok (.bipush (-2), 2) := by decide +kernel
theorem dX10_broken_9 : decode cX10_broken 9 = .ok (.ireturn, 1) := by decide +kernel
theorem dX10_broken_10 : decode cX10_broken 10 = .ok (.aload_n 0, 1) := by decide +kernel
theorem dX10_broken_11 : decode cX10_broken 11 = .ok (.invokevirtual 200, 3) := by decide +kernel
theorem dX10_broken_14 : decode cX10_broken 14 = .ok (.aload_n 0, 1) := by decide +kernel
theorem dX10_broken_15 : decode cX10_broken 15 = .ok (.iconst 0, 1) := by decide +kernel
theorem dX10_broken_16 : decode cX10_broken 16 = .ok (.iconst 0, 1) := by decide +kernel
theorem dX10_broken_17 : decode cX10_broken 17 = .ok (.invokevirtual 203, 3) := by decide +kernel
theorem dX10_broken_20 : decode cX10_broken 20 = .ok (.iconst 0, 1) := by decide +kernel
theorem dX10_broken_21 : decode cX10_broken 21 = .ok (.istore_n 1, 1) := by decide +kernel
theorem dX10_broken_22 : decode cX10_broken 22 = .ok (.iload_n 1, 1) := by decide +kernel
theorem dX10_broken_23 : decode cX10_broken 23 = .ok (.aload_n 0, 1) := by decide +kernel
theorem dX10_broken_24 : decode cX10_broken 24 = .ok (.getfield 50, 3) := by decide +kernel
theorem dX10_broken_27 : decode cX10_broken 27 = .ok (.if_icmp .ge 57, 3) := by decide +kernel
theorem dX10_broken_30 : decode cX10_broken 30 = .ok (.bipush 32, 2) := by decide +kernel
theorem dX10_broken_32 : decode cX10_broken 32 = .ok (.aload_n 0, 1) := by decide +kernel
theorem dX10_broken_33 : decode cX10_broken 33 = .ok (.getfield 69, 3) := by decide +kernel
theorem dX10_broken_36 : decode cX10_broken 36 = .ok (.iload_n 1, 1) := by decide +kernel
theorem dX10_broken_37 : decode cX10_broken 37 = .ok (.iaload, 1) := by decide +kernel
theorem dX10_broken_38 : decode cX10_broken 38 = .ok (.imul, 1) := by decide +kernel
theorem dX10_broken_39 : decode cX10_broken 39 = .ok (.iconst 2, 1) := by decide +kernel
theorem dX10_broken_40 : decode cX10_broken 40 = .ok (.aload_n 0, 1) := by decide +kernel
theorem dX10_broken_41 : decode cX10_broken 41 = .ok (.getfield 63, 3) := by decide +kernel
theorem dX10_broken_44 : decode cX10_broken 44 = .ok (.iload_n 1, 1) := by decide +kernel
theorem dX10_broken_45 : decode cX10_broken 45 = .ok (.iaload, 1) := by decide +kernel
theorem dX10_broken_46 : decode cX10_broken 46 = .ok (.imul, 1) := by decide +kernel
theorem dX10_broken_47 : decode cX10_broken 47 = .ok (.iadd, 1) := by decide +kernel
theorem dX10_broken_48 : decode cX10_broken 48 = .ok (.aload_n 0, 1) := by decide +kernel
theorem dX10_broken_49 : decode cX10_broken 49 = .ok (.getfield 66, 3) := by decide +kernel
theorem dX10_broken_52 : decode cX10_broken 52 = .ok (.iload_n 1, 1) := by decide +kernel
theorem dX10_broken_53 : decode cX10_broken 53 = .ok (.iaload, 1) := by decide +kernel
theorem dX10_broken_54 : decode cX10_broken 54 = .ok (.iadd, 1) := by decide +kernel
theorem dX10_broken_55 : decode cX10_broken 55 = .ok (.istore_n 2, 1) := by decide +kernel
theorem dX10_broken_56 : decode cX10_broken 56 = .ok (.aload_n 0, 1) := by decide +kernel
theorem dX10_broken_57 : decode cX10_broken 57 = .ok (.getfield 111, 3) := by decide +kernel
theorem dX10_broken_60 : decode cX10_broken 60 = .ok (.sipush 128, 3) := by decide +kernel
theorem dX10_broken_63 : decode cX10_broken 63 = .ok (.aload_n 0, 1) := by decide +kernel
theorem dX10_broken_64 : decode cX10_broken 64 = .ok (.getfield 75, 3) := by decide +kernel
theorem dX10_broken_67 : decode cX10_broken 67 = .ok (.iload_n 1, 1) := by decide +kernel
theorem dX10_broken_68 : decode cX10_broken 68 = .ok (.iaload, 1) := by decide +kernel
theorem dX10_broken_69 : decode cX10_broken 69 = .ok (.imul, 1) := by decide +kernel

theorem dX10_rule_48 : decode cX10_rule 48 = .ok (.ifCond .ne 13, 3) := by decide +kernel
theorem dX10_rule_51 : decode cX10_rule 51 = .ok (.aload_n 0, 1) := by decide +kernel
theorem dX10_rule_52 : decode cX10_rule 52 = .ok (.getfield 26, 3) := by decide +kernel
theorem dX10_rule_55 : decode cX10_rule 55 = .ok (.iload 4, 2) := by decide +kernel
theorem dX10_rule_57 : decode cX10_rule 57 = .ok (.iaload, 1) := by decide +kernel
theorem dX10_rule_58 : decode cX10_rule 58 = .ok (.goto 25, 3) := by decide +kernel
theorem dX10_rule_61 : decode cX10_rule 61 = .ok (.iload_n 3, 1) := by decide +kernel
theorem dX10_rule_62 : decode cX10_rule 62 = .ok (.iconst 1, 1) := by decide +kernel
theorem dX10_rule_63 : decode cX10_rule 63 = .ok (.if_icmp .ne 13, 3) := by decide +kernel
theorem dX10_rule_66 : decode cX10_rule 66 = .ok (.aload_n 0, 1) := by decide +kernel
theorem dX10_rule_67 : decode cX10_rule 67 = .ok (.getfield 29, 3) := by decide +kernel
theorem dX10_rule_70 : decode cX10_rule 70 = .ok (.iload 4, 2) := by decide +kernel
theorem dX10_rule_72 : decode cX10_rule 72 = .ok (.iaload, 1) := by decide +kernel
theorem dX10_rule_73 : decode cX10_rule 73 = .ok (.goto 10, 3) := by decide +kernel
theorem dX10_rule_76 : decode cX10_rule 76 = .ok (.aload_n 0, 1) := by decide +kernel
theorem dX10_rule_77 : decode cX10_rule 77 = .ok (.getfield 32, 3) := by decide +kernel
theorem dX10_rule_80 : decode cX10_rule 80 = .ok (.iload 4, 2) := by decide +kernel
theorem dX10_rule_82 : decode cX10_rule 82 = .ok (.iaload, 1) := by decide +kernel
theorem dX10_rule_83 : decode cX10_rule 83 = .ok (.ireturn, 1) := by decide +kernel
theorem dX10_ticks_0 : decode cX10_ticks 0 = .ok (.iload_n 1, 1) := by decide +kernel
theorem dX10_ticks_1 : decode cX10_ticks 1 = .ok (.i2l, 1) := by decide +kernel
theorem dX10_ticks_2 : decode cX10_ticks 2 = .ok (.lconst 1, 1) := by decide +kernel
theorem dX10_ticks_3 : decode cX10_ticks 3 = .ok (.ldc2_w 182, 3) := by decide +kernel
theorem dX10_ticks_6 : decode cX10_ticks 6 = .ok (.invokestatic 131, 3) := by decide +kernel
theorem dX10_ticks_9 : decode cX10_ticks 9 = .ok (.ifCond .ne 5, 3) := by decide +kernel
theorem dX10_ticks_12 : decode cX10_ticks 12 = .ok (.iconst (-1), 1) := by decide +kernel
theorem dX10_ticks_13 : decode cX10_ticks 13 = .ok (.ireturn, 1) := by decide +kernel
theorem dX10_ticks_14 : decode cX10_ticks 14 = .ok (.aload_n 0, 1) := by decide +kernel
theorem dX10_ticks_15 : decode cX10_ticks 15 = .ok (.getfield 50, 3) := by decide +kernel
theorem dX10_ticks_18 : decode cX10_ticks 18 = .ok (.istore_n 2, 1) := by decide +kernel
theorem dX10_ticks_19 : decode cX10_ticks 19 = .ok (.iload_n 2, 1) := by decide +kernel
theorem dX10_ticks_20 : decode cX10_ticks 20 = .ok (.iload_n 1, 1) := by decide +kernel
theorem dX10_ticks_21 : decode cX10_ticks 21 = .ok (.if_icmp .ge 31, 3) := by decide +kernel
theorem dX10_ticks_24 : decode cX10_ticks 24 = .ok (.aload_n 0, 1) := by decide +kernel
theorem dX10_ticks_25 : decode cX10_ticks 25 = .ok (.getfield 54, 3) := by decide +kernel
theorem dX10_ticks_28 : decode cX10_ticks 28 = .ok (.iload_n 2, 1) := by decide +kernel
theorem dX10_ticks_29 : decode cX10_ticks 29 = .ok (.iconst 0, 1) := by decide +kernel
theorem dX10_ticks_30 : decode cX10_ticks 30 = .ok (.iastore, 1) := by decide +kernel
theorem dX10_ticks_31 : decode cX10_ticks 31 = .ok (.aload_n 0, 1) := by decide +kernel
theorem dX10_ticks_32 : decode cX10_ticks 32 = .ok (.getfield 57, 3) := by decide +kernel
theorem dX10_ticks_35 : decode cX10_ticks 35 = .ok (.iload_n 2, 1) := by decide +kernel
theorem dX10_ticks_36 : decode cX10_ticks 36 = .ok (.iconst 0, 1) := by decide +kernel
theorem dX10_ticks_37 : decode cX10_ticks 37 = .ok (.iastore, 1) := by decide +kernel
theorem dX10_ticks_38 : decode cX10_ticks 38 = .ok (.aload_n 0, 1) := by decide +kernel
theorem dX10_ticks_39 : decode cX10_ticks 39 = .ok (.getfield 60, 3) := by decide +kernel
theorem dX10_ticks_42 : decode cX10_ticks 42 = .ok (.iload_n 2, 1) := by decide +kernel
theorem dX10_ticks_43 : decode cX10_ticks 43 = .ok (.bipush 15, 2) := by decide +kernel
theorem dX10_ticks_45 : decode cX10_ticks 45 = .ok (.iastore, 1) := by decide +kernel
theorem dX10_ticks_46 : decode cX10_ticks 46 = .ok (.iinc 2 1, 3) := by decide +kernel
theorem dX10_ticks_49 : decode cX10_ticks 49 = .ok (.goto (-30), 3) := by decide +kernel
theorem dX10_ticks_52 : decode cX10_ticks 52 = .ok (.aload_n 0, 1) := by decide +kernel
theorem dX10_ticks_53 : decode cX10_ticks 53 = .ok (.getfield 50, 3) := by decide +kernel
theorem dX10_ticks_56 : decode cX10_ticks 56 = .ok (.istore_n 2, 1) := by decide +kernel
theorem dX10_ticks_57 : decode cX10_ticks 57 = .ok (.aload_n 0, 1) := by decide +kernel
theorem dX10_ticks_58 : decode cX10_ticks 58 = .ok (.iload_n 1, 1) := by decide +kernel
theorem dX10_ticks_59 : decode cX10_ticks 59 = .ok (.putfield 50, 3) := by decide +kernel
theorem dX10_ticks_62 : decode cX10_ticks 62 = .ok (.iload_n 2, 1) := by decide +kernel
theorem dX10_ticks_63 : decode cX10_ticks 63 = .ok (.ireturn, 1) := by decide +kernel
theorem dX10_isTick_0 : decode cX10_isTick 0 = .ok (.iload_n 1, 1) := by decide +kernel
theorem dX10_isTick_1 : decode cX10_isTick 1 = .ok (.i2l, 1) := by decide +kernel
theorem dX10_isTick_2 : decode cX10_isTick 2 = .ok (.lconst 0, 1) := by decide +kernel
theorem dX10_isTick_3 : decode cX10_isTick 3 = .ok (.aload_n 0, 1) := by decide +kernel
theorem dX10_isTick_4 : decode cX10_isTick 4 = .ok (.getfield 50, 3) := by decide +kernel
theorem dX10_isTick_7 : decode cX10_isTick 7 = .ok (.iconst 1, 1) := by decide +kernel
theorem dX10_isTick_8 : decode cX10_isTick 8 = .ok (.isub, 1) := by decide +kernel
theorem dX10_isTick_9 : decode cX10_isTick 9 = .ok (.i2l, 1) := by decide +kernel
theorem dX10_isTick_10 : decode cX10_isTick 10 = .ok (.invokestatic 131, 3) := by decide +kernel
theorem dX10_isTick_13 : decode cX10_isTick 13 = .ok (.ireturn, 1) := by decide +kernel
theorem dX10_world_0 : decode cX10_world 0 = .ok (.aload_n 0, 1) := by decide +kernel
theorem dX10_world_1 : decode cX10_world 1 = .ok (.iload_n 1, 1) := by decide +kernel
theorem dX10_world_2 : decode cX10_world 2 = .ok (.invokevirtual 184, 3) := by decide +kernel
theorem dX10_world_5 : decode cX10_world 5 = .ok (.ifCond .eq 36, 3) := by decide +kernel
theorem dX10_world_8 : decode cX10_world 8 = .ok (.iload_n 2, 1) := by decide +kernel
theorem dX10_world_9 : decode cX10_world 9 = .ok (.i2l, 1) := by decide +kernel
theorem dX10_world_10 : decode cX10_world 10 = .ok (.lconst 0, 1) := by decide +kernel
theorem dX10_world_11 : decode cX10_world 11 = .ok (.ldc2_w 180, 3) := by decide +kernel
theorem dX10_world_14 : decode cX10_world 14 = .ok (.invokestatic 131, 3) := by decide +kernel
theorem dX10_world_17 : decode cX10_world 17 = .ok (.ifCond .eq 24, 3) := by decide +kernel
theorem dX10_world_20 : decode cX10_world 20 = .ok (.iload_n 3, 1) := by decide +kernel
theorem dX10_world_21 : decode cX10_world 21 = .ok (.i2l, 1) := by decide +kernel
theorem dX10_world_22 : decode cX10_world 22 = .ok (.lconst 0, 1) := by decide +kernel
theorem dX10_world_23 : decode cX10_world 23 = .ok (.iload_n 2, 1) := by decide +kernel
theorem dX10_world_24 : decode cX10_world 24 = .ok (.iconst 1, 1) := by decide +kernel
theorem dX10_world_25 : decode cX10_world 25 = .ok (.if_icmp .ne 7, 3) := by decide +kernel
theorem dX10_world_28 : decode cX10_world 28 = .ok (.lconst 1, 1) := by decide +kernel
theorem dX10_world_29 : decode cX10_world 29 = .ok (.goto 6, 3) := by decide +kernel
theorem dX10_world_32 : decode cX10_world 32 = .ok (.ldc2_w 187, 3) := by decide +kernel
theorem dX10_world_35 : decode cX10_world 35 = .ok (.invokestatic 131, 3) := by decide +kernel
theorem dX10_world_38 : decode cX10_world 38 = .ok (.ifCond .ne 5, 3) := by decide +kernel
theorem dX10_world_41 : decode cX10_world 41 = .ok (.iconst (-1), 1) := by decide +kernel
theorem dX10_world_42 : decode cX10_world 42 = .ok (.ireturn, 1) := by decide +kernel
theorem dX10_world_43 : decode cX10_world 43 = .ok (.iload_n 2, 1) := by decide +kernel
theorem dX10_world_44 : decode cX10_world 44 = .ok (.ifCond .ne 12, 3) := by decide +kernel
theorem dX10_world_47 : decode cX10_world 47 = .ok (.aload_n 0, 1) := by decide +kernel
theorem dX10_world_48 : decode cX10_world 48 = .ok (.getfield 54, 3) := by decide +kernel
theorem dX10_world_51 : decode cX10_world 51 = .ok (.iload_n 1, 1) := by decide +kernel
theorem dX10_world_52 : decode cX10_world 52 = .ok (.iaload, 1) := by decide +kernel
theorem dX10_world_53 : decode cX10_world 53 = .ok (.goto 23, 3) := by decide +kernel
theorem dX10_world_56 : decode cX10_world 56 = .ok (.iload_n 2, 1) := by decide +kernel
theorem dX10_world_57 : decode cX10_world 57 = .ok (.iconst 1, 1) := by decide +kernel
theorem dX10_world_58 : decode cX10_world 58 = .ok (.if_icmp .ne 12, 3) := by decide +kernel
theorem dX10_world_61 : decode cX10_world 61 = .ok (.aload_n 0, 1) := by decide +kernel
theorem dX10_world_62 : decode cX10_world 62 = .ok (.getfield 57, 3) := by decide +kernel
theorem dX10_world_65 : decode cX10_world 65 = .ok (.iload_n 1, 1) := by decide +kernel
theorem dX10_world_66 : decode cX10_world 66 = .ok (.iaload, 1) := by decide +kernel
theorem dX10_world_67 : decode cX10_world 67 = .ok (.goto 9, 3) := by decide +kernel
theorem dX10_world_70 : decode cX10_world 70 = .ok (.aload_n 0, 1) := by decide +kernel
theorem dX10_world_71 : decode cX10_world 71 = .ok (.getfield 60, 3) := by decide +kernel
theorem dX10_world_74 : decode cX10_world 74 = .ok (.iload_n 1, 1) := by decide +kernel
theorem dX10_world_75 : decode cX10_world 75 = .ok (.iaload, 1) := by decide +kernel
theorem dX10_world_76 : decode cX10_world 76 = .ok (.istore 4, 2) := by decide +kernel
theorem dX10_world_78 : decode cX10_world 78 = .ok (.iload_n 2, 1) := by decide +kernel
theorem dX10_world_79 : decode cX10_world 79 = .ok (.ifCond .ne 13, 3) := by decide +kernel
theorem dX10_world_82 : decode cX10_world 82 = .ok (.aload_n 0, 1) := by decide +kernel
theorem dX10_world_83 : decode cX10_world 83 = .ok (.getfield 54, 3) := by decide +kernel
theorem dX10_world_86 : decode cX10_world 86 = .ok (.iload_n 1, 1) := by decide +kernel
theorem dX10_world_87 : decode cX10_world 87 = .ok (.iload_n 3, 1) := by decide +kernel
theorem dX10_world_88 : decode cX10_world 88 = .ok (.iastore, 1) := by decide +kernel
theorem dX10_world_89 : decode cX10_world 89 = .ok (.goto 25, 3) := by decide +kernel
theorem dX10_world_92 : decode cX10_world 92 = .ok (.iload_n 2, 1) := by decide +kernel
theorem dX10_world_93 : decode cX10_world 93 = .ok (.iconst 1, 1) := by decide +kernel
theorem dX10_world_94 : decode cX10_world 94 = .ok (.if_icmp .ne 13, 3) := by decide +kernel
theorem dX10_world_97 : decode cX10_world 97 = .ok (.aload_n 0, 1) := by decide +kernel
theorem dX10_world_98 : decode cX10_world 98 = .ok (.getfield 57, 3) := by decide +kernel
theorem dX10_world_101 : decode cX10_world 101 = .ok (.iload_n 1, 1) := by decide +kernel
theorem dX10_world_102 : decode cX10_world 102 = .ok (.iload_n 3, 1) := by decide +kernel
theorem dX10_world_103 : decode cX10_world 103 = .ok (.iastore, 1) := by decide +kernel
theorem dX10_world_104 : decode cX10_world 104 = .ok (.goto 10, 3) := by decide +kernel
theorem dX10_world_107 : decode cX10_world 107 = .ok (.aload_n 0, 1) := by decide +kernel
theorem dX10_world_108 : decode cX10_world 108 = .ok (.getfield 60, 3) := by decide +kernel
theorem dX10_world_111 : decode cX10_world 111 = .ok (.iload_n 1, 1) := by decide +kernel
theorem dX10_world_112 : decode cX10_world 112 = .ok (.iload_n 3, 1) := by decide +kernel
theorem dX10_world_113 : decode cX10_world 113 = .ok (.iastore, 1) := by decide +kernel
theorem dX10_world_114 : decode cX10_world 114 = .ok (.iload 4, 2) := by decide +kernel
theorem dX10_world_116 : decode cX10_world 116 = .ok (.ireturn, 1) := by decide +kernel
theorem dX10_sights_0 : decode cX10_sights 0 = .ok (.iload_n 1, 1) := by decide +kernel
theorem dX10_sights_1 : decode cX10_sights 1 = .ok (.invokestatic 189, 3) := by decide +kernel
theorem dX10_sights_4 : decode cX10_sights 4 = .ok (.ifCond .eq 15, 3) := by decide +kernel
theorem dX10_sights_7 : decode cX10_sights 7 = .ok (.iload_n 2, 1) := by decide +kernel
theorem dX10_sights_8 : decode cX10_sights 8 = .ok (.i2l, 1) := by decide +kernel
theorem dX10_sights_9 : decode cX10_sights 9 = .ok (.lconst 1, 1) := by decide +kernel
theorem dX10_sights_10 : decode cX10_sights 10 = .ok (.ldc2_w 180, 3) := by decide +kernel
theorem dX10_sights_13 : decode cX10_sights 13 = .ok (.invokestatic 131, 3) := by decide +kernel
theorem dX10_sights_16 : decode cX10_sights 16 = .ok (.ifCond .ne 5, 3) := by decide +kernel
theorem dX10_sights_19 : decode cX10_sights 19 = .ok (.iconst (-1), 1) := by decide +kernel
theorem dX10_sights_20 : decode cX10_sights 20 = .ok (.ireturn, 1) := by decide +kernel
theorem dX10_sights_21 : decode cX10_sights 21 = .ok (.aload_n 0, 1) := by decide +kernel
theorem dX10_sights_22 : decode cX10_sights 22 = .ok (.iload_n 1, 1) := by decide +kernel
theorem dX10_sights_23 : decode cX10_sights 23 = .ok (.iload_n 2, 1) := by decide +kernel
theorem dX10_sights_24 : decode cX10_sights 24 = .ok (.iload_n 3, 1) := by decide +kernel
theorem dX10_sights_25 : decode cX10_sights 25 = .ok (.aload_n 0, 1) := by decide +kernel
theorem dX10_sights_26 : decode cX10_sights 26 = .ok (.getfield 50, 3) := by decide +kernel
theorem dX10_sights_29 : decode cX10_sights 29 = .ok (.invokevirtual 192, 3) := by decide +kernel
theorem dX10_sights_32 : decode cX10_sights 32 = .ok (.istore 4, 2) := by decide +kernel
theorem dX10_sights_34 : decode cX10_sights 34 = .ok (.iload 4, 2) := by decide +kernel
theorem dX10_sights_36 : decode cX10_sights 36 = .ok (.ifCond .ge 6, 3) := by decide +kernel
theorem dX10_sights_39 : decode cX10_sights 39 = .ok (.iload 4, 2) := by decide +kernel
theorem dX10_sights_41 : decode cX10_sights 41 = .ok (.ireturn, 1) := by decide +kernel
theorem dX10_sights_42 : decode cX10_sights 42 = .ok (.iconst 0, 1) := by decide +kernel
theorem dX10_sights_43 : decode cX10_sights 43 = .ok (.istore 5, 2) := by decide +kernel
theorem dX10_sights_45 : decode cX10_sights 45 = .ok (.iload 5, 2) := by decide +kernel
theorem dX10_sights_47 : decode cX10_sights 47 = .ok (.aload_n 0, 1) := by decide +kernel
theorem dX10_sights_48 : decode cX10_sights 48 = .ok (.getfield 50, 3) := by decide +kernel
theorem dX10_sights_51 : decode cX10_sights 51 = .ok (.if_icmp .ge 37, 3) := by decide +kernel
theorem dX10_sights_54 : decode cX10_sights 54 = .ok (.aload_n 0, 1) := by decide +kernel
theorem dX10_sights_55 : decode cX10_sights 55 = .ok (.getfield 123, 3) := by decide +kernel
theorem dX10_sights_58 : decode cX10_sights 58 = .ok (.bipush 48, 2) := by decide +kernel
theorem dX10_sights_60 : decode cX10_sights 60 = .ok (.iload_n 1, 1) := by decide +kernel
theorem dX10_sights_61 : decode cX10_sights 61 = .ok (.imul, 1) := by decide +kernel
theorem dX10_sights_62 : decode cX10_sights 62 = .ok (.iload_n 3, 1) := by decide +kernel
theorem dX10_sights_63 : decode cX10_sights 63 = .ok (.iadd, 1) := by decide +kernel
theorem dX10_sights_64 : decode cX10_sights 64 = .ok (.iload 5, 2) := by decide +kernel
theorem dX10_sights_66 : decode cX10_sights 66 = .ok (.iadd, 1) := by decide +kernel
theorem dX10_sights_67 : decode cX10_sights 67 = .ok (.iaload, 1) := by decide +kernel
theorem dX10_sights_68 : decode cX10_sights 68 = .ok (.i2l, 1) := by decide +kernel
theorem dX10_sights_69 : decode cX10_sights 69 = .ok (.lconst 0, 1) := by decide +kernel
theorem dX10_sights_70 : decode cX10_sights 70 = .ok (.ldc2_w 187, 3) := by decide +kernel
theorem dX10_sights_73 : decode cX10_sights 73 = .ok (.invokestatic 131, 3) := by decide +kernel
theorem dX10_sights_76 : decode cX10_sights 76 = .ok (.ifCond .ne 6, 3) := by decide +kernel
theorem dX10_sights_79 : decode cX10_sights 79 = .ok (.bipush (-2), 2) := by decide +kernel
theorem dX10_sights_81 : decode cX10_sights 81 = .ok (.ireturn, 1) := by decide +kernel
theorem dX10_sights_82 : decode cX10_sights 82 = .ok (.iinc 5 1, 3) := by decide +kernel
theorem dX10_sights_85 : decode cX10_sights 85 = .ok (.goto (-40), 3) := by decide +kernel
theorem dX10_sights_88 : decode cX10_sights 88 = .ok (.iconst 0, 1) := by decide +kernel
theorem dX10_sights_89 : decode cX10_sights 89 = .ok (.istore 5, 2) := by decide +kernel
theorem dX10_sights_91 : decode cX10_sights 91 = .ok (.iload 5, 2) := by decide +kernel
theorem dX10_sights_93 : decode cX10_sights 93 = .ok (.aload_n 0, 1) := by decide +kernel
theorem dX10_sights_94 : decode cX10_sights 94 = .ok (.getfield 50, 3) := by decide +kernel
theorem dX10_sights_97 : decode cX10_sights 97 = .ok (.if_icmp .ge 30, 3) := by decide +kernel
theorem dX10_sights_100 : decode cX10_sights 100 = .ok (.aload_n 0, 1) := by decide +kernel
theorem dX10_sights_101 : decode cX10_sights 101 = .ok (.getfield 54, 3) := by decide +kernel
theorem dX10_sights_104 : decode cX10_sights 104 = .ok (.iload 5, 2) := by decide +kernel
theorem dX10_sights_106 : decode cX10_sights 106 = .ok (.aload_n 0, 1) := by decide +kernel
theorem dX10_sights_107 : decode cX10_sights 107 = .ok (.getfield 123, 3) := by decide +kernel
theorem dX10_sights_110 : decode cX10_sights 110 = .ok (.bipush 48, 2) := by decide +kernel
theorem dX10_sights_112 : decode cX10_sights 112 = .ok (.iload_n 1, 1) := by decide +kernel
theorem dX10_sights_113 : decode cX10_sights 113 = .ok (.imul, 1) := by decide +kernel
theorem dX10_sights_114 : decode cX10_sights 114 = .ok (.iload_n 3, 1) := by decide +kernel
theorem dX10_sights_115 : decode cX10_sights 115 = .ok (.iadd, 1) := by decide +kernel
theorem dX10_sights_116 : decode cX10_sights 116 = .ok (.iload 5, 2) := by decide +kernel
theorem dX10_sights_118 : decode cX10_sights 118 = .ok (.iadd, 1) := by decide +kernel
theorem dX10_sights_119 : decode cX10_sights 119 = .ok (.iaload, 1) := by decide +kernel
theorem dX10_sights_120 : decode cX10_sights 120 = .ok (.iastore, 1) := by decide +kernel
theorem dX10_sights_121 : decode cX10_sights 121 = .ok (.iinc 5 1, 3) := by decide +kernel
theorem dX10_sights_124 : decode cX10_sights 124 = .ok (.goto (-33), 3) := by decide +kernel
theorem dX10_sights_127 : decode cX10_sights 127 = .ok (.aload_n 0, 1) := by decide +kernel
theorem dX10_sights_128 : decode cX10_sights 128 = .ok (.getfield 50, 3) := by decide +kernel
theorem dX10_sights_131 : decode cX10_sights 131 = .ok (.ireturn, 1) := by decide +kernel
theorem dX10_lots_0 : decode cX10_lots 0 = .ok (.iload_n 1, 1) := by decide +kernel
theorem dX10_lots_1 : decode cX10_lots 1 = .ok (.invokestatic 189, 3) := by decide +kernel
theorem dX10_lots_4 : decode cX10_lots 4 = .ok (.ifCond .ne 5, 3) := by decide +kernel
theorem dX10_lots_7 : decode cX10_lots 7 = .ok (.iconst (-1), 1) := by decide +kernel
theorem dX10_lots_8 : decode cX10_lots 8 = .ok (.ireturn, 1) := by decide +kernel
theorem dX10_lots_9 : decode cX10_lots 9 = .ok (.aload_n 0, 1) := by decide +kernel
theorem dX10_lots_10 : decode cX10_lots 10 = .ok (.iload_n 1, 1) := by decide +kernel
theorem dX10_lots_11 : decode cX10_lots 11 = .ok (.iconst 0, 1) := by decide +kernel
theorem dX10_lots_12 : decode cX10_lots 12 = .ok (.iload_n 2, 1) := by decide +kernel
theorem dX10_lots_13 : decode cX10_lots 13 = .ok (.aload_n 0, 1) := by decide +kernel
theorem dX10_lots_14 : decode cX10_lots 14 = .ok (.getfield 50, 3) := by decide +kernel
theorem dX10_lots_17 : decode cX10_lots 17 = .ok (.invokevirtual 192, 3) := by decide +kernel
theorem dX10_lots_20 : decode cX10_lots 20 = .ok (.istore_n 3, 1) := by decide +kernel
theorem dX10_lots_21 : decode cX10_lots 21 = .ok (.iload_n 3, 1) := by decide +kernel
theorem dX10_lots_22 : decode cX10_lots 22 = .ok (.ifCond .ge 5, 3) := by decide +kernel
theorem dX10_lots_25 : decode cX10_lots 25 = .ok (.iload_n 3, 1) := by decide +kernel
theorem dX10_lots_26 : decode cX10_lots 26 = .ok (.ireturn, 1) := by decide +kernel
theorem dX10_lots_27 : decode cX10_lots 27 = .ok (.iconst 0, 1) := by decide +kernel
theorem dX10_lots_28 : decode cX10_lots 28 = .ok (.istore 4, 2) := by decide +kernel
theorem dX10_lots_30 : decode cX10_lots 30 = .ok (.iconst 0, 1) := by decide +kernel
theorem dX10_lots_31 : decode cX10_lots 31 = .ok (.istore 5, 2) := by decide +kernel
theorem dX10_lots_33 : decode cX10_lots 33 = .ok (.iload 5, 2) := by decide +kernel
theorem dX10_lots_35 : decode cX10_lots 35 = .ok (.aload_n 0, 1) := by decide +kernel
theorem dX10_lots_36 : decode cX10_lots 36 = .ok (.getfield 50, 3) := by decide +kernel
theorem dX10_lots_39 : decode cX10_lots 39 = .ok (.if_icmp .ge 42, 3) := by decide +kernel
theorem dX10_lots_42 : decode cX10_lots 42 = .ok (.aload_n 0, 1) := by decide +kernel
theorem dX10_lots_43 : decode cX10_lots 43 = .ok (.getfield 57, 3) := by decide +kernel
theorem dX10_lots_46 : decode cX10_lots 46 = .ok (.iload 5, 2) := by decide +kernel
theorem dX10_lots_48 : decode cX10_lots 48 = .ok (.aload_n 0, 1) := by decide +kernel
theorem dX10_lots_49 : decode cX10_lots 49 = .ok (.getfield 123, 3) := by decide +kernel
theorem dX10_lots_52 : decode cX10_lots 52 = .ok (.bipush 48, 2) := by decide +kernel
theorem dX10_lots_54 : decode cX10_lots 54 = .ok (.iload_n 1, 1) := by decide +kernel
theorem dX10_lots_55 : decode cX10_lots 55 = .ok (.imul, 1) := by decide +kernel
theorem dX10_lots_56 : decode cX10_lots 56 = .ok (.iload_n 2, 1) := by decide +kernel
theorem dX10_lots_57 : decode cX10_lots 57 = .ok (.iadd, 1) := by decide +kernel
theorem dX10_lots_58 : decode cX10_lots 58 = .ok (.iload 5, 2) := by decide +kernel
theorem dX10_lots_60 : decode cX10_lots 60 = .ok (.iadd, 1) := by decide +kernel
theorem dX10_lots_61 : decode cX10_lots 61 = .ok (.iaload, 1) := by decide +kernel
theorem dX10_lots_62 : decode cX10_lots 62 = .ok (.iastore, 1) := by decide +kernel
theorem dX10_lots_63 : decode cX10_lots 63 = .ok (.iload 4, 2) := by decide +kernel
theorem dX10_lots_65 : decode cX10_lots 65 = .ok (.aload_n 0, 1) := by decide +kernel
theorem dX10_lots_66 : decode cX10_lots 66 = .ok (.getfield 57, 3) := by decide +kernel
theorem dX10_lots_69 : decode cX10_lots 69 = .ok (.iload 5, 2) := by decide +kernel
theorem dX10_lots_71 : decode cX10_lots 71 = .ok (.iaload, 1) := by decide +kernel
theorem dX10_lots_72 : decode cX10_lots 72 = .ok (.iadd, 1) := by decide +kernel
theorem dX10_lots_73 : decode cX10_lots 73 = .ok (.istore 4, 2) := by decide +kernel
theorem dX10_lots_75 : decode cX10_lots 75 = .ok (.iinc 5 1, 3) := by decide +kernel
theorem dX10_lots_78 : decode cX10_lots 78 = .ok (.goto (-45), 3) := by decide +kernel
theorem dX10_lots_81 : decode cX10_lots 81 = .ok (.iload 4, 2) := by decide +kernel
theorem dX10_lots_83 : decode cX10_lots 83 = .ok (.ireturn, 1) := by decide +kernel
theorem dX10_chosen_0 : decode cX10_chosen 0 = .ok (.iconst 0, 1) := by decide +kernel
theorem dX10_chosen_1 : decode cX10_chosen 1 = .ok (.istore 4, 2) := by decide +kernel
theorem dX10_chosen_3 : decode cX10_chosen 3 = .ok (.iload 4, 2) := by decide +kernel
theorem dX10_chosen_5 : decode cX10_chosen 5 = .ok (.aload_n 0, 1) := by decide +kernel
theorem dX10_chosen_6 : decode cX10_chosen 6 = .ok (.getfield 23, 3) := by decide +kernel
theorem dX10_chosen_9 : decode cX10_chosen 9 = .ok (.iload_n 1, 1) := by decide +kernel
theorem dX10_chosen_10 : decode cX10_chosen 10 = .ok (.iaload, 1) := by decide +kernel
theorem dX10_chosen_11 : decode cX10_chosen 11 = .ok (.if_icmp .ge 42, 3) := by decide +kernel
theorem dX10_chosen_14 : decode cX10_chosen 14 = .ok (.iload_n 3, 1) := by decide +kernel
theorem dX10_chosen_15 : decode cX10_chosen 15 = .ok (.iload 4, 2) := by decide +kernel
theorem dX10_chosen_17 : decode cX10_chosen 17 = .ok (.ishr, 1) := by decide +kernel
theorem dX10_chosen_18 : decode cX10_chosen 18 = .ok (.iconst 1, 1) := by decide +kernel
theorem dX10_chosen_19 : decode cX10_chosen 19 = .ok (.iand, 1) := by decide +kernel
theorem dX10_chosen_20 : decode cX10_chosen 20 = .ok (.ifCond .ne 27, 3) := by decide +kernel
theorem dX10_chosen_23 : decode cX10_chosen 23 = .ok (.aload_n 0, 1) := by decide +kernel
theorem dX10_chosen_24 : decode cX10_chosen 24 = .ok (.getfield 35, 3) := by decide +kernel
theorem dX10_chosen_27 : decode cX10_chosen 27 = .ok (.sipush 128, 3) := by decide +kernel
theorem dX10_chosen_30 : decode cX10_chosen 30 = .ok (.bipush 8, 2) := by decide +kernel
theorem dX10_chosen_32 : decode cX10_chosen 32 = .ok (.iload_n 1, 1) := by decide +kernel
theorem dX10_chosen_33 : decode cX10_chosen 33 = .ok (.imul, 1) := by decide +kernel
theorem dX10_chosen_34 : decode cX10_chosen 34 = .ok (.iload 4, 2) := by decide +kernel
theorem dX10_chosen_36 : decode cX10_chosen 36 = .ok (.iadd, 1) := by decide +kernel
theorem dX10_chosen_37 : decode cX10_chosen 37 = .ok (.imul, 1) := by decide +kernel
theorem dX10_chosen_38 : decode cX10_chosen 38 = .ok (.iload_n 2, 1) := by decide +kernel
theorem dX10_chosen_39 : decode cX10_chosen 39 = .ok (.iadd, 1) := by decide +kernel
theorem dX10_chosen_40 : decode cX10_chosen 40 = .ok (.baload, 1) := by decide +kernel
theorem dX10_chosen_41 : decode cX10_chosen 41 = .ok (.ifCond .eq 6, 3) := by decide +kernel
theorem dX10_chosen_44 : decode cX10_chosen 44 = .ok (.iload 4, 2) := by decide +kernel
theorem dX10_chosen_46 : decode cX10_chosen 46 = .ok (.ireturn, 1) := by decide +kernel
theorem dX10_chosen_47 : decode cX10_chosen 47 = .ok (.iinc 4 1, 3) := by decide +kernel
theorem dX10_chosen_50 : decode cX10_chosen 50 = .ok (.goto (-47), 3) := by decide +kernel
theorem dX10_chosen_53 : decode cX10_chosen 53 = .ok (.bipush 8, 2) := by decide +kernel
theorem dX10_chosen_55 : decode cX10_chosen 55 = .ok (.ireturn, 1) := by decide +kernel
theorem dX10_plays_0 : decode cX10_plays 0 = .ok (.aload_n 0, 1) := by decide +kernel
theorem dX10_plays_1 : decode cX10_plays 1 = .ok (.getfield 69, 3) := by decide +kernel
theorem dX10_plays_4 : decode cX10_plays 4 = .ok (.iconst 0, 1) := by decide +kernel
theorem dX10_plays_5 : decode cX10_plays 5 = .ok (.iconst 0, 1) := by decide +kernel
theorem dX10_plays_6 : decode cX10_plays 6 = .ok (.iastore, 1) := by decide +kernel
theorem dX10_plays_7 : decode cX10_plays 7 = .ok (.iconst 0, 1) := by decide +kernel
theorem dX10_plays_8 : decode cX10_plays 8 = .ok (.istore_n 3, 1) := by decide +kernel
theorem dX10_plays_9 : decode cX10_plays 9 = .ok (.iload_n 3, 1) := by decide +kernel
theorem dX10_plays_10 : decode cX10_plays 10 = .ok (.aload_n 0, 1) := by decide +kernel
theorem dX10_plays_11 : decode cX10_plays 11 = .ok (.getfield 50, 3) := by decide +kernel
theorem dX10_plays_14 : decode cX10_plays 14 = .ok (.if_icmp .ge 124, 3) := by decide +kernel
theorem dX10_plays_17 : decode cX10_plays 17 = .ok (.aload_n 0, 1) := by decide +kernel
theorem dX10_plays_18 : decode cX10_plays 18 = .ok (.getfield 69, 3) := by decide +kernel
theorem dX10_plays_21 : decode cX10_plays 21 = .ok (.iload_n 3, 1) := by decide +kernel
theorem dX10_plays_22 : decode cX10_plays 22 = .ok (.iaload, 1) := by decide +kernel
theorem dX10_plays_23 : decode cX10_plays 23 = .ok (.istore 4, 2) := by decide +kernel
theorem dX10_plays_25 : decode cX10_plays 25 = .ok (.aload_n 0, 1) := by decide +kernel
theorem dX10_plays_26 : decode cX10_plays 26 = .ok (.iload_n 1, 1) := by decide +kernel
theorem dX10_plays_27 : decode cX10_plays 27 = .ok (.bipush 32, 2) := by decide +kernel
theorem dX10_plays_29 : decode cX10_plays 29 = .ok (.iload 4, 2) := by decide +kernel
theorem dX10_plays_31 : decode cX10_plays 31 = .ok (.imul, 1) := by decide +kernel
theorem dX10_plays_32 : decode cX10_plays 32 = .ok (.iconst 2, 1) := by decide +kernel
theorem dX10_plays_33 : decode cX10_plays 33 = .ok (.aload_n 0, 1) := by decide +kernel
theorem dX10_plays_34 : decode cX10_plays 34 = .ok (.getfield 63, 3) := by decide +kernel
theorem dX10_plays_37 : decode cX10_plays 37 = .ok (.iload_n 3, 1) := by decide +kernel
theorem dX10_plays_38 : decode cX10_plays 38 = .ok (.iaload, 1) := by decide +kernel
theorem dX10_plays_39 : decode cX10_plays 39 = .ok (.imul, 1) := by decide +kernel
theorem dX10_plays_40 : decode cX10_plays 40 = .ok (.iadd, 1) := by decide +kernel
theorem dX10_plays_41 : decode cX10_plays 41 = .ok (.aload_n 0, 1) := by decide +kernel
theorem dX10_plays_42 : decode cX10_plays 42 = .ok (.getfield 66, 3) := by decide +kernel
theorem dX10_plays_45 : decode cX10_plays 45 = .ok (.iload_n 3, 1) := by decide +kernel
theorem dX10_plays_46 : decode cX10_plays 46 = .ok (.iaload, 1) := by decide +kernel
theorem dX10_plays_47 : decode cX10_plays 47 = .ok (.iadd, 1) := by decide +kernel
theorem dX10_plays_48 : decode cX10_plays 48 = .ok (.iload_n 2, 1) := by decide +kernel
theorem dX10_plays_49 : decode cX10_plays 49 = .ok (.invokevirtual 196, 3) := by decide +kernel
theorem dX10_plays_52 : decode cX10_plays 52 = .ok (.istore 5, 2) := by decide +kernel
theorem dX10_plays_54 : decode cX10_plays 54 = .ok (.bipush 8, 2) := by decide +kernel
theorem dX10_plays_56 : decode cX10_plays 56 = .ok (.iload_n 1, 1) := by decide +kernel
theorem dX10_plays_57 : decode cX10_plays 57 = .ok (.imul, 1) := by decide +kernel
theorem dX10_plays_58 : decode cX10_plays 58 = .ok (.iload 5, 2) := by decide +kernel
theorem dX10_plays_60 : decode cX10_plays 60 = .ok (.iadd, 1) := by decide +kernel
theorem dX10_plays_61 : decode cX10_plays 61 = .ok (.istore 6, 2) := by decide +kernel
theorem dX10_plays_63 : decode cX10_plays 63 = .ok (.aload_n 0, 1) := by decide +kernel
theorem dX10_plays_64 : decode cX10_plays 64 = .ok (.getfield 72, 3) := by decide +kernel
theorem dX10_plays_67 : decode cX10_plays 67 = .ok (.iload_n 3, 1) := by decide +kernel
theorem dX10_plays_68 : decode cX10_plays 68 = .ok (.iload 5, 2) := by decide +kernel
theorem dX10_plays_70 : decode cX10_plays 70 = .ok (.iastore, 1) := by decide +kernel
theorem dX10_plays_71 : decode cX10_plays 71 = .ok (.aload_n 0, 1) := by decide +kernel
theorem dX10_plays_72 : decode cX10_plays 72 = .ok (.getfield 75, 3) := by decide +kernel
theorem dX10_plays_75 : decode cX10_plays 75 = .ok (.iload_n 3, 1) := by decide +kernel
theorem dX10_plays_76 : decode cX10_plays 76 = .ok (.iload 5, 2) := by decide +kernel
theorem dX10_plays_78 : decode cX10_plays 78 = .ok (.bipush 8, 2) := by decide +kernel
theorem dX10_plays_80 : decode cX10_plays 80 = .ok (.if_icmp .ne 7, 3) := by decide +kernel
theorem dX10_plays_83 : decode cX10_plays 83 = .ok (.iconst 0, 1) := by decide +kernel
theorem dX10_plays_84 : decode cX10_plays 84 = .ok (.goto 10, 3) := by decide +kernel
theorem dX10_plays_87 : decode cX10_plays 87 = .ok (.aload_n 0, 1) := by decide +kernel
theorem dX10_plays_88 : decode cX10_plays 88 = .ok (.getfield 29, 3) := by decide +kernel
theorem dX10_plays_91 : decode cX10_plays 91 = .ok (.iload 6, 2) := by decide +kernel
theorem dX10_plays_93 : decode cX10_plays 93 = .ok (.iaload, 1) := by decide +kernel
theorem dX10_plays_94 : decode cX10_plays 94 = .ok (.iastore, 1) := by decide +kernel
theorem dX10_plays_95 : decode cX10_plays 95 = .ok (.aload_n 0, 1) := by decide +kernel
theorem dX10_plays_96 : decode cX10_plays 96 = .ok (.getfield 69, 3) := by decide +kernel
theorem dX10_plays_99 : decode cX10_plays 99 = .ok (.iload_n 3, 1) := by decide +kernel
theorem dX10_plays_100 : decode cX10_plays 100 = .ok (.iconst 1, 1) := by decide +kernel
theorem dX10_plays_101 : decode cX10_plays 101 = .ok (.iadd, 1) := by decide +kernel
theorem dX10_plays_102 : decode cX10_plays 102 = .ok (.iload 5, 2) := by decide +kernel
theorem dX10_plays_104 : decode cX10_plays 104 = .ok (.bipush 8, 2) := by decide +kernel
theorem dX10_plays_106 : decode cX10_plays 106 = .ok (.if_icmp .eq 13, 3) := by decide +kernel
theorem dX10_plays_109 : decode cX10_plays 109 = .ok (.aload_n 0, 1) := by decide +kernel
theorem dX10_plays_110 : decode cX10_plays 110 = .ok (.getfield 32, 3) := by decide +kernel
theorem dX10_plays_113 : decode cX10_plays 113 = .ok (.iload 6, 2) := by decide +kernel
theorem dX10_plays_115 : decode cX10_plays 115 = .ok (.iaload, 1) := by decide +kernel
theorem dX10_plays_116 : decode cX10_plays 116 = .ok (.ifCond .ge 8, 3) := by decide +kernel
theorem dX10_plays_119 : decode cX10_plays 119 = .ok (.iload 4, 2) := by decide +kernel
theorem dX10_plays_121 : decode cX10_plays 121 = .ok (.goto 10, 3) := by decide +kernel
theorem dX10_plays_124 : decode cX10_plays 124 = .ok (.aload_n 0, 1) := by decide +kernel
theorem dX10_plays_125 : decode cX10_plays 125 = .ok (.getfield 32, 3) := by decide +kernel
theorem dX10_plays_128 : decode cX10_plays 128 = .ok (.iload 6, 2) := by decide +kernel
theorem dX10_plays_130 : decode cX10_plays 130 = .ok (.iaload, 1) := by decide +kernel
theorem dX10_plays_131 : decode cX10_plays 131 = .ok (.iastore, 1) := by decide +kernel
theorem dX10_plays_132 : decode cX10_plays 132 = .ok (.iinc 3 1, 3) := by decide +kernel
theorem dX10_plays_135 : decode cX10_plays 135 = .ok (.goto (-126), 3) := by decide +kernel
theorem dX10_plays_138 : decode cX10_plays 138 = .ok (.return_, 1) := by decide +kernel
theorem dX10_lays_0 : decode cX10_lays 0 = .ok (.iconst 0, 1) := by decide +kernel
theorem dX10_lays_1 : decode cX10_lays 1 = .ok (.istore_n 1, 1) := by decide +kernel
theorem dX10_lays_2 : decode cX10_lays 2 = .ok (.iload_n 1, 1) := by decide +kernel
theorem dX10_lays_3 : decode cX10_lays 3 = .ok (.bipush 12, 2) := by decide +kernel
theorem dX10_lays_5 : decode cX10_lays 5 = .ok (.if_icmp .ge 33, 3) := by decide +kernel
theorem dX10_lays_8 : decode cX10_lays 8 = .ok (.aload_n 0, 1) := by decide +kernel
theorem dX10_lays_9 : decode cX10_lays 9 = .ok (.getfield 63, 3) := by decide +kernel
theorem dX10_lays_12 : decode cX10_lays 12 = .ok (.iload_n 1, 1) := by decide +kernel
theorem dX10_lays_13 : decode cX10_lays 13 = .ok (.aload_n 0, 1) := by decide +kernel
theorem dX10_lays_14 : decode cX10_lays 14 = .ok (.getfield 54, 3) := by decide +kernel
theorem dX10_lays_17 : decode cX10_lays 17 = .ok (.iload_n 1, 1) := by decide +kernel
theorem dX10_lays_18 : decode cX10_lays 18 = .ok (.iaload, 1) := by decide +kernel
theorem dX10_lays_19 : decode cX10_lays 19 = .ok (.iastore, 1) := by decide +kernel
theorem dX10_lays_20 : decode cX10_lays 20 = .ok (.aload_n 0, 1) := by decide +kernel
theorem dX10_lays_21 : decode cX10_lays 21 = .ok (.getfield 66, 3) := by decide +kernel
theorem dX10_lays_24 : decode cX10_lays 24 = .ok (.iload_n 1, 1) := by decide +kernel
theorem dX10_lays_25 : decode cX10_lays 25 = .ok (.aload_n 0, 1) := by decide +kernel
theorem dX10_lays_26 : decode cX10_lays 26 = .ok (.getfield 57, 3) := by decide +kernel
theorem dX10_lays_29 : decode cX10_lays 29 = .ok (.iload_n 1, 1) := by decide +kernel
theorem dX10_lays_30 : decode cX10_lays 30 = .ok (.iaload, 1) := by decide +kernel
theorem dX10_lays_31 : decode cX10_lays 31 = .ok (.iastore, 1) := by decide +kernel
theorem dX10_lays_32 : decode cX10_lays 32 = .ok (.iinc 1 1, 3) := by decide +kernel
theorem dX10_lays_35 : decode cX10_lays 35 = .ok (.goto (-33), 3) := by decide +kernel
theorem dX10_lays_38 : decode cX10_lays 38 = .ok (.return_, 1) := by decide +kernel
theorem dX10_play_0 : decode cX10_play 0 = .ok (.iload_n 1, 1) := by decide +kernel
theorem dX10_play_1 : decode cX10_play 1 = .ok (.invokestatic 173, 3) := by decide +kernel
theorem dX10_play_4 : decode cX10_play 4 = .ok (.ifCond .eq 23, 3) := by decide +kernel
theorem dX10_play_7 : decode cX10_play 7 = .ok (.aload_n 0, 1) := by decide +kernel
theorem dX10_play_8 : decode cX10_play 8 = .ok (.iload_n 2, 1) := by decide +kernel
theorem dX10_play_9 : decode cX10_play 9 = .ok (.invokevirtual 184, 3) := by decide +kernel
theorem dX10_play_12 : decode cX10_play 12 = .ok (.ifCond .eq 15, 3) := by decide +kernel
theorem dX10_play_15 : decode cX10_play 15 = .ok (.iload_n 3, 1) := by decide +kernel
theorem dX10_play_16 : decode cX10_play 16 = .ok (.i2l, 1) := by decide +kernel
theorem dX10_play_17 : decode cX10_play 17 = .ok (.lconst 0, 1) := by decide +kernel
theorem dX10_play_18 : decode cX10_play 18 = .ok (.ldc2_w 180, 3) := by decide +kernel
theorem dX10_play_21 : decode cX10_play 21 = .ok (.invokestatic 131, 3) := by decide +kernel
theorem dX10_play_24 : decode cX10_play 24 = .ok (.ifCond .ne 5, 3) := by decide +kernel
theorem dX10_play_27 : decode cX10_play 27 = .ok (.iconst (-1), 1) := by decide +kernel
theorem dX10_play_28 : decode cX10_play 28 = .ok (.ireturn, 1) := by decide +kernel
theorem dX10_play_29 : decode cX10_play 29 = .ok (.aload_n 0, 1) := by decide +kernel
theorem dX10_play_30 : decode cX10_play 30 = .ok (.invokevirtual 200, 3) := by decide +kernel
theorem dX10_play_33 : decode cX10_play 33 = .ok (.aload_n 0, 1) := by decide +kernel
theorem dX10_play_34 : decode cX10_play 34 = .ok (.iload_n 1, 1) := by decide +kernel
theorem dX10_play_35 : decode cX10_play 35 = .ok (.iconst 0, 1) := by decide +kernel
theorem dX10_play_36 : decode cX10_play 36 = .ok (.invokevirtual 203, 3) := by decide +kernel
theorem dX10_play_39 : decode cX10_play 39 = .ok (.iload_n 3, 1) := by decide +kernel
theorem dX10_play_40 : decode cX10_play 40 = .ok (.ifCond .ne 12, 3) := by decide +kernel
theorem dX10_play_43 : decode cX10_play 43 = .ok (.aload_n 0, 1) := by decide +kernel
theorem dX10_play_44 : decode cX10_play 44 = .ok (.getfield 69, 3) := by decide +kernel
theorem dX10_play_47 : decode cX10_play 47 = .ok (.iload_n 2, 1) := by decide +kernel
theorem dX10_play_48 : decode cX10_play 48 = .ok (.iaload, 1) := by decide +kernel
theorem dX10_play_49 : decode cX10_play 49 = .ok (.goto 23, 3) := by decide +kernel
theorem dX10_play_52 : decode cX10_play 52 = .ok (.iload_n 3, 1) := by decide +kernel
theorem dX10_play_53 : decode cX10_play 53 = .ok (.iconst 1, 1) := by decide +kernel
theorem dX10_play_54 : decode cX10_play 54 = .ok (.if_icmp .ne 12, 3) := by decide +kernel
theorem dX10_play_57 : decode cX10_play 57 = .ok (.aload_n 0, 1) := by decide +kernel
theorem dX10_play_58 : decode cX10_play 58 = .ok (.getfield 72, 3) := by decide +kernel
theorem dX10_play_61 : decode cX10_play 61 = .ok (.iload_n 2, 1) := by decide +kernel
theorem dX10_play_62 : decode cX10_play 62 = .ok (.iaload, 1) := by decide +kernel
theorem dX10_play_63 : decode cX10_play 63 = .ok (.goto 9, 3) := by decide +kernel
theorem dX10_play_66 : decode cX10_play 66 = .ok (.aload_n 0, 1) := by decide +kernel
theorem dX10_play_67 : decode cX10_play 67 = .ok (.getfield 75, 3) := by decide +kernel
theorem dX10_play_70 : decode cX10_play 70 = .ok (.iload_n 2, 1) := by decide +kernel
theorem dX10_play_71 : decode cX10_play 71 = .ok (.iaload, 1) := by decide +kernel
theorem dX10_play_72 : decode cX10_play 72 = .ok (.ireturn, 1) := by decide +kernel
theorem dX10_chooses_0 : decode cX10_chooses 0 = .ok (.iload_n 1, 1) := by decide +kernel
theorem dX10_chooses_1 : decode cX10_chooses 1 = .ok (.invokestatic 173, 3) := by decide +kernel
theorem dX10_chooses_4 : decode cX10_chooses 4 = .ok (.ifCond .eq 38, 3) := by decide +kernel
theorem dX10_chooses_7 : decode cX10_chooses 7 = .ok (.iload_n 2, 1) := by decide +kernel
theorem dX10_chooses_8 : decode cX10_chooses 8 = .ok (.i2l, 1) := by decide +kernel
theorem dX10_chooses_9 : decode cX10_chooses 9 = .ok (.lconst 0, 1) := by decide +kernel
theorem dX10_chooses_10 : decode cX10_chooses 10 = .ok (.ldc2_w 207, 3) := by decide +kernel
theorem dX10_chooses_13 : decode cX10_chooses 13 = .ok (.invokestatic 131, 3) := by decide +kernel
theorem dX10_chooses_16 : decode cX10_chooses 16 = .ok (.ifCond .eq 26, 3) := by decide +kernel
theorem dX10_chooses_19 : decode cX10_chooses 19 = .ok (.iload_n 3, 1) := by decide +kernel
theorem dX10_chooses_20 : decode cX10_chooses 20 = .ok (.i2l, 1) := by decide +kernel
theorem dX10_chooses_21 : decode cX10_chooses 21 = .ok (.lconst 0, 1) := by decide +kernel
theorem dX10_chooses_22 : decode cX10_chooses 22 = .ok (.ldc2_w 187, 3) := by decide +kernel
theorem dX10_chooses_25 : decode cX10_chooses 25 = .ok (.invokestatic 131, 3) := by decide +kernel
theorem dX10_chooses_28 : decode cX10_chooses 28 = .ok (.ifCond .eq 14, 3) := by decide +kernel
theorem dX10_chooses_31 : decode cX10_chooses 31 = .ok (.iload 4, 2) := by decide +kernel
theorem dX10_chooses_33 : decode cX10_chooses 33 = .ok (.i2l, 1) := by decide +kernel
theorem dX10_chooses_34 : decode cX10_chooses 34 = .ok (.lconst 0, 1) := by decide +kernel
theorem dX10_chooses_35 : decode cX10_chooses 35 = .ok (.lconst 1, 1) := by decide +kernel
theorem dX10_chooses_36 : decode cX10_chooses 36 = .ok (.invokestatic 131, 3) := by decide +kernel
theorem dX10_chooses_39 : decode cX10_chooses 39 = .ok (.ifCond .ne 5, 3) := by decide +kernel
theorem dX10_chooses_42 : decode cX10_chooses 42 = .ok (.iconst (-1), 1) := by decide +kernel
theorem dX10_chooses_43 : decode cX10_chooses 43 = .ok (.ireturn, 1) := by decide +kernel
theorem dX10_chooses_44 : decode cX10_chooses 44 = .ok (.aload_n 0, 1) := by decide +kernel
theorem dX10_chooses_45 : decode cX10_chooses 45 = .ok (.iload_n 1, 1) := by decide +kernel
theorem dX10_chooses_46 : decode cX10_chooses 46 = .ok (.bipush 32, 2) := by decide +kernel
theorem dX10_chooses_48 : decode cX10_chooses 48 = .ok (.iload_n 2, 1) := by decide +kernel
theorem dX10_chooses_49 : decode cX10_chooses 49 = .ok (.imul, 1) := by decide +kernel
theorem dX10_chooses_50 : decode cX10_chooses 50 = .ok (.iconst 2, 1) := by decide +kernel
theorem dX10_chooses_51 : decode cX10_chooses 51 = .ok (.iload_n 3, 1) := by decide +kernel
theorem dX10_chooses_52 : decode cX10_chooses 52 = .ok (.imul, 1) := by decide +kernel
theorem dX10_chooses_53 : decode cX10_chooses 53 = .ok (.iadd, 1) := by decide +kernel
theorem dX10_chooses_54 : decode cX10_chooses 54 = .ok (.iload 4, 2) := by decide +kernel
theorem dX10_chooses_56 : decode cX10_chooses 56 = .ok (.iadd, 1) := by decide +kernel
theorem dX10_chooses_57 : decode cX10_chooses 57 = .ok (.iconst 0, 1) := by decide +kernel
theorem dX10_chooses_58 : decode cX10_chooses 58 = .ok (.invokevirtual 196, 3) := by decide +kernel
theorem dX10_chooses_61 : decode cX10_chooses 61 = .ok (.ireturn, 1) := by decide +kernel
theorem dX10_writes_0 : decode cX10_writes 0 = .ok (.aload_n 0, 1) := by decide +kernel
theorem dX10_writes_1 : decode cX10_writes 1 = .ok (.getfield 78, 3) := by decide +kernel
theorem dX10_writes_4 : decode cX10_writes 4 = .ok (.aload_n 0, 1) := by decide +kernel
theorem dX10_writes_5 : decode cX10_writes 5 = .ok (.getfield 209, 3) := by decide +kernel
theorem dX10_writes_8 : decode cX10_writes 8 = .ok (.iload_n 1, 1) := by decide +kernel
theorem dX10_writes_9 : decode cX10_writes 9 = .ok (.iastore, 1) := by decide +kernel
theorem dX10_writes_10 : decode cX10_writes 10 = .ok (.aload_n 0, 1) := by decide +kernel
theorem dX10_writes_11 : decode cX10_writes 11 = .ok (.getfield 81, 3) := by decide +kernel
theorem dX10_writes_14 : decode cX10_writes 14 = .ok (.aload_n 0, 1) := by decide +kernel
theorem dX10_writes_15 : decode cX10_writes 15 = .ok (.getfield 209, 3) := by decide +kernel
theorem dX10_writes_18 : decode cX10_writes 18 = .ok (.iload_n 2, 1) := by decide +kernel
theorem dX10_writes_19 : decode cX10_writes 19 = .ok (.iastore, 1) := by decide +kernel
theorem dX10_writes_20 : decode cX10_writes 20 = .ok (.aload_n 0, 1) := by decide +kernel
theorem dX10_writes_21 : decode cX10_writes 21 = .ok (.getfield 84, 3) := by decide +kernel
theorem dX10_writes_24 : decode cX10_writes 24 = .ok (.aload_n 0, 1) := by decide +kernel
theorem dX10_writes_25 : decode cX10_writes 25 = .ok (.getfield 209, 3) := by decide +kernel
theorem dX10_writes_28 : decode cX10_writes 28 = .ok (.iload_n 3, 1) := by decide +kernel
theorem dX10_writes_29 : decode cX10_writes 29 = .ok (.iastore, 1) := by decide +kernel
theorem dX10_writes_30 : decode cX10_writes 30 = .ok (.aload_n 0, 1) := by decide +kernel
theorem dX10_writes_31 : decode cX10_writes 31 = .ok (.dup, 1) := by decide +kernel
theorem dX10_writes_32 : decode cX10_writes 32 = .ok (.getfield 209, 3) := by decide +kernel
theorem dX10_writes_35 : decode cX10_writes 35 = .ok (.iconst 1, 1) := by decide +kernel
theorem dX10_writes_36 : decode cX10_writes 36 = .ok (.iadd, 1) := by decide +kernel
theorem dX10_writes_37 : decode cX10_writes 37 = .ok (.putfield 209, 3) := by decide +kernel
theorem dX10_writes_40 : decode cX10_writes 40 = .ok (.return_, 1) := by decide +kernel
theorem dX10_loses_0 : decode cX10_loses 0 = .ok (.iload_n 2, 1) := by decide +kernel
theorem dX10_loses_1 : decode cX10_loses 1 = .ok (.istore_n 3, 1) := by decide +kernel
theorem dX10_loses_2 : decode cX10_loses 2 = .ok (.aload_n 0, 1) := by decide +kernel
theorem dX10_loses_3 : decode cX10_loses 3 = .ok (.getfield 209, 3) := by decide +kernel
theorem dX10_loses_6 : decode cX10_loses 6 = .ok (.iconst 1, 1) := by decide +kernel
theorem dX10_loses_7 : decode cX10_loses 7 = .ok (.isub, 1) := by decide +kernel
theorem dX10_loses_8 : decode cX10_loses 8 = .ok (.istore 4, 2) := by decide +kernel
theorem dX10_loses_10 : decode cX10_loses 10 = .ok (.iload 4, 2) := by decide +kernel
theorem dX10_loses_12 : decode cX10_loses 12 = .ok (.ifCond .lt 43, 3) := by decide +kernel
theorem dX10_loses_15 : decode cX10_loses 15 = .ok (.iload_n 3, 1) := by decide +kernel
theorem dX10_loses_16 : decode cX10_loses 16 = .ok (.ifCond .le 33, 3) := by decide +kernel
theorem dX10_loses_19 : decode cX10_loses 19 = .ok (.aload_n 0, 1) := by decide +kernel
theorem dX10_loses_20 : decode cX10_loses 20 = .ok (.getfield 78, 3) := by decide +kernel
theorem dX10_loses_23 : decode cX10_loses 23 = .ok (.iload 4, 2) := by decide +kernel
theorem dX10_loses_25 : decode cX10_loses 25 = .ok (.iaload, 1) := by decide +kernel
theorem dX10_loses_26 : decode cX10_loses 26 = .ok (.iload_n 1, 1) := by decide +kernel
theorem dX10_loses_27 : decode cX10_loses 27 = .ok (.if_icmp .ne 22, 3) := by decide +kernel
theorem dX10_loses_30 : decode cX10_loses 30 = .ok (.aload_n 0, 1) := by decide +kernel
theorem dX10_loses_31 : decode cX10_loses 31 = .ok (.getfield 78, 3) := by decide +kernel
theorem dX10_loses_34 : decode cX10_loses 34 = .ok (.iload 4, 2) := by decide +kernel
theorem dX10_loses_36 : decode cX10_loses 36 = .ok (.iconst 5, 1) := by decide +kernel
theorem dX10_loses_37 : decode cX10_loses 37 = .ok (.iastore, 1) := by decide +kernel
theorem dX10_loses_38 : decode cX10_loses 38 = .ok (.aload_n 0, 1) := by decide +kernel
theorem dX10_loses_39 : decode cX10_loses 39 = .ok (.getfield 84, 3) := by decide +kernel
theorem dX10_loses_42 : decode cX10_loses 42 = .ok (.iload 4, 2) := by decide +kernel
theorem dX10_loses_44 : decode cX10_loses 44 = .ok (.iconst 0, 1) := by decide +kernel
theorem dX10_loses_45 : decode cX10_loses 45 = .ok (.iastore, 1) := by decide +kernel
theorem dX10_loses_46 : decode cX10_loses 46 = .ok (.iinc 3 (-1), 3) := by decide +kernel
theorem dX10_loses_49 : decode cX10_loses 49 = .ok (.iinc 4 (-1), 3) := by decide +kernel
theorem dX10_loses_52 : decode cX10_loses 52 = .ok (.goto (-42), 3) := by decide +kernel
theorem dX10_loses_55 : decode cX10_loses 55 = .ok (.iload_n 3, 1) := by decide +kernel
theorem dX10_loses_56 : decode cX10_loses 56 = .ok (.ireturn, 1) := by decide +kernel
theorem dX10_write_0 : decode cX10_write 0 = .ok (.iload_n 1, 1) := by decide +kernel
theorem dX10_write_1 : decode cX10_write 1 = .ok (.i2l, 1) := by decide +kernel
theorem dX10_write_2 : decode cX10_write 2 = .ok (.lconst 0, 1) := by decide +kernel
theorem dX10_write_3 : decode cX10_write 3 = .ok (.ldc2_w 155, 3) := by decide +kernel
theorem dX10_write_6 : decode cX10_write 6 = .ok (.invokestatic 131, 3) := by decide +kernel
theorem dX10_write_9 : decode cX10_write 9 = .ok (.ifCond .ne 5, 3) := by decide +kernel
theorem dX10_write_12 : decode cX10_write 12 = .ok (.iconst (-1), 1) := by decide +kernel
theorem dX10_write_13 : decode cX10_write 13 = .ok (.ireturn, 1) := by decide +kernel
theorem dX10_write_14 : decode cX10_write 14 = .ok (.aload_n 0, 1) := by decide +kernel
theorem dX10_write_15 : decode cX10_write 15 = .ok (.invokevirtual 200, 3) := by decide +kernel
theorem dX10_write_18 : decode cX10_write 18 = .ok (.aload_n 0, 1) := by decide +kernel
theorem dX10_write_19 : decode cX10_write 19 = .ok (.iconst 0, 1) := by decide +kernel
theorem dX10_write_20 : decode cX10_write 20 = .ok (.iconst 0, 1) := by decide +kernel
theorem dX10_write_21 : decode cX10_write 21 = .ok (.invokevirtual 203, 3) := by decide +kernel
theorem dX10_write_24 : decode cX10_write 24 = .ok (.aload_n 0, 1) := by decide +kernel
theorem dX10_write_25 : decode cX10_write 25 = .ok (.iconst 0, 1) := by decide +kernel
theorem dX10_write_26 : decode cX10_write 26 = .ok (.putfield 209, 3) := by decide +kernel
theorem dX10_write_29 : decode cX10_write 29 = .ok (.iconst 0, 1) := by decide +kernel
theorem dX10_write_30 : decode cX10_write 30 = .ok (.istore_n 2, 1) := by decide +kernel
theorem dX10_write_31 : decode cX10_write 31 = .ok (.iload_n 2, 1) := by decide +kernel
theorem dX10_write_32 : decode cX10_write 32 = .ok (.aload_n 0, 1) := by decide +kernel
theorem dX10_write_33 : decode cX10_write 33 = .ok (.getfield 50, 3) := by decide +kernel
theorem dX10_write_36 : decode cX10_write 36 = .ok (.if_icmp .ge 57, 3) := by decide +kernel
theorem dX10_write_39 : decode cX10_write 39 = .ok (.aload_n 0, 1) := by decide +kernel
theorem dX10_write_40 : decode cX10_write 40 = .ok (.iconst 0, 1) := by decide +kernel
theorem dX10_write_41 : decode cX10_write 41 = .ok (.iload_n 2, 1) := by decide +kernel
theorem dX10_write_42 : decode cX10_write 42 = .ok (.aload_n 0, 1) := by decide +kernel
theorem dX10_write_43 : decode cX10_write 43 = .ok (.getfield 54, 3) := by decide +kernel
theorem dX10_write_46 : decode cX10_write 46 = .ok (.iload_n 2, 1) := by decide +kernel
theorem dX10_write_47 : decode cX10_write 47 = .ok (.iaload, 1) := by decide +kernel
theorem dX10_write_48 : decode cX10_write 48 = .ok (.invokevirtual 212, 3) := by decide +kernel
theorem dX10_write_51 : decode cX10_write 51 = .ok (.aload_n 0, 1) := by decide +kernel
theorem dX10_write_52 : decode cX10_write 52 = .ok (.iconst 3, 1) := by decide +kernel
theorem dX10_write_53 : decode cX10_write 53 = .ok (.iload_n 2, 1) := by decide +kernel
theorem dX10_write_54 : decode cX10_write 54 = .ok (.aload_n 0, 1) := by decide +kernel
theorem dX10_write_55 : decode cX10_write 55 = .ok (.getfield 57, 3) := by decide +kernel
theorem dX10_write_58 : decode cX10_write 58 = .ok (.iload_n 2, 1) := by decide +kernel
theorem dX10_write_59 : decode cX10_write 59 = .ok (.iaload, 1) := by decide +kernel
theorem dX10_write_60 : decode cX10_write 60 = .ok (.invokevirtual 212, 3) := by decide +kernel
theorem dX10_write_63 : decode cX10_write 63 = .ok (.aload_n 0, 1) := by decide +kernel
theorem dX10_write_64 : decode cX10_write 64 = .ok (.iconst 1, 1) := by decide +kernel
theorem dX10_write_65 : decode cX10_write 65 = .ok (.iload_n 2, 1) := by decide +kernel
theorem dX10_write_66 : decode cX10_write 66 = .ok (.aload_n 0, 1) := by decide +kernel
theorem dX10_write_67 : decode cX10_write 67 = .ok (.getfield 72, 3) := by decide +kernel
theorem dX10_write_70 : decode cX10_write 70 = .ok (.iload_n 2, 1) := by decide +kernel
theorem dX10_write_71 : decode cX10_write 71 = .ok (.iaload, 1) := by decide +kernel
theorem dX10_write_72 : decode cX10_write 72 = .ok (.invokevirtual 212, 3) := by decide +kernel
theorem dX10_write_75 : decode cX10_write 75 = .ok (.aload_n 0, 1) := by decide +kernel
theorem dX10_write_76 : decode cX10_write 76 = .ok (.iconst 2, 1) := by decide +kernel
theorem dX10_write_77 : decode cX10_write 77 = .ok (.iload_n 2, 1) := by decide +kernel
theorem dX10_write_78 : decode cX10_write 78 = .ok (.aload_n 0, 1) := by decide +kernel
theorem dX10_write_79 : decode cX10_write 79 = .ok (.getfield 75, 3) := by decide +kernel
theorem dX10_write_82 : decode cX10_write 82 = .ok (.iload_n 2, 1) := by decide +kernel
theorem dX10_write_83 : decode cX10_write 83 = .ok (.iaload, 1) := by decide +kernel
theorem dX10_write_84 : decode cX10_write 84 = .ok (.invokevirtual 212, 3) := by decide +kernel
theorem dX10_write_87 : decode cX10_write 87 = .ok (.iinc 2 1, 3) := by decide +kernel
theorem dX10_write_90 : decode cX10_write 90 = .ok (.goto (-59), 3) := by decide +kernel
theorem dX10_write_93 : decode cX10_write 93 = .ok (.aload_n 0, 1) := by decide +kernel
theorem dX10_write_94 : decode cX10_write 94 = .ok (.getfield 209, 3) := by decide +kernel
theorem dX10_write_97 : decode cX10_write 97 = .ok (.iload_n 1, 1) := by decide +kernel
theorem dX10_write_98 : decode cX10_write 98 = .ok (.if_icmp .le 12, 3) := by decide +kernel
theorem dX10_write_101 : decode cX10_write 101 = .ok (.aload_n 0, 1) := by decide +kernel
theorem dX10_write_102 : decode cX10_write 102 = .ok (.getfield 209, 3) := by decide +kernel
theorem dX10_write_105 : decode cX10_write 105 = .ok (.iload_n 1, 1) := by decide +kernel
theorem dX10_write_106 : decode cX10_write 106 = .ok (.isub, 1) := by decide +kernel
theorem dX10_write_107 : decode cX10_write 107 = .ok (.goto 4, 3) := by decide +kernel
theorem dX10_write_110 : decode cX10_write 110 = .ok (.iconst 0, 1) := by decide +kernel
theorem dX10_write_111 : decode cX10_write 111 = .ok (.istore_n 2, 1) := by decide +kernel
theorem dX10_write_112 : decode cX10_write 112 = .ok (.aload_n 0, 1) := by decide +kernel
theorem dX10_write_113 : decode cX10_write 113 = .ok (.iconst 2, 1) := by decide +kernel
theorem dX10_write_114 : decode cX10_write 114 = .ok (.aload_n 0, 1) := by decide +kernel
theorem dX10_write_115 : decode cX10_write 115 = .ok (.iconst 0, 1) := by decide +kernel
theorem dX10_write_116 : decode cX10_write 116 = .ok (.aload_n 0, 1) := by decide +kernel
theorem dX10_write_117 : decode cX10_write 117 = .ok (.iconst 3, 1) := by decide +kernel
theorem dX10_write_118 : decode cX10_write 118 = .ok (.aload_n 0, 1) := by decide +kernel
theorem dX10_write_119 : decode cX10_write 119 = .ok (.iconst 1, 1) := by decide +kernel
theorem dX10_write_120 : decode cX10_write 120 = .ok (.iload_n 2, 1) := by decide +kernel
theorem dX10_write_121 : decode cX10_write 121 = .ok (.invokevirtual 216, 3) := by decide +kernel
theorem dX10_write_124 : decode cX10_write 124 = .ok (.invokevirtual 216, 3) := by decide +kernel
theorem dX10_write_127 : decode cX10_write 127 = .ok (.invokevirtual 216, 3) := by decide +kernel
theorem dX10_write_130 : decode cX10_write 130 = .ok (.invokevirtual 216, 3) := by decide +kernel
theorem dX10_write_133 : decode cX10_write 133 = .ok (.istore_n 3, 1) := by decide +kernel
theorem dX10_write_134 : decode cX10_write 134 = .ok (.iload_n 2, 1) := by decide +kernel
theorem dX10_write_135 : decode cX10_write 135 = .ok (.iload_n 3, 1) := by decide +kernel
theorem dX10_write_136 : decode cX10_write 136 = .ok (.isub, 1) := by decide +kernel
theorem dX10_write_137 : decode cX10_write 137 = .ok (.ireturn, 1) := by decide +kernel
theorem dX10_tell_0 : decode cX10_tell 0 = .ok (.iload_n 1, 1) := by decide +kernel
theorem dX10_tell_1 : decode cX10_tell 1 = .ok (.i2l, 1) := by decide +kernel
theorem dX10_tell_2 : decode cX10_tell 2 = .ok (.lconst 0, 1) := by decide +kernel
theorem dX10_tell_3 : decode cX10_tell 3 = .ok (.ldc2_w 220, 3) := by decide +kernel
theorem dX10_tell_6 : decode cX10_tell 6 = .ok (.invokestatic 131, 3) := by decide +kernel
theorem dX10_tell_9 : decode cX10_tell 9 = .ok (.ifCond .eq 15, 3) := by decide +kernel
theorem dX10_tell_12 : decode cX10_tell 12 = .ok (.iload_n 2, 1) := by decide +kernel
theorem dX10_tell_13 : decode cX10_tell 13 = .ok (.i2l, 1) := by decide +kernel
theorem dX10_tell_14 : decode cX10_tell 14 = .ok (.lconst 0, 1) := by decide +kernel
theorem dX10_tell_15 : decode cX10_tell 15 = .ok (.ldc2_w 222, 3) := by decide +kernel
theorem dX10_tell_18 : decode cX10_tell 18 = .ok (.invokestatic 131, 3) := by decide +kernel
theorem dX10_tell_21 : decode cX10_tell 21 = .ok (.ifCond .ne 5, 3) := by decide +kernel
theorem dX10_tell_24 : decode cX10_tell 24 = .ok (.iconst (-1), 1) := by decide +kernel
theorem dX10_tell_25 : decode cX10_tell 25 = .ok (.ireturn, 1) := by decide +kernel
theorem dX10_tell_26 : decode cX10_tell 26 = .ok (.aload_n 0, 1) := by decide +kernel
theorem dX10_tell_27 : decode cX10_tell 27 = .ok (.getfield 209, 3) := by decide +kernel
theorem dX10_tell_30 : decode cX10_tell 30 = .ok (.bipush 48, 2) := by decide +kernel
theorem dX10_tell_32 : decode cX10_tell 32 = .ok (.if_icmp .ne 6, 3) := by decide +kernel
theorem dX10_tell_35 : decode cX10_tell 35 = .ok (.bipush (-3), 2) := by decide +kernel
theorem dX10_tell_37 : decode cX10_tell 37 = .ok (.ireturn, 1) := by decide +kernel
theorem dX10_tell_38 : decode cX10_tell 38 = .ok (.aload_n 0, 1) := by decide +kernel
theorem dX10_tell_39 : decode cX10_tell 39 = .ok (.iconst 4, 1) := by decide +kernel
theorem dX10_tell_40 : decode cX10_tell 40 = .ok (.iload_n 1, 1) := by decide +kernel
theorem dX10_tell_41 : decode cX10_tell 41 = .ok (.iload_n 2, 1) := by decide +kernel
theorem dX10_tell_42 : decode cX10_tell 42 = .ok (.invokevirtual 212, 3) := by decide +kernel
theorem dX10_tell_45 : decode cX10_tell 45 = .ok (.aload_n 0, 1) := by decide +kernel
theorem dX10_tell_46 : decode cX10_tell 46 = .ok (.getfield 209, 3) := by decide +kernel
theorem dX10_tell_49 : decode cX10_tell 49 = .ok (.iconst 1, 1) := by decide +kernel
theorem dX10_tell_50 : decode cX10_tell 50 = .ok (.isub, 1) := by decide +kernel
theorem dX10_tell_51 : decode cX10_tell 51 = .ok (.ireturn, 1) := by decide +kernel
theorem dX10_isLine_0 : decode cX10_isLine 0 = .ok (.iload_n 1, 1) := by decide +kernel
theorem dX10_isLine_1 : decode cX10_isLine 1 = .ok (.i2l, 1) := by decide +kernel
theorem dX10_isLine_2 : decode cX10_isLine 2 = .ok (.lconst 0, 1) := by decide +kernel
theorem dX10_isLine_3 : decode cX10_isLine 3 = .ok (.aload_n 0, 1) := by decide +kernel
theorem dX10_isLine_4 : decode cX10_isLine 4 = .ok (.getfield 209, 3) := by decide +kernel
theorem dX10_isLine_7 : decode cX10_isLine 7 = .ok (.iconst 1, 1) := by decide +kernel
theorem dX10_isLine_8 : decode cX10_isLine 8 = .ok (.isub, 1) := by decide +kernel
theorem dX10_isLine_9 : decode cX10_isLine 9 = .ok (.i2l, 1) := by decide +kernel
theorem dX10_isLine_10 : decode cX10_isLine 10 = .ok (.invokestatic 131, 3) := by decide +kernel
theorem dX10_isLine_13 : decode cX10_isLine 13 = .ok (.ireturn, 1) := by decide +kernel
theorem dX10_seal_0 : decode cX10_seal 0 = .ok (.iconst 1, 1) := by decide +kernel
theorem dX10_seal_1 : decode cX10_seal 1 = .ok (.istore_n 1, 1) := by decide +kernel
theorem dX10_seal_2 : decode cX10_seal 2 = .ok (.iconst 0, 1) := by decide +kernel
theorem dX10_seal_3 : decode cX10_seal 3 = .ok (.istore_n 2, 1) := by decide +kernel
theorem dX10_seal_4 : decode cX10_seal 4 = .ok (.iload_n 2, 1) := by decide +kernel
theorem dX10_seal_5 : decode cX10_seal 5 = .ok (.aload_n 0, 1) := by decide +kernel
theorem dX10_seal_6 : decode cX10_seal 6 = .ok (.getfield 209, 3) := by decide +kernel
theorem dX10_seal_9 : decode cX10_seal 9 = .ok (.if_icmp .ge 58, 3) := by decide +kernel
theorem dX10_seal_12 : decode cX10_seal 12 = .ok (.bipush 31, 2) := by decide +kernel
theorem dX10_seal_14 : decode cX10_seal 14 = .ok (.iload_n 1, 1) := by decide +kernel
theorem dX10_seal_15 : decode cX10_seal 15 = .ok (.imul, 1) := by decide +kernel
theorem dX10_seal_16 : decode cX10_seal 16 = .ok (.sipush 131, 3) := by decide +kernel
theorem dX10_seal_19 : decode cX10_seal 19 = .ok (.aload_n 0, 1) := by decide +kernel
theorem dX10_seal_20 : decode cX10_seal 20 = .ok (.getfield 78, 3) := by decide +kernel
theorem dX10_seal_23 : decode cX10_seal 23 = .ok (.iload_n 2, 1) := by decide +kernel
theorem dX10_seal_24 : decode cX10_seal 24 = .ok (.iaload, 1) := by decide +kernel
theorem dX10_seal_25 : decode cX10_seal 25 = .ok (.imul, 1) := by decide +kernel
theorem dX10_seal_26 : decode cX10_seal 26 = .ok (.iadd, 1) := by decide +kernel
theorem dX10_seal_27 : decode cX10_seal 27 = .ok (.bipush 17, 2) := by decide +kernel
theorem dX10_seal_29 : decode cX10_seal 29 = .ok (.aload_n 0, 1) := by decide +kernel
theorem dX10_seal_30 : decode cX10_seal 30 = .ok (.getfield 81, 3) := by decide +kernel
theorem dX10_seal_33 : decode cX10_seal 33 = .ok (.iload_n 2, 1) := by decide +kernel
theorem dX10_seal_34 : decode cX10_seal 34 = .ok (.iaload, 1) := by decide +kernel
theorem dX10_seal_35 : decode cX10_seal 35 = .ok (.imul, 1) := by decide +kernel
theorem dX10_seal_36 : decode cX10_seal 36 = .ok (.iadd, 1) := by decide +kernel
theorem dX10_seal_37 : decode cX10_seal 37 = .ok (.bipush 7, 2) := by decide +kernel
theorem dX10_seal_39 : decode cX10_seal 39 = .ok (.aload_n 0, 1) := by decide +kernel
theorem dX10_seal_40 : decode cX10_seal 40 = .ok (.getfield 84, 3) := by decide +kernel
theorem dX10_seal_43 : decode cX10_seal 43 = .ok (.iload_n 2, 1) := by decide +kernel
theorem dX10_seal_44 : decode cX10_seal 44 = .ok (.iaload, 1) := by decide +kernel
theorem dX10_seal_45 : decode cX10_seal 45 = .ok (.imul, 1) := by decide +kernel
theorem dX10_seal_46 : decode cX10_seal 46 = .ok (.iadd, 1) := by decide +kernel
theorem dX10_seal_47 : decode cX10_seal 47 = .ok (.iconst 1, 1) := by decide +kernel
theorem dX10_seal_48 : decode cX10_seal 48 = .ok (.iadd, 1) := by decide +kernel
theorem dX10_seal_49 : decode cX10_seal 49 = .ok (.sipush 9973, 3) := by decide +kernel
theorem dX10_seal_52 : decode cX10_seal 52 = .ok (.irem, 1) := by decide +kernel
theorem dX10_seal_53 : decode cX10_seal 53 = .ok (.istore_n 1, 1) := by decide +kernel
theorem dX10_seal_54 : decode cX10_seal 54 = .ok (.aload_n 0, 1) := by decide +kernel
theorem dX10_seal_55 : decode cX10_seal 55 = .ok (.getfield 87, 3) := by decide +kernel
theorem dX10_seal_58 : decode cX10_seal 58 = .ok (.iload_n 2, 1) := by decide +kernel
theorem dX10_seal_59 : decode cX10_seal 59 = .ok (.iload_n 1, 1) := by decide +kernel
theorem dX10_seal_60 : decode cX10_seal 60 = .ok (.iastore, 1) := by decide +kernel
theorem dX10_seal_61 : decode cX10_seal 61 = .ok (.iinc 2 1, 3) := by decide +kernel
theorem dX10_seal_64 : decode cX10_seal 64 = .ok (.goto (-60), 3) := by decide +kernel
theorem dX10_seal_67 : decode cX10_seal 67 = .ok (.return_, 1) := by decide +kernel
theorem dX10_isHeld_0 : decode cX10_isHeld 0 = .ok (.iconst 0, 1) := by decide +kernel
theorem dX10_isHeld_1 : decode cX10_isHeld 1 = .ok (.istore_n 2, 1) := by decide +kernel
theorem dX10_isHeld_2 : decode cX10_isHeld 2 = .ok (.iconst 0, 1) := by decide +kernel
theorem dX10_isHeld_3 : decode cX10_isHeld 3 = .ok (.istore_n 3, 1) := by decide +kernel
theorem dX10_isHeld_4 : decode cX10_isHeld 4 = .ok (.iconst 0, 1) := by decide +kernel
theorem dX10_isHeld_5 : decode cX10_isHeld 5 = .ok (.istore 4, 2) := by decide +kernel
theorem dX10_isHeld_7 : decode cX10_isHeld 7 = .ok (.iload 4, 2) := by decide +kernel
theorem dX10_isHeld_9 : decode cX10_isHeld 9 = .ok (.iconst 3, 1) := by decide +kernel
theorem dX10_isHeld_10 : decode cX10_isHeld 10 = .ok (.if_icmp .ge 67, 3) := by decide +kernel
theorem dX10_isHeld_13 : decode cX10_isHeld 13 = .ok (.iload_n 2, 1) := by decide +kernel
theorem dX10_isHeld_14 : decode cX10_isHeld 14 = .ok (.aload_n 0, 1) := by decide +kernel
theorem dX10_isHeld_15 : decode cX10_isHeld 15 = .ok (.getfield 90, 3) := by decide +kernel
theorem dX10_isHeld_18 : decode cX10_isHeld 18 = .ok (.iload 4, 2) := by decide +kernel
theorem dX10_isHeld_20 : decode cX10_isHeld 20 = .ok (.iaload, 1) := by decide +kernel
theorem dX10_isHeld_21 : decode cX10_isHeld 21 = .ok (.ifCond .le 7, 3) := by decide +kernel
theorem dX10_isHeld_24 : decode cX10_isHeld 24 = .ok (.iconst 1, 1) := by decide +kernel
theorem dX10_isHeld_25 : decode cX10_isHeld 25 = .ok (.goto 4, 3) := by decide +kernel
theorem dX10_isHeld_28 : decode cX10_isHeld 28 = .ok (.iconst 0, 1) := by decide +kernel
theorem dX10_isHeld_29 : decode cX10_isHeld 29 = .ok (.iadd, 1) := by decide +kernel
theorem dX10_isHeld_30 : decode cX10_isHeld 30 = .ok (.istore_n 2, 1) := by decide +kernel
theorem dX10_isHeld_31 : decode cX10_isHeld 31 = .ok (.iload_n 3, 1) := by decide +kernel
theorem dX10_isHeld_32 : decode cX10_isHeld 32 = .ok (.iload_n 1, 1) := by decide +kernel
theorem dX10_isHeld_33 : decode cX10_isHeld 33 = .ok (.aload_n 0, 1) := by decide +kernel
theorem dX10_isHeld_34 : decode cX10_isHeld 34 = .ok (.getfield 90, 3) := by decide +kernel
theorem dX10_isHeld_37 : decode cX10_isHeld 37 = .ok (.iload 4, 2) := by decide +kernel
theorem dX10_isHeld_39 : decode cX10_isHeld 39 = .ok (.iaload, 1) := by decide +kernel
theorem dX10_isHeld_40 : decode cX10_isHeld 40 = .ok (.if_icmp .ge 28, 3) := by decide +kernel
theorem dX10_isHeld_43 : decode cX10_isHeld 43 = .ok (.aload_n 0, 1) := by decide +kernel
theorem dX10_isHeld_44 : decode cX10_isHeld 44 = .ok (.getfield 93, 3) := by decide +kernel
theorem dX10_isHeld_47 : decode cX10_isHeld 47 = .ok (.bipush 48, 2) := by decide +kernel
theorem dX10_isHeld_49 : decode cX10_isHeld 49 = .ok (.iload 4, 2) := by decide +kernel
theorem dX10_isHeld_51 : decode cX10_isHeld 51 = .ok (.imul, 1) := by decide +kernel
theorem dX10_isHeld_52 : decode cX10_isHeld 52 = .ok (.iload_n 1, 1) := by decide +kernel
theorem dX10_isHeld_53 : decode cX10_isHeld 53 = .ok (.iadd, 1) := by decide +kernel
theorem dX10_isHeld_54 : decode cX10_isHeld 54 = .ok (.iaload, 1) := by decide +kernel
theorem dX10_isHeld_55 : decode cX10_isHeld 55 = .ok (.aload_n 0, 1) := by decide +kernel
theorem dX10_isHeld_56 : decode cX10_isHeld 56 = .ok (.getfield 87, 3) := by decide +kernel
theorem dX10_isHeld_59 : decode cX10_isHeld 59 = .ok (.iload_n 1, 1) := by decide +kernel
theorem dX10_isHeld_60 : decode cX10_isHeld 60 = .ok (.iaload, 1) := by decide +kernel
theorem dX10_isHeld_61 : decode cX10_isHeld 61 = .ok (.if_icmp .ne 7, 3) := by decide +kernel
theorem dX10_isHeld_64 : decode cX10_isHeld 64 = .ok (.iconst 1, 1) := by decide +kernel
theorem dX10_isHeld_65 : decode cX10_isHeld 65 = .ok (.goto 4, 3) := by decide +kernel
theorem dX10_isHeld_68 : decode cX10_isHeld 68 = .ok (.iconst 0, 1) := by decide +kernel
theorem dX10_isHeld_69 : decode cX10_isHeld 69 = .ok (.iadd, 1) := by decide +kernel
theorem dX10_isHeld_70 : decode cX10_isHeld 70 = .ok (.istore_n 3, 1) := by decide +kernel
theorem dX10_isHeld_71 : decode cX10_isHeld 71 = .ok (.iinc 4 1, 3) := by decide +kernel
theorem dX10_isHeld_74 : decode cX10_isHeld 74 = .ok (.goto (-67), 3) := by decide +kernel
theorem dX10_isHeld_77 : decode cX10_isHeld 77 = .ok (.iload_n 2, 1) := by decide +kernel
theorem dX10_isHeld_78 : decode cX10_isHeld 78 = .ok (.iconst 1, 1) := by decide +kernel
theorem dX10_isHeld_79 : decode cX10_isHeld 79 = .ok (.if_icmp .ne 16, 3) := by decide +kernel
theorem dX10_isHeld_82 : decode cX10_isHeld 82 = .ok (.iload_n 3, 1) := by decide +kernel
theorem dX10_isHeld_83 : decode cX10_isHeld 83 = .ok (.iconst 1, 1) := by decide +kernel
theorem dX10_isHeld_84 : decode cX10_isHeld 84 = .ok (.if_icmp .ne 7, 3) := by decide +kernel
theorem dX10_isHeld_87 : decode cX10_isHeld 87 = .ok (.iconst 1, 1) := by decide +kernel
theorem dX10_isHeld_88 : decode cX10_isHeld 88 = .ok (.goto 17, 3) := by decide +kernel
theorem dX10_isHeld_91 : decode cX10_isHeld 91 = .ok (.iconst 0, 1) := by decide +kernel
theorem dX10_isHeld_92 : decode cX10_isHeld 92 = .ok (.goto 13, 3) := by decide +kernel
theorem dX10_isHeld_95 : decode cX10_isHeld 95 = .ok (.iload_n 3, 1) := by decide +kernel
theorem dX10_isHeld_96 : decode cX10_isHeld 96 = .ok (.iconst 2, 1) := by decide +kernel
theorem dX10_isHeld_97 : decode cX10_isHeld 97 = .ok (.if_icmp .lt 7, 3) := by decide +kernel
theorem dX10_isHeld_100 : decode cX10_isHeld 100 = .ok (.iconst 1, 1) := by decide +kernel
theorem dX10_isHeld_101 : decode cX10_isHeld 101 = .ok (.goto 4, 3) := by decide +kernel
theorem dX10_isHeld_104 : decode cX10_isHeld 104 = .ok (.iconst 0, 1) := by decide +kernel
theorem dX10_isHeld_105 : decode cX10_isHeld 105 = .ok (.ireturn, 1) := by decide +kernel
theorem dX10_line_0 : decode cX10_line 0 = .ok (.aload_n 0, 1) := by decide +kernel
theorem dX10_line_1 : decode cX10_line 1 = .ok (.iload_n 1, 1) := by decide +kernel
theorem dX10_line_2 : decode cX10_line 2 = .ok (.invokevirtual 224, 3) := by decide +kernel
theorem dX10_line_5 : decode cX10_line 5 = .ok (.ifCond .eq 15, 3) := by decide +kernel
theorem dX10_line_8 : decode cX10_line 8 = .ok (.iload_n 2, 1) := by decide +kernel
theorem dX10_line_9 : decode cX10_line 9 = .ok (.i2l, 1) := by decide +kernel
theorem dX10_line_10 : decode cX10_line 10 = .ok (.lconst 0, 1) := by decide +kernel
theorem dX10_line_11 : decode cX10_line 11 = .ok (.ldc2_w 227, 3) := by decide +kernel
theorem dX10_line_14 : decode cX10_line 14 = .ok (.invokestatic 131, 3) := by decide +kernel
theorem dX10_line_17 : decode cX10_line 17 = .ok (.ifCond .ne 5, 3) := by decide +kernel
theorem dX10_line_20 : decode cX10_line 20 = .ok (.iconst (-1), 1) := by decide +kernel
theorem dX10_line_21 : decode cX10_line 21 = .ok (.ireturn, 1) := by decide +kernel
theorem dX10_line_22 : decode cX10_line 22 = .ok (.aload_n 0, 1) := by decide +kernel
theorem dX10_line_23 : decode cX10_line 23 = .ok (.invokevirtual 229, 3) := by decide +kernel
theorem dX10_line_26 : decode cX10_line 26 = .ok (.iload_n 2, 1) := by decide +kernel
theorem dX10_line_27 : decode cX10_line 27 = .ok (.tableswitch 72 0 3 #[29, 36, 43, 65], 29) := by decide +kernel
theorem dX10_line_56 : decode cX10_line 56 = .ok (.aload_n 0, 1) := by decide +kernel
theorem dX10_line_57 : decode cX10_line 57 = .ok (.getfield 78, 3) := by decide +kernel
theorem dX10_line_60 : decode cX10_line 60 = .ok (.iload_n 1, 1) := by decide +kernel
theorem dX10_line_61 : decode cX10_line 61 = .ok (.iaload, 1) := by decide +kernel
theorem dX10_line_62 : decode cX10_line 62 = .ok (.ireturn, 1) := by decide +kernel
theorem dX10_line_63 : decode cX10_line 63 = .ok (.aload_n 0, 1) := by decide +kernel
theorem dX10_line_64 : decode cX10_line 64 = .ok (.getfield 81, 3) := by decide +kernel
theorem dX10_line_67 : decode cX10_line 67 = .ok (.iload_n 1, 1) := by decide +kernel
theorem dX10_line_68 : decode cX10_line 68 = .ok (.iaload, 1) := by decide +kernel
theorem dX10_line_69 : decode cX10_line 69 = .ok (.ireturn, 1) := by decide +kernel
theorem dX10_line_70 : decode cX10_line 70 = .ok (.aload_n 0, 1) := by decide +kernel
theorem dX10_line_71 : decode cX10_line 71 = .ok (.getfield 78, 3) := by decide +kernel
theorem dX10_line_74 : decode cX10_line 74 = .ok (.iload_n 1, 1) := by decide +kernel
theorem dX10_line_75 : decode cX10_line 75 = .ok (.iaload, 1) := by decide +kernel
theorem dX10_line_76 : decode cX10_line 76 = .ok (.iconst 5, 1) := by decide +kernel
theorem dX10_line_77 : decode cX10_line 77 = .ok (.if_icmp .ne 8, 3) := by decide +kernel
theorem dX10_line_80 : decode cX10_line 80 = .ok (.bipush (-12), 2) := by decide +kernel
theorem dX10_line_82 : decode cX10_line 82 = .ok (.goto 9, 3) := by decide +kernel
theorem dX10_line_85 : decode cX10_line 85 = .ok (.aload_n 0, 1) := by decide +kernel
theorem dX10_line_86 : decode cX10_line 86 = .ok (.getfield 84, 3) := by decide +kernel
theorem dX10_line_89 : decode cX10_line 89 = .ok (.iload_n 1, 1) := by decide +kernel
theorem dX10_line_90 : decode cX10_line 90 = .ok (.iaload, 1) := by decide +kernel
theorem dX10_line_91 : decode cX10_line 91 = .ok (.ireturn, 1) := by decide +kernel
theorem dX10_line_92 : decode cX10_line 92 = .ok (.aload_n 0, 1) := by decide +kernel
theorem dX10_line_93 : decode cX10_line 93 = .ok (.getfield 87, 3) := by decide +kernel
theorem dX10_line_96 : decode cX10_line 96 = .ok (.iload_n 1, 1) := by decide +kernel
theorem dX10_line_97 : decode cX10_line 97 = .ok (.iaload, 1) := by decide +kernel
theorem dX10_line_98 : decode cX10_line 98 = .ok (.ireturn, 1) := by decide +kernel
theorem dX10_line_99 : decode cX10_line 99 = .ok (.aload_n 0, 1) := by decide +kernel
theorem dX10_line_100 : decode cX10_line 100 = .ok (.iload_n 1, 1) := by decide +kernel
theorem dX10_line_101 : decode cX10_line 101 = .ok (.invokevirtual 232, 3) := by decide +kernel
theorem dX10_line_104 : decode cX10_line 104 = .ok (.ifCond .eq 7, 3) := by decide +kernel
theorem dX10_line_107 : decode cX10_line 107 = .ok (.iconst 1, 1) := by decide +kernel
theorem dX10_line_108 : decode cX10_line 108 = .ok (.goto 4, 3) := by decide +kernel
theorem dX10_line_111 : decode cX10_line 111 = .ok (.iconst 0, 1) := by decide +kernel
theorem dX10_line_112 : decode cX10_line 112 = .ok (.ireturn, 1) := by decide +kernel
theorem dX10_mostOf_0 : decode cX10_mostOf 0 = .ok (.iload_n 0, 1) := by decide +kernel
theorem dX10_mostOf_1 : decode cX10_mostOf 1 = .ok (.ifCond .ne 8, 3) := by decide +kernel
theorem dX10_mostOf_4 : decode cX10_mostOf 4 = .ok (.bipush 15, 2) := by decide +kernel
theorem dX10_mostOf_6 : decode cX10_mostOf 6 = .ok (.goto 33, 3) := by decide +kernel
theorem dX10_mostOf_9 : decode cX10_mostOf 9 = .ok (.iload_n 0, 1) := by decide +kernel
theorem dX10_mostOf_10 : decode cX10_mostOf 10 = .ok (.iconst 1, 1) := by decide +kernel
theorem dX10_mostOf_11 : decode cX10_mostOf 11 = .ok (.if_icmp .ne 8, 3) := by decide +kernel
theorem dX10_mostOf_14 : decode cX10_mostOf 14 = .ok (.bipush 8, 2) := by decide +kernel
theorem dX10_mostOf_16 : decode cX10_mostOf 16 = .ok (.goto 23, 3) := by decide +kernel
theorem dX10_mostOf_19 : decode cX10_mostOf 19 = .ok (.iload_n 0, 1) := by decide +kernel
theorem dX10_mostOf_20 : decode cX10_mostOf 20 = .ok (.iconst 2, 1) := by decide +kernel
theorem dX10_mostOf_21 : decode cX10_mostOf 21 = .ok (.if_icmp .ne 7, 3) := by decide +kernel
theorem dX10_mostOf_24 : decode cX10_mostOf 24 = .ok (.iconst 3, 1) := by decide +kernel
theorem dX10_mostOf_25 : decode cX10_mostOf 25 = .ok (.goto 14, 3) := by decide +kernel
theorem dX10_mostOf_28 : decode cX10_mostOf 28 = .ok (.iload_n 0, 1) := by decide +kernel
theorem dX10_mostOf_29 : decode cX10_mostOf 29 = .ok (.iconst 3, 1) := by decide +kernel
theorem dX10_mostOf_30 : decode cX10_mostOf 30 = .ok (.if_icmp .ne 7, 3) := by decide +kernel
theorem dX10_mostOf_33 : decode cX10_mostOf 33 = .ok (.iconst 1, 1) := by decide +kernel
theorem dX10_mostOf_34 : decode cX10_mostOf 34 = .ok (.goto 5, 3) := by decide +kernel
theorem dX10_mostOf_37 : decode cX10_mostOf 37 = .ok (.bipush 99, 2) := by decide +kernel
theorem dX10_mostOf_39 : decode cX10_mostOf 39 = .ok (.ireturn, 1) := by decide +kernel
theorem dX10_forge_0 : decode cX10_forge 0 = .ok (.aload_n 0, 1) := by decide +kernel
theorem dX10_forge_1 : decode cX10_forge 1 = .ok (.iload_n 1, 1) := by decide +kernel
theorem dX10_forge_2 : decode cX10_forge 2 = .ok (.invokevirtual 224, 3) := by decide +kernel
theorem dX10_forge_5 : decode cX10_forge 5 = .ok (.ifCond .eq 22, 3) := by decide +kernel
theorem dX10_forge_8 : decode cX10_forge 8 = .ok (.iload_n 2, 1) := by decide +kernel
theorem dX10_forge_9 : decode cX10_forge 9 = .ok (.i2l, 1) := by decide +kernel
theorem dX10_forge_10 : decode cX10_forge 10 = .ok (.lconst 0, 1) := by decide +kernel
theorem dX10_forge_11 : decode cX10_forge 11 = .ok (.aload_n 0, 1) := by decide +kernel
theorem dX10_forge_12 : decode cX10_forge 12 = .ok (.getfield 78, 3) := by decide +kernel
theorem dX10_forge_15 : decode cX10_forge 15 = .ok (.iload_n 1, 1) := by decide +kernel
theorem dX10_forge_16 : decode cX10_forge 16 = .ok (.iaload, 1) := by decide +kernel
theorem dX10_forge_17 : decode cX10_forge 17 = .ok (.invokestatic 235, 3) := by decide +kernel
theorem dX10_forge_20 : decode cX10_forge 20 = .ok (.i2l, 1) := by decide +kernel
theorem dX10_forge_21 : decode cX10_forge 21 = .ok (.invokestatic 131, 3) := by decide +kernel
theorem dX10_forge_24 : decode cX10_forge 24 = .ok (.ifCond .ne 5, 3) := by decide +kernel
theorem dX10_forge_27 : decode cX10_forge 27 = .ok (.iconst (-1), 1) := by decide +kernel
theorem dX10_forge_28 : decode cX10_forge 28 = .ok (.ireturn, 1) := by decide +kernel
theorem dX10_forge_29 : decode cX10_forge 29 = .ok (.aload_n 0, 1) := by decide +kernel
theorem dX10_forge_30 : decode cX10_forge 30 = .ok (.getfield 78, 3) := by decide +kernel
theorem dX10_forge_33 : decode cX10_forge 33 = .ok (.iload_n 1, 1) := by decide +kernel
theorem dX10_forge_34 : decode cX10_forge 34 = .ok (.iaload, 1) := by decide +kernel
theorem dX10_forge_35 : decode cX10_forge 35 = .ok (.iconst 5, 1) := by decide +kernel
theorem dX10_forge_36 : decode cX10_forge 36 = .ok (.if_icmp .ne 6, 3) := by decide +kernel
theorem dX10_forge_39 : decode cX10_forge 39 = .ok (.bipush (-12), 2) := by decide +kernel
theorem dX10_forge_41 : decode cX10_forge 41 = .ok (.ireturn, 1) := by decide +kernel
theorem dX10_forge_42 : decode cX10_forge 42 = .ok (.aload_n 0, 1) := by decide +kernel
theorem dX10_forge_43 : decode cX10_forge 43 = .ok (.getfield 84, 3) := by decide +kernel
theorem dX10_forge_46 : decode cX10_forge 46 = .ok (.iload_n 1, 1) := by decide +kernel
theorem dX10_forge_47 : decode cX10_forge 47 = .ok (.iaload, 1) := by decide +kernel
theorem dX10_forge_48 : decode cX10_forge 48 = .ok (.istore_n 3, 1) := by decide +kernel
theorem dX10_forge_49 : decode cX10_forge 49 = .ok (.aload_n 0, 1) := by decide +kernel
theorem dX10_forge_50 : decode cX10_forge 50 = .ok (.getfield 84, 3) := by decide +kernel
theorem dX10_forge_53 : decode cX10_forge 53 = .ok (.iload_n 1, 1) := by decide +kernel
theorem dX10_forge_54 : decode cX10_forge 54 = .ok (.iload_n 2, 1) := by decide +kernel
theorem dX10_forge_55 : decode cX10_forge 55 = .ok (.iastore, 1) := by decide +kernel
theorem dX10_forge_56 : decode cX10_forge 56 = .ok (.iload_n 3, 1) := by decide +kernel
theorem dX10_forge_57 : decode cX10_forge 57 = .ok (.ireturn, 1) := by decide +kernel
theorem dX10_moves_0 : decode cX10_moves 0 = .ok (.aload_n 0, 1) := by decide +kernel
theorem dX10_moves_1 : decode cX10_moves 1 = .ok (.getfield 78, 3) := by decide +kernel
theorem dX10_moves_4 : decode cX10_moves 4 = .ok (.iload_n 2, 1) := by decide +kernel
theorem dX10_moves_5 : decode cX10_moves 5 = .ok (.aload_n 0, 1) := by decide +kernel
theorem dX10_moves_6 : decode cX10_moves 6 = .ok (.getfield 78, 3) := by decide +kernel
theorem dX10_moves_9 : decode cX10_moves 9 = .ok (.iload_n 1, 1) := by decide +kernel
theorem dX10_moves_10 : decode cX10_moves 10 = .ok (.iaload, 1) := by decide +kernel
theorem dX10_moves_11 : decode cX10_moves 11 = .ok (.iastore, 1) := by decide +kernel
theorem dX10_moves_12 : decode cX10_moves 12 = .ok (.aload_n 0, 1) := by decide +kernel
theorem dX10_moves_13 : decode cX10_moves 13 = .ok (.getfield 81, 3) := by decide +kernel
theorem dX10_moves_16 : decode cX10_moves 16 = .ok (.iload_n 2, 1) := by decide +kernel
theorem dX10_moves_17 : decode cX10_moves 17 = .ok (.aload_n 0, 1) := by decide +kernel
theorem dX10_moves_18 : decode cX10_moves 18 = .ok (.getfield 81, 3) := by decide +kernel
theorem dX10_moves_21 : decode cX10_moves 21 = .ok (.iload_n 1, 1) := by decide +kernel
theorem dX10_moves_22 : decode cX10_moves 22 = .ok (.iaload, 1) := by decide +kernel
theorem dX10_moves_23 : decode cX10_moves 23 = .ok (.iastore, 1) := by decide +kernel
theorem dX10_moves_24 : decode cX10_moves 24 = .ok (.aload_n 0, 1) := by decide +kernel
theorem dX10_moves_25 : decode cX10_moves 25 = .ok (.getfield 84, 3) := by decide +kernel
theorem dX10_moves_28 : decode cX10_moves 28 = .ok (.iload_n 2, 1) := by decide +kernel
theorem dX10_moves_29 : decode cX10_moves 29 = .ok (.aload_n 0, 1) := by decide +kernel
theorem dX10_moves_30 : decode cX10_moves 30 = .ok (.getfield 84, 3) := by decide +kernel
theorem dX10_moves_33 : decode cX10_moves 33 = .ok (.iload_n 1, 1) := by decide +kernel
theorem dX10_moves_34 : decode cX10_moves 34 = .ok (.iaload, 1) := by decide +kernel
theorem dX10_moves_35 : decode cX10_moves 35 = .ok (.iastore, 1) := by decide +kernel
theorem dX10_moves_36 : decode cX10_moves 36 = .ok (.return_, 1) := by decide +kernel
theorem dX10_swap_0 : decode cX10_swap 0 = .ok (.aload_n 0, 1) := by decide +kernel
theorem dX10_swap_1 : decode cX10_swap 1 = .ok (.iload_n 1, 1) := by decide +kernel
theorem dX10_swap_2 : decode cX10_swap 2 = .ok (.invokevirtual 224, 3) := by decide +kernel
theorem dX10_swap_5 : decode cX10_swap 5 = .ok (.ifCond .eq 16, 3) := by decide +kernel
theorem dX10_swap_8 : decode cX10_swap 8 = .ok (.aload_n 0, 1) := by decide +kernel
theorem dX10_swap_9 : decode cX10_swap 9 = .ok (.iload_n 2, 1) := by decide +kernel
theorem dX10_swap_10 : decode cX10_swap 10 = .ok (.invokevirtual 224, 3) := by decide +kernel
theorem dX10_swap_13 : decode cX10_swap 13 = .ok (.ifCond .eq 8, 3) := by decide +kernel
theorem dX10_swap_16 : decode cX10_swap 16 = .ok (.iload_n 1, 1) := by decide +kernel
theorem dX10_swap_17 : decode cX10_swap 17 = .ok (.iload_n 2, 1) := by decide +kernel
theorem dX10_swap_18 : decode cX10_swap 18 = .ok (.if_icmp .ne 5, 3) := by decide +kernel
theorem dX10_swap_21 : decode cX10_swap 21 = .ok (.iconst (-1), 1) := by decide +kernel
theorem dX10_swap_22 : decode cX10_swap 22 = .ok (.ireturn, 1) := by decide +kernel
theorem dX10_swap_23 : decode cX10_swap 23 = .ok (.aload_n 0, 1) := by decide +kernel
theorem dX10_swap_24 : decode cX10_swap 24 = .ok (.getfield 78, 3) := by decide +kernel
theorem dX10_swap_27 : decode cX10_swap 27 = .ok (.iload_n 1, 1) := by decide +kernel
theorem dX10_swap_28 : decode cX10_swap 28 = .ok (.iaload, 1) := by decide +kernel
theorem dX10_swap_29 : decode cX10_swap 29 = .ok (.istore_n 3, 1) := by decide +kernel
theorem dX10_swap_30 : decode cX10_swap 30 = .ok (.aload_n 0, 1) := by decide +kernel
theorem dX10_swap_31 : decode cX10_swap 31 = .ok (.getfield 81, 3) := by decide +kernel
theorem dX10_swap_34 : decode cX10_swap 34 = .ok (.iload_n 1, 1) := by decide +kernel
theorem dX10_swap_35 : decode cX10_swap 35 = .ok (.iaload, 1) := by decide +kernel
theorem dX10_swap_36 : decode cX10_swap 36 = .ok (.istore 4, 2) := by decide +kernel
theorem dX10_swap_38 : decode cX10_swap 38 = .ok (.aload_n 0, 1) := by decide +kernel
theorem dX10_swap_39 : decode cX10_swap 39 = .ok (.getfield 84, 3) := by decide +kernel
theorem dX10_swap_42 : decode cX10_swap 42 = .ok (.iload_n 1, 1) := by decide +kernel
theorem dX10_swap_43 : decode cX10_swap 43 = .ok (.iaload, 1) := by decide +kernel
theorem dX10_swap_44 : decode cX10_swap 44 = .ok (.istore 5, 2) := by decide +kernel
theorem dX10_swap_46 : decode cX10_swap 46 = .ok (.aload_n 0, 1) := by decide +kernel
theorem dX10_swap_47 : decode cX10_swap 47 = .ok (.iload_n 2, 1) := by decide +kernel
theorem dX10_swap_48 : decode cX10_swap 48 = .ok (.iload_n 1, 1) := by decide +kernel
theorem dX10_swap_49 : decode cX10_swap 49 = .ok (.invokevirtual 239, 3) := by decide +kernel
theorem dX10_swap_52 : decode cX10_swap 52 = .ok (.aload_n 0, 1) := by decide +kernel
theorem dX10_swap_53 : decode cX10_swap 53 = .ok (.getfield 78, 3) := by decide +kernel
theorem dX10_swap_56 : decode cX10_swap 56 = .ok (.iload_n 2, 1) := by decide +kernel
theorem dX10_swap_57 : decode cX10_swap 57 = .ok (.iload_n 3, 1) := by decide +kernel
theorem dX10_swap_58 : decode cX10_swap 58 = .ok (.iastore, 1) := by decide +kernel
theorem dX10_swap_59 : decode cX10_swap 59 = .ok (.aload_n 0, 1) := by decide +kernel
theorem dX10_swap_60 : decode cX10_swap 60 = .ok (.getfield 81, 3) := by decide +kernel
theorem dX10_swap_63 : decode cX10_swap 63 = .ok (.iload_n 2, 1) := by decide +kernel
theorem dX10_swap_64 : decode cX10_swap 64 = .ok (.iload 4, 2) := by decide +kernel
theorem dX10_swap_66 : decode cX10_swap 66 = .ok (.iastore, 1) := by decide +kernel
theorem dX10_swap_67 : decode cX10_swap 67 = .ok (.aload_n 0, 1) := by decide +kernel
theorem dX10_swap_68 : decode cX10_swap 68 = .ok (.getfield 84, 3) := by decide +kernel
theorem dX10_swap_71 : decode cX10_swap 71 = .ok (.iload_n 2, 1) := by decide +kernel
theorem dX10_swap_72 : decode cX10_swap 72 = .ok (.iload 5, 2) := by decide +kernel
theorem dX10_swap_74 : decode cX10_swap 74 = .ok (.iastore, 1) := by decide +kernel
theorem dX10_swap_75 : decode cX10_swap 75 = .ok (.iconst 1, 1) := by decide +kernel
theorem dX10_swap_76 : decode cX10_swap 76 = .ok (.ireturn, 1) := by decide +kernel
theorem dX10_tear_0 : decode cX10_tear 0 = .ok (.aload_n 0, 1) := by decide +kernel
theorem dX10_tear_1 : decode cX10_tear 1 = .ok (.iload_n 1, 1) := by decide +kernel
theorem dX10_tear_2 : decode cX10_tear 2 = .ok (.invokevirtual 224, 3) := by decide +kernel
theorem dX10_tear_5 : decode cX10_tear 5 = .ok (.ifCond .ne 5, 3) := by decide +kernel
theorem dX10_tear_8 : decode cX10_tear 8 = .ok (.iconst (-1), 1) := by decide +kernel
theorem dX10_tear_9 : decode cX10_tear 9 = .ok (.ireturn, 1) := by decide +kernel
theorem dX10_tear_10 : decode cX10_tear 10 = .ok (.iload_n 1, 1) := by decide +kernel
theorem dX10_tear_11 : decode cX10_tear 11 = .ok (.istore_n 2, 1) := by decide +kernel
theorem dX10_tear_12 : decode cX10_tear 12 = .ok (.iload_n 2, 1) := by decide +kernel
theorem dX10_tear_13 : decode cX10_tear 13 = .ok (.iconst 1, 1) := by decide +kernel
theorem dX10_tear_14 : decode cX10_tear 14 = .ok (.iadd, 1) := by decide +kernel
theorem dX10_tear_15 : decode cX10_tear 15 = .ok (.aload_n 0, 1) := by decide +kernel
theorem dX10_tear_16 : decode cX10_tear 16 = .ok (.getfield 209, 3) := by decide +kernel
theorem dX10_tear_19 : decode cX10_tear 19 = .ok (.if_icmp .ge 17, 3) := by decide +kernel
theorem dX10_tear_22 : decode cX10_tear 22 = .ok (.aload_n 0, 1) := by decide +kernel
theorem dX10_tear_23 : decode cX10_tear 23 = .ok (.iload_n 2, 1) := by decide +kernel
theorem dX10_tear_24 : decode cX10_tear 24 = .ok (.iconst 1, 1) := by decide +kernel
theorem dX10_tear_25 : decode cX10_tear 25 = .ok (.iadd, 1) := by decide +kernel
theorem dX10_tear_26 : decode cX10_tear 26 = .ok (.iload_n 2, 1) := by decide +kernel
theorem dX10_tear_27 : decode cX10_tear 27 = .ok (.invokevirtual 239, 3) := by decide +kernel
theorem dX10_tear_30 : decode cX10_tear 30 = .ok (.iinc 2 1, 3) := by decide +kernel
theorem dX10_tear_33 : decode cX10_tear 33 = .ok (.goto (-21), 3) := by decide +kernel
theorem dX10_tear_36 : decode cX10_tear 36 = .ok (.aload_n 0, 1) := by decide +kernel
theorem dX10_tear_37 : decode cX10_tear 37 = .ok (.dup, 1) := by decide +kernel
theorem dX10_tear_38 : decode cX10_tear 38 = .ok (.getfield 209, 3) := by decide +kernel
theorem dX10_tear_41 : decode cX10_tear 41 = .ok (.iconst 1, 1) := by decide +kernel
theorem dX10_tear_42 : decode cX10_tear 42 = .ok (.isub, 1) := by decide +kernel
theorem dX10_tear_43 : decode cX10_tear 43 = .ok (.putfield 209, 3) := by decide +kernel
theorem dX10_tear_46 : decode cX10_tear 46 = .ok (.aload_n 0, 1) := by decide +kernel
theorem dX10_tear_47 : decode cX10_tear 47 = .ok (.getfield 209, 3) := by decide +kernel
theorem dX10_tear_50 : decode cX10_tear 50 = .ok (.ireturn, 1) := by decide +kernel
theorem dX10_give_0 : decode cX10_give 0 = .ok (.iload_n 1, 1) := by decide +kernel
theorem dX10_give_1 : decode cX10_give 1 = .ok (.i2l, 1) := by decide +kernel
theorem dX10_give_2 : decode cX10_give 2 = .ok (.lconst 0, 1) := by decide +kernel
theorem dX10_give_3 : decode cX10_give 3 = .ok (.ldc2_w 180, 3) := by decide +kernel
theorem dX10_give_6 : decode cX10_give 6 = .ok (.invokestatic 131, 3) := by decide +kernel
theorem dX10_give_9 : decode cX10_give 9 = .ok (.ifCond .ne 5, 3) := by decide +kernel
theorem dX10_give_12 : decode cX10_give 12 = .ok (.iconst (-1), 1) := by decide +kernel
theorem dX10_give_13 : decode cX10_give 13 = .ok (.ireturn, 1) := by decide +kernel
theorem dX10_give_14 : decode cX10_give 14 = .ok (.aload_n 0, 1) := by decide +kernel
theorem dX10_give_15 : decode cX10_give 15 = .ok (.invokevirtual 229, 3) := by decide +kernel
theorem dX10_give_18 : decode cX10_give 18 = .ok (.iconst 0, 1) := by decide +kernel
theorem dX10_give_19 : decode cX10_give 19 = .ok (.istore_n 2, 1) := by decide +kernel
theorem dX10_give_20 : decode cX10_give 20 = .ok (.iload_n 2, 1) := by decide +kernel
theorem dX10_give_21 : decode cX10_give 21 = .ok (.aload_n 0, 1) := by decide +kernel
theorem dX10_give_22 : decode cX10_give 22 = .ok (.getfield 209, 3) := by decide +kernel
theorem dX10_give_25 : decode cX10_give 25 = .ok (.if_icmp .ge 26, 3) := by decide +kernel
theorem dX10_give_28 : decode cX10_give 28 = .ok (.aload_n 0, 1) := by decide +kernel

theorem dX9_comesWithMakers_4 : decode cX9_comesWithMakers 4 = .ok (.aload_n 0, 1) := by decide +kernel
theorem dX9_comesWithMakers_5 : decode cX9_comesWithMakers 5 = .ok (.getfield 39, 3) := by decide +kernel
theorem dX9_comesWithMakers_8 : decode cX9_comesWithMakers 8 = .ok (.invokevirtual 229, 3) := by decide +kernel
theorem dX9_comesWithMakers_11 : decode cX9_comesWithMakers 11 = .ok (.aload_n 0, 1) := by decide +kernel
theorem dX9_comesWithMakers_12 : decode cX9_comesWithMakers 12 = .ok (.aload_n 0, 1) := by decide +kernel
theorem dX9_comesWithMakers_13 : decode cX9_comesWithMakers 13 = .ok (.getfield 28, 3) := by decide +kernel
theorem dX9_comesWithMakers_16 : decode cX9_comesWithMakers 16 = .ok (.iconst 0, 1) := by decide +kernel
theorem dX9_comesWithMakers_17 : decode cX9_comesWithMakers 17 = .ok (.aaload, 1) := by decide +kernel
theorem dX9_comesWithMakers_18 : decode cX9_comesWithMakers 18 = .ok (.iload_n 1, 1) := by decide +kernel
theorem dX9_comesWithMakers_19 : decode cX9_comesWithMakers 19 = .ok (.invokevirtual 317, 3) := by decide +kernel
theorem dX9_comesWithMakers_22 : decode cX9_comesWithMakers 22 = .ok (.invokevirtual 314, 3) := by decide +kernel
theorem dX9_comesWithMakers_25 : decode cX9_comesWithMakers 25 = .ok (.ireturn, 1) := by decide +kernel
theorem dX9_comesWithRules_0 : decode cX9_comesWithRules 0 = .ok (.aload_n 0, 1) := by decide +kernel
theorem dX9_comesWithRules_1 : decode cX9_comesWithRules 1 = .ok (.getfield 46, 3) := by decide +kernel
theorem dX9_comesWithRules_4 : decode cX9_comesWithRules 4 = .ok (.aload_n 0, 1) := by decide +kernel
theorem dX9_comesWithRules_5 : decode cX9_comesWithRules 5 = .ok (.getfield 28, 3) := by decide +kernel
theorem dX9_comesWithRules_8 : decode cX9_comesWithRules 8 = .ok (.iconst 0, 1) := by decide +kernel
theorem dX9_comesWithRules_9 : decode cX9_comesWithRules 9 = .ok (.aaload, 1) := by decide +kernel
theorem dX9_comesWithRules_10 : decode cX9_comesWithRules 10 = .ok (.iload_n 1, 1) := by decide +kernel
theorem dX9_comesWithRules_11 : decode cX9_comesWithRules 11 = .ok (.aload_n 0, 1) := by decide +kernel
theorem dX9_comesWithRules_12 : decode cX9_comesWithRules 12 = .ok (.getfield 97, 3) := by decide +kernel
theorem dX9_comesWithRules_15 : decode cX9_comesWithRules 15 = .ok (.iconst 1, 1) := by decide +kernel
theorem dX9_comesWithRules_16 : decode cX9_comesWithRules 16 = .ok (.iadd, 1) := by decide +kernel
theorem dX9_comesWithRules_17 : decode cX9_comesWithRules 17 = .ok (.invokevirtual 236, 3) := by decide +kernel
theorem dX9_comesWithRules_20 : decode cX9_comesWithRules 20 = .ok (.aload_n 0, 1) := by decide +kernel
theorem dX9_comesWithRules_21 : decode cX9_comesWithRules 21 = .ok (.getfield 46, 3) := by decide +kernel
theorem dX9_comesWithRules_24 : decode cX9_comesWithRules 24 = .ok (.getfield 169, 3) := by decide +kernel
theorem dX9_comesWithRules_27 : decode cX9_comesWithRules 27 = .ok (.aload_n 0, 1) := by decide +kernel
theorem dX9_comesWithRules_28 : decode cX9_comesWithRules 28 = .ok (.getfield 97, 3) := by decide +kernel
theorem dX9_comesWithRules_31 : decode cX9_comesWithRules 31 = .ok (.iaload, 1) := by decide +kernel
theorem dX9_comesWithRules_32 : decode cX9_comesWithRules 32 = .ok (.aload_n 0, 1) := by decide +kernel
theorem dX9_comesWithRules_33 : decode cX9_comesWithRules 33 = .ok (.getfield 93, 3) := by decide +kernel
theorem dX9_comesWithRules_36 : decode cX9_comesWithRules 36 = .ok (.if_icmp .ne 7, 3) := by decide +kernel
theorem dX9_comesWithRules_39 : decode cX9_comesWithRules 39 = .ok (.iconst 1, 1) := by decide +kernel
theorem dX9_comesWithRules_40 : decode cX9_comesWithRules 40 = .ok (.goto 4, 3) := by decide +kernel
theorem dX9_comesWithRules_43 : decode cX9_comesWithRules 43 = .ok (.iconst 0, 1) := by decide +kernel
theorem dX9_comesWithRules_44 : decode cX9_comesWithRules 44 = .ok (.ireturn, 1) := by decide +kernel
theorem dX9_tryAllSets_0 : decode cX9_tryAllSets 0 = .ok (.iconst 0, 1) := by decide +kernel
theorem dX9_tryAllSets_1 : decode cX9_tryAllSets 1 = .ok (.istore_n 1, 1) := by decide +kernel
theorem dX9_tryAllSets_2 : decode cX9_tryAllSets 2 = .ok (.iload_n 1, 1) := by decide +kernel
theorem dX9_tryAllSets_3 : decode cX9_tryAllSets 3 = .ok (.aload_n 0, 1) := by decide +kernel
theorem dX9_tryAllSets_4 : decode cX9_tryAllSets 4 = .ok (.getfield 67, 3) := by decide +kernel
theorem dX9_tryAllSets_7 : decode cX9_tryAllSets 7 = .ok (.invokevirtual 259, 3) := by decide +kernel
theorem dX9_tryAllSets_10 : decode cX9_tryAllSets 10 = .ok (.if_icmp .gt 20, 3) := by decide +kernel
theorem dX9_tryAllSets_13 : decode cX9_tryAllSets 13 = .ok (.aload_n 0, 1) := by decide +kernel
theorem dX9_tryAllSets_14 : decode cX9_tryAllSets 14 = .ok (.getfield 71, 3) := by decide +kernel
theorem dX9_tryAllSets_17 : decode cX9_tryAllSets 17 = .ok (.iload_n 1, 1) := by decide +kernel
theorem dX9_tryAllSets_18 : decode cX9_tryAllSets 18 = .ok (.aload_n 0, 1) := by decide +kernel
theorem dX9_tryAllSets_19 : decode cX9_tryAllSets 19 = .ok (.iload_n 1, 1) := by decide +kernel
theorem dX9_tryAllSets_20 : decode cX9_tryAllSets 20 = .ok (.invokevirtual 248, 3) := by decide +kernel
theorem dX9_tryAllSets_23 : decode cX9_tryAllSets 23 = .ok (.bastore, 1) := by decide +kernel
theorem dX9_tryAllSets_24 : decode cX9_tryAllSets 24 = .ok (.iinc 1 1, 3) := by decide +kernel
theorem dX9_tryAllSets_27 : decode cX9_tryAllSets 27 = .ok (.goto (-25), 3) := by decide +kernel
theorem dX9_tryAllSets_30 : decode cX9_tryAllSets 30 = .ok (.return_, 1) := by decide +kernel
theorem dX9_leastSet_0 : decode cX9_leastSet 0 = .ok (.aload_n 0, 1) := by decide +kernel
theorem dX9_leastSet_1 : decode cX9_leastSet 1 = .ok (.invokevirtual 270, 3) := by decide +kernel
theorem dX9_leastSet_4 : decode cX9_leastSet 4 = .ok (.bipush (-4), 2) := by decide +kernel
theorem dX9_leastSet_6 : decode cX9_leastSet 6 = .ok (.istore_n 2, 1) := by decide +kernel
theorem dX9_leastSet_7 : decode cX9_leastSet 7 = .ok (.bipush 7, 2) := by decide +kernel
theorem dX9_leastSet_9 : decode cX9_leastSet 9 = .ok (.istore_n 3, 1) := by decide +kernel
theorem dX9_leastSet_10 : decode cX9_leastSet 10 = .ok (.iconst 0, 1) := by decide +kernel
theorem dX9_leastSet_11 : decode cX9_leastSet 11 = .ok (.istore 4, 2) := by decide +kernel
theorem dX9_leastSet_13 : decode cX9_leastSet 13 = .ok (.iload 4, 2) := by decide +kernel
theorem dX9_leastSet_15 : decode cX9_leastSet 15 = .ok (.aload_n 0, 1) := by decide +kernel
theorem dX9_leastSet_16 : decode cX9_leastSet 16 = .ok (.getfield 67, 3) := by decide +kernel
theorem dX9_leastSet_19 : decode cX9_leastSet 19 = .ok (.invokevirtual 259, 3) := by decide +kernel
theorem dX9_leastSet_22 : decode cX9_leastSet 22 = .ok (.if_icmp .gt 53, 3) := by decide +kernel
theorem dX9_leastSet_25 : decode cX9_leastSet 25 = .ok (.iload 4, 2) := by decide +kernel
theorem dX9_leastSet_27 : decode cX9_leastSet 27 = .ok (.invokestatic 285, 3) := by decide +kernel
theorem dX9_leastSet_30 : decode cX9_leastSet 30 = .ok (.istore 5, 2) := by decide +kernel
theorem dX9_leastSet_32 : decode cX9_leastSet 32 = .ok (.iload 5, 2) := by decide +kernel
theorem dX9_leastSet_34 : decode cX9_leastSet 34 = .ok (.iload_n 3, 1) := by decide +kernel
theorem dX9_leastSet_35 : decode cX9_leastSet 35 = .ok (.if_icmp .ge 34, 3) := by decide +kernel
theorem dX9_leastSet_38 : decode cX9_leastSet 38 = .ok (.iload_n 1, 1) := by decide +kernel
theorem dX9_leastSet_39 : decode cX9_leastSet 39 = .ok (.ifCond .eq 15, 3) := by decide +kernel
theorem dX9_leastSet_42 : decode cX9_leastSet 42 = .ok (.aload_n 0, 1) := by decide +kernel
theorem dX9_leastSet_43 : decode cX9_leastSet 43 = .ok (.iload 4, 2) := by decide +kernel
theorem dX9_leastSet_45 : decode cX9_leastSet 45 = .ok (.invokevirtual 276, 3) := by decide +kernel
theorem dX9_leastSet_48 : decode cX9_leastSet 48 = .ok (.ifCond .eq 21, 3) := by decide +kernel
theorem dX9_leastSet_51 : decode cX9_leastSet 51 = .ok (.goto 12, 3) := by decide +kernel
theorem dX9_leastSet_54 : decode cX9_leastSet 54 = .ok (.aload_n 0, 1) := by decide +kernel
theorem dX9_leastSet_55 : decode cX9_leastSet 55 = .ok (.iload 4, 2) := by decide +kernel
theorem dX9_leastSet_57 : decode cX9_leastSet 57 = .ok (.invokevirtual 273, 3) := by decide +kernel
theorem dX9_leastSet_60 : decode cX9_leastSet 60 = .ok (.ifCond .eq 9, 3) := by decide +kernel
theorem dX9_leastSet_63 : decode cX9_leastSet 63 = .ok (.iload 4, 2) := by decide +kernel
theorem dX9_leastSet_65 : decode cX9_leastSet 65 = .ok (.istore_n 2, 1) := by decide +kernel
theorem dX9_leastSet_66 : decode cX9_leastSet 66 = .ok (.iload 5, 2) := by decide +kernel
theorem dX9_leastSet_68 : decode cX9_leastSet 68 = .ok (.istore_n 3, 1) := by decide +kernel
theorem dX9_leastSet_69 : decode cX9_leastSet 69 = .ok (.iinc 4 1, 3) := by decide +kernel
theorem dX9_leastSet_72 : decode cX9_leastSet 72 = .ok (.goto (-59), 3) := by decide +kernel
theorem dX9_leastSet_75 : decode cX9_leastSet 75 = .ok (.iload_n 2, 1) := by decide +kernel
theorem dX9_leastSet_76 : decode cX9_leastSet 76 = .ok (.ireturn, 1) := by decide +kernel
theorem dX9_isBecause_0 : decode cX9_isBecause 0 = .ok (.aload_n 0, 1) := by decide +kernel
theorem dX9_isBecause_1 : decode cX9_isBecause 1 = .ok (.getfield 71, 3) := by decide +kernel
theorem dX9_isBecause_4 : decode cX9_isBecause 4 = .ok (.iconst 0, 1) := by decide +kernel
theorem dX9_isBecause_5 : decode cX9_isBecause 5 = .ok (.baload, 1) := by decide +kernel
theorem dX9_isBecause_6 : decode cX9_isBecause 6 = .ok (.ifCond .eq 16, 3) := by decide +kernel
theorem dX9_isBecause_9 : decode cX9_isBecause 9 = .ok (.aload_n 0, 1) := by decide +kernel
theorem dX9_isBecause_10 : decode cX9_isBecause 10 = .ok (.getfield 71, 3) := by decide +kernel
theorem dX9_isBecause_13 : decode cX9_isBecause 13 = .ok (.iload_n 1, 1) := by decide +kernel
theorem dX9_isBecause_14 : decode cX9_isBecause 14 = .ok (.baload, 1) := by decide +kernel
theorem dX9_isBecause_15 : decode cX9_isBecause 15 = .ok (.ifCond .ne 7, 3) := by decide +kernel
theorem dX9_isBecause_18 : decode cX9_isBecause 18 = .ok (.iconst 1, 1) := by decide +kernel
theorem dX9_isBecause_19 : decode cX9_isBecause 19 = .ok (.goto 4, 3) := by decide +kernel
theorem dX9_isBecause_22 : decode cX9_isBecause 22 = .ok (.iconst 0, 1) := by decide +kernel
theorem dX9_isBecause_23 : decode cX9_isBecause 23 = .ok (.ireturn, 1) := by decide +kernel
theorem dX9_isEnough_0 : decode cX9_isEnough 0 = .ok (.iconst 0, 1) := by decide +kernel
theorem dX9_isEnough_1 : decode cX9_isEnough 1 = .ok (.istore_n 2, 1) := by decide +kernel
theorem dX9_isEnough_2 : decode cX9_isEnough 2 = .ok (.iload_n 2, 1) := by decide +kernel
theorem dX9_isEnough_3 : decode cX9_isEnough 3 = .ok (.aload_n 0, 1) := by decide +kernel
theorem dX9_isEnough_4 : decode cX9_isEnough 4 = .ok (.getfield 67, 3) := by decide +kernel
theorem dX9_isEnough_7 : decode cX9_isEnough 7 = .ok (.invokevirtual 259, 3) := by decide +kernel
theorem dX9_isEnough_10 : decode cX9_isEnough 10 = .ok (.if_icmp .gt 26, 3) := by decide +kernel
theorem dX9_isEnough_13 : decode cX9_isEnough 13 = .ok (.iload_n 2, 1) := by decide +kernel
theorem dX9_isEnough_14 : decode cX9_isEnough 14 = .ok (.iload_n 1, 1) := by decide +kernel
theorem dX9_isEnough_15 : decode cX9_isEnough 15 = .ok (.iand, 1) := by decide +kernel
theorem dX9_isEnough_16 : decode cX9_isEnough 16 = .ok (.ifCond .ne 14, 3) := by decide +kernel
theorem dX9_isEnough_19 : decode cX9_isEnough 19 = .ok (.aload_n 0, 1) := by decide +kernel
theorem dX9_isEnough_20 : decode cX9_isEnough 20 = .ok (.getfield 71, 3) := by decide +kernel
theorem dX9_isEnough_23 : decode cX9_isEnough 23 = .ok (.iload_n 2, 1) := by decide +kernel
theorem dX9_isEnough_24 : decode cX9_isEnough 24 = .ok (.baload, 1) := by decide +kernel
theorem dX9_isEnough_25 : decode cX9_isEnough 25 = .ok (.ifCond .ne 5, 3) := by decide +kernel
theorem dX9_isEnough_28 : decode cX9_isEnough 28 = .ok (.iconst 0, 1) := by decide +kernel
theorem dX9_isEnough_29 : decode cX9_isEnough 29 = .ok (.ireturn, 1) := by decide +kernel
theorem dX9_isEnough_30 : decode cX9_isEnough 30 = .ok (.iinc 2 1, 3) := by decide +kernel
theorem dX9_isEnough_33 : decode cX9_isEnough 33 = .ok (.goto (-31), 3) := by decide +kernel
theorem dX9_isEnough_36 : decode cX9_isEnough 36 = .ok (.iconst 1, 1) := by decide +kernel
theorem dX9_isEnough_37 : decode cX9_isEnough 37 = .ok (.ireturn, 1) := by decide +kernel
theorem dX10_in_0 : decode cX10_in 0 = .ok (.lload_n 0, 1) := by decide +kernel
theorem dX10_in_1 : decode cX10_in 1 = .ok (.lload_n 2, 1) := by decide +kernel
theorem dX10_in_2 : decode cX10_in 2 = .ok (.lcmp, 1) := by decide +kernel
theorem dX10_in_3 : decode cX10_in 3 = .ok (.ifCond .lt 14, 3) := by decide +kernel
theorem dX10_in_6 : decode cX10_in 6 = .ok (.lload_n 0, 1) := by decide +kernel
theorem dX10_in_7 : decode cX10_in 7 = .ok (.lload 4, 2) := by decide +kernel
theorem dX10_in_9 : decode cX10_in 9 = .ok (.lcmp, 1) := by decide +kernel
theorem dX10_in_10 : decode cX10_in 10 = .ok (.ifCond .gt 7, 3) := by decide +kernel
theorem dX10_in_13 : decode cX10_in 13 = .ok (.iconst 1, 1) := by decide +kernel
theorem dX10_in_14 : decode cX10_in 14 = .ok (.goto 4, 3) := by decide +kernel
theorem dX10_in_17 : decode cX10_in 17 = .ok (.iconst 0, 1) := by decide +kernel
theorem dX10_in_18 : decode cX10_in 18 = .ok (.ireturn, 1) := by decide +kernel
theorem dX10_init_0 : decode cX10_init 0 = .ok (.aload_n 0, 1) := by decide +kernel
theorem dX10_init_1 : decode cX10_init 1 = .ok (.invokespecial 1, 3) := by decide +kernel
theorem dX10_init_4 : decode cX10_init 4 = .ok (.aload_n 0, 1) := by decide +kernel
theorem dX10_init_5 : decode cX10_init 5 = .ok (.bipush 120, 2) := by decide +kernel
theorem dX10_init_7 : decode cX10_init 7 = .ok (.newarray .int, 2) := by decide +kernel
theorem dX10_init_9 : decode cX10_init 9 = .ok (.putfield 7, 3) := by decide +kernel
theorem dX10_init_12 : decode cX10_init 12 = .ok (.aload_n 0, 1) := by decide +kernel
theorem dX10_init_13 : decode cX10_init 13 = .ok (.bipush 6, 2) := by decide +kernel
theorem dX10_init_15 : decode cX10_init 15 = .ok (.newarray .boolean, 2) := by decide +kernel
theorem dX10_init_17 : decode cX10_init 17 = .ok (.putfield 13, 3) := by decide +kernel
theorem dX10_init_20 : decode cX10_init 20 = .ok (.aload_n 0, 1) := by decide +kernel
theorem dX10_init_21 : decode cX10_init 21 = .ok (.bipush 6, 2) := by decide +kernel
theorem dX10_init_23 : decode cX10_init 23 = .ok (.newarray .boolean, 2) := by decide +kernel
theorem dX10_init_25 : decode cX10_init 25 = .ok (.putfield 17, 3) := by decide +kernel
theorem dX10_init_28 : decode cX10_init 28 = .ok (.aload_n 0, 1) := by decide +kernel
theorem dX10_init_29 : decode cX10_init 29 = .ok (.bipush 6, 2) := by decide +kernel
theorem dX10_init_31 : decode cX10_init 31 = .ok (.newarray .boolean, 2) := by decide +kernel
theorem dX10_init_33 : decode cX10_init 33 = .ok (.putfield 20, 3) := by decide +kernel
theorem dX10_init_36 : decode cX10_init 36 = .ok (.aload_n 0, 1) := by decide +kernel
theorem dX10_init_37 : decode cX10_init 37 = .ok (.iconst 2, 1) := by decide +kernel
theorem dX10_init_38 : decode cX10_init 38 = .ok (.newarray .int, 2) := by decide +kernel
theorem dX10_init_40 : decode cX10_init 40 = .ok (.putfield 23, 3) := by decide +kernel
theorem dX10_init_43 : decode cX10_init 43 = .ok (.aload_n 0, 1) := by decide +kernel
theorem dX10_init_44 : decode cX10_init 44 = .ok (.bipush 16, 2) := by decide +kernel
theorem dX10_init_46 : decode cX10_init 46 = .ok (.newarray .int, 2) := by decide +kernel
theorem dX10_init_48 : decode cX10_init 48 = .ok (.putfield 26, 3) := by decide +kernel
theorem dX10_init_51 : decode cX10_init 51 = .ok (.aload_n 0, 1) := by decide +kernel
theorem dX10_init_52 : decode cX10_init 52 = .ok (.bipush 16, 2) := by decide +kernel
theorem dX10_init_54 : decode cX10_init 54 = .ok (.newarray .int, 2) := by decide +kernel
theorem dX10_init_56 : decode cX10_init 56 = .ok (.putfield 29, 3) := by decide +kernel
theorem dX10_init_59 : decode cX10_init 59 = .ok (.aload_n 0, 1) := by decide +kernel
theorem dX10_init_60 : decode cX10_init 60 = .ok (.bipush 16, 2) := by decide +kernel
theorem dX10_init_62 : decode cX10_init 62 = .ok (.newarray .int, 2) := by decide +kernel
theorem dX10_init_64 : decode cX10_init 64 = .ok (.putfield 32, 3) := by decide +kernel
theorem dX10_init_67 : decode cX10_init 67 = .ok (.aload_n 0, 1) := by decide +kernel
theorem dX10_init_68 : decode cX10_init 68 = .ok (.sipush 2048, 3) := by decide +kernel
theorem dX10_init_71 : decode cX10_init 71 = .ok (.newarray .boolean, 2) := by decide +kernel
theorem dX10_init_73 : decode cX10_init 73 = .ok (.putfield 35, 3) := by decide +kernel
theorem dX10_init_76 : decode cX10_init 76 = .ok (.aload_n 0, 1) := by decide +kernel
theorem dX10_init_77 : decode cX10_init 77 = .ok (.bipush 8, 2) := by decide +kernel
theorem dX10_init_79 : decode cX10_init 79 = .ok (.newarray .int, 2) := by decide +kernel
theorem dX10_init_81 : decode cX10_init 81 = .ok (.putfield 38, 3) := by decide +kernel
theorem dX10_init_84 : decode cX10_init 84 = .ok (.aload_n 0, 1) := by decide +kernel
theorem dX10_init_85 : decode cX10_init 85 = .ok (.bipush 8, 2) := by decide +kernel
theorem dX10_init_87 : decode cX10_init 87 = .ok (.newarray .int, 2) := by decide +kernel
theorem dX10_init_89 : decode cX10_init 89 = .ok (.putfield 41, 3) := by decide +kernel
theorem dX10_init_92 : decode cX10_init 92 = .ok (.aload_n 0, 1) := by decide +kernel
theorem dX10_init_93 : decode cX10_init 93 = .ok (.bipush 8, 2) := by decide +kernel
theorem dX10_init_95 : decode cX10_init 95 = .ok (.newarray .int, 2) := by decide +kernel
theorem dX10_init_97 : decode cX10_init 97 = .ok (.putfield 44, 3) := by decide +kernel
theorem dX10_init_100 : decode cX10_init 100 = .ok (.aload_n 0, 1) := by decide +kernel
theorem dX10_init_101 : decode cX10_init 101 = .ok (.sipush 1024, 3) := by decide +kernel
theorem dX10_init_104 : decode cX10_init 104 = .ok (.newarray .boolean, 2) := by decide +kernel
theorem dX10_init_106 : decode cX10_init 106 = .ok (.putfield 47, 3) := by decide +kernel
theorem dX10_init_109 : decode cX10_init 109 = .ok (.aload_n 0, 1) := by decide +kernel
theorem dX10_init_110 : decode cX10_init 110 = .ok (.iconst 4, 1) := by decide +kernel
theorem dX10_init_111 : decode cX10_init 111 = .ok (.putfield 50, 3) := by decide +kernel
theorem dX10_init_114 : decode cX10_init 114 = .ok (.aload_n 0, 1) := by decide +kernel
theorem dX10_init_115 : decode cX10_init 115 = .ok (.bipush 12, 2) := by decide +kernel
theorem dX10_init_117 : decode cX10_init 117 = .ok (.newarray .int, 2) := by decide +kernel
theorem dX10_init_119 : decode cX10_init 119 = .ok (.putfield 54, 3) := by decide +kernel
theorem dX10_init_122 : decode cX10_init 122 = .ok (.aload_n 0, 1) := by decide +kernel
theorem dX10_init_123 : decode cX10_init 123 = .ok (.bipush 12, 2) := by decide +kernel
theorem dX10_init_125 : decode cX10_init 125 = .ok (.newarray .int, 2) := by decide +kernel
theorem dX10_init_127 : decode cX10_init 127 = .ok (.putfield 57, 3) := by decide +kernel
theorem dX10_init_130 : decode cX10_init 130 = .ok (.aload_n 0, 1) := by decide +kernel
theorem dX10_init_131 : decode cX10_init 131 = .ok (.bipush 12, 2) := by decide +kernel
theorem dX10_init_133 : decode cX10_init 133 = .ok (.newarray .int, 2) := by decide +kernel
theorem dX10_init_135 : decode cX10_init 135 = .ok (.putfield 60, 3) := by decide +kernel
theorem dX10_init_138 : decode cX10_init 138 = .ok (.aload_n 0, 1) := by decide +kernel
theorem dX10_init_139 : decode cX10_init 139 = .ok (.bipush 12, 2) := by decide +kernel
theorem dX10_init_141 : decode cX10_init 141 = .ok (.newarray .int, 2) := by decide +kernel
theorem dX10_init_143 : decode cX10_init 143 = .ok (.putfield 63, 3) := by decide +kernel
theorem dX10_init_146 : decode cX10_init 146 = .ok (.aload_n 0, 1) := by decide +kernel
theorem dX10_init_147 : decode cX10_init 147 = .ok (.bipush 12, 2) := by decide +kernel
theorem dX10_init_149 : decode cX10_init 149 = .ok (.newarray .int, 2) := by decide +kernel
theorem dX10_init_151 : decode cX10_init 151 = .ok (.putfield 66, 3) := by decide +kernel
theorem dX10_init_154 : decode cX10_init 154 = .ok (.aload_n 0, 1) := by decide +kernel
theorem dX10_init_155 : decode cX10_init 155 = .ok (.bipush 13, 2) := by decide +kernel
theorem dX10_init_157 : decode cX10_init 157 = .ok (.newarray .int, 2) := by decide +kernel
theorem dX10_init_159 : decode cX10_init 159 = .ok (.putfield 69, 3) := by decide +kernel
theorem dX10_init_162 : decode cX10_init 162 = .ok (.aload_n 0, 1) := by decide +kernel
theorem dX10_init_163 : decode cX10_init 163 = .ok (.bipush 12, 2) := by decide +kernel
theorem dX10_init_165 : decode cX10_init 165 = .ok (.newarray .int, 2) := by decide +kernel
theorem dX10_init_167 : decode cX10_init 167 = .ok (.putfield 72, 3) := by decide +kernel
theorem dX10_init_170 : decode cX10_init 170 = .ok (.aload_n 0, 1) := by decide +kernel
theorem dX10_init_171 : decode cX10_init 171 = .ok (.bipush 12, 2) := by decide +kernel
theorem dX10_init_173 : decode cX10_init 173 = .ok (.newarray .int, 2) := by decide +kernel
theorem dX10_init_175 : decode cX10_init 175 = .ok (.putfield 75, 3) := by decide +kernel
theorem dX10_init_178 : decode cX10_init 178 = .ok (.aload_n 0, 1) := by decide +kernel
theorem dX10_init_179 : decode cX10_init 179 = .ok (.bipush 48, 2) := by decide +kernel
theorem dX10_init_181 : decode cX10_init 181 = .ok (.newarray .int, 2) := by decide +kernel
theorem dX10_init_183 : decode cX10_init 183 = .ok (.putfield 78, 3) := by decide +kernel
theorem dX10_init_186 : decode cX10_init 186 = .ok (.aload_n 0, 1) := by decide +kernel
theorem dX10_init_187 : decode cX10_init 187 = .ok (.bipush 48, 2) := by decide +kernel
theorem dX10_init_189 : decode cX10_init 189 = .ok (.newarray .int, 2) := by decide +kernel
theorem dX10_init_191 : decode cX10_init 191 = .ok (.putfield 81, 3) := by decide +kernel
theorem dX10_init_194 : decode cX10_init 194 = .ok (.aload_n 0, 1) := by decide +kernel
theorem dX10_init_195 : decode cX10_init 195 = .ok (.bipush 48, 2) := by decide +kernel
theorem dX10_init_197 : decode cX10_init 197 = .ok (.newarray .int, 2) := by decide +kernel
theorem dX10_init_199 : decode cX10_init 199 = .ok (.putfield 84, 3) := by decide +kernel
theorem dX10_init_202 : decode cX10_init 202 = .ok (.aload_n 0, 1) := by decide +kernel
theorem dX10_init_203 : decode cX10_init 203 = .ok (.bipush 48, 2) := by decide +kernel
theorem dX10_init_205 : decode cX10_init 205 = .ok (.newarray .int, 2) := by decide +kernel
theorem dX10_init_207 : decode cX10_init 207 = .ok (.putfield 87, 3) := by decide +kernel
theorem dX10_init_210 : decode cX10_init 210 = .ok (.aload_n 0, 1) := by decide +kernel
theorem dX10_init_211 : decode cX10_init 211 = .ok (.iconst 3, 1) := by decide +kernel
theorem dX10_init_212 : decode cX10_init 212 = .ok (.newarray .int, 2) := by decide +kernel
theorem dX10_init_214 : decode cX10_init 214 = .ok (.putfield 90, 3) := by decide +kernel
theorem dX10_init_217 : decode cX10_init 217 = .ok (.aload_n 0, 1) := by decide +kernel
theorem dX10_init_218 : decode cX10_init 218 = .ok (.sipush 144, 3) := by decide +kernel
theorem dX10_init_221 : decode cX10_init 221 = .ok (.newarray .int, 2) := by decide +kernel
theorem dX10_init_223 : decode cX10_init 223 = .ok (.putfield 93, 3) := by decide +kernel
theorem dX10_init_226 : decode cX10_init 226 = .ok (.aload_n 0, 1) := by decide +kernel
theorem dX10_init_227 : decode cX10_init 227 = .ok (.bipush (-4), 2) := by decide +kernel
theorem dX10_init_229 : decode cX10_init 229 = .ok (.putfield 96, 3) := by decide +kernel
theorem dX10_init_232 : decode cX10_init 232 = .ok (.aload_n 0, 1) := by decide +kernel
theorem dX10_init_233 : decode cX10_init 233 = .ok (.bipush 6, 2) := by decide +kernel
theorem dX10_init_235 : decode cX10_init 235 = .ok (.newarray .int, 2) := by decide +kernel
theorem dX10_init_237 : decode cX10_init 237 = .ok (.putfield 99, 3) := by decide +kernel
theorem dX10_init_240 : decode cX10_init 240 = .ok (.aload_n 0, 1) := by decide +kernel
theorem dX10_init_241 : decode cX10_init 241 = .ok (.bipush 6, 2) := by decide +kernel
theorem dX10_init_243 : decode cX10_init 243 = .ok (.newarray .int, 2) := by decide +kernel
theorem dX10_init_245 : decode cX10_init 245 = .ok (.putfield 102, 3) := by decide +kernel
theorem dX10_init_248 : decode cX10_init 248 = .ok (.aload_n 0, 1) := by decide +kernel
theorem dX10_init_249 : decode cX10_init 249 = .ok (.bipush 6, 2) := by decide +kernel
theorem dX10_init_251 : decode cX10_init 251 = .ok (.newarray .int, 2) := by decide +kernel
theorem dX10_init_253 : decode cX10_init 253 = .ok (.putfield 105, 3) := by decide +kernel
theorem dX10_init_256 : decode cX10_init 256 = .ok (.aload_n 0, 1) := by decide +kernel
theorem dX10_init_257 : decode cX10_init 257 = .ok (.bipush 64, 2) := by decide +kernel
theorem dX10_init_259 : decode cX10_init 259 = .ok (.newarray .boolean, 2) := by decide +kernel
theorem dX10_init_261 : decode cX10_init 261 = .ok (.putfield 108, 3) := by decide +kernel
theorem dX10_init_264 : decode cX10_init 264 = .ok (.aload_n 0, 1) := by decide +kernel
theorem dX10_init_265 : decode cX10_init 265 = .ok (.sipush 512, 3) := by decide +kernel
theorem dX10_init_268 : decode cX10_init 268 = .ok (.newarray .boolean, 2) := by decide +kernel
theorem dX10_init_270 : decode cX10_init 270 = .ok (.putfield 111, 3) := by decide +kernel
theorem dX10_init_273 : decode cX10_init 273 = .ok (.aload_n 0, 1) := by decide +kernel
theorem dX10_init_274 : decode cX10_init 274 = .ok (.sipush 512, 3) := by decide +kernel
theorem dX10_init_277 : decode cX10_init 277 = .ok (.newarray .boolean, 2) := by decide +kernel
theorem dX10_init_279 : decode cX10_init 279 = .ok (.putfield 114, 3) := by decide +kernel
theorem dX10_init_282 : decode cX10_init 282 = .ok (.aload_n 0, 1) := by decide +kernel
theorem dX10_init_283 : decode cX10_init 283 = .ok (.iconst 4, 1) := by decide +kernel
theorem dX10_init_284 : decode cX10_init 284 = .ok (.newarray .int, 2) := by decide +kernel
theorem dX10_init_286 : decode cX10_init 286 = .ok (.putfield 117, 3) := by decide +kernel
theorem dX10_init_289 : decode cX10_init 289 = .ok (.aload_n 0, 1) := by decide +kernel
theorem dX10_init_290 : decode cX10_init 290 = .ok (.iconst 4, 1) := by decide +kernel
theorem dX10_init_291 : decode cX10_init 291 = .ok (.newarray .int, 2) := by decide +kernel
theorem dX10_init_293 : decode cX10_init 293 = .ok (.putfield 120, 3) := by decide +kernel
theorem dX10_init_296 : decode cX10_init 296 = .ok (.aload_n 0, 1) := by decide +kernel
theorem dX10_init_297 : decode cX10_init 297 = .ok (.sipush 192, 3) := by decide +kernel
theorem dX10_init_300 : decode cX10_init 300 = .ok (.newarray .int, 2) := by decide +kernel
theorem dX10_init_302 : decode cX10_init 302 = .ok (.putfield 123, 3) := by decide +kernel
theorem dX10_init_305 : decode cX10_init 305 = .ok (.aload_n 0, 1) := by decide +kernel
theorem dX10_init_306 : decode cX10_init 306 = .ok (.bipush 48, 2) := by decide +kernel
theorem dX10_init_308 : decode cX10_init 308 = .ok (.newarray .int, 2) := by decide +kernel
theorem dX10_init_310 : decode cX10_init 310 = .ok (.putfield 126, 3) := by decide +kernel
theorem dX10_init_313 : decode cX10_init 313 = .ok (.iconst 0, 1) := by decide +kernel
theorem dX10_init_314 : decode cX10_init 314 = .ok (.istore_n 1, 1) := by decide +kernel
theorem dX10_init_315 : decode cX10_init 315 = .ok (.iload_n 1, 1) := by decide +kernel
theorem dX10_init_316 : decode cX10_init 316 = .ok (.iconst 4, 1) := by decide +kernel
theorem dX10_init_317 : decode cX10_init 317 = .ok (.if_icmp .ge 16, 3) := by decide +kernel
theorem dX10_init_320 : decode cX10_init 320 = .ok (.aload_n 0, 1) := by decide +kernel
theorem dX10_init_321 : decode cX10_init 321 = .ok (.getfield 117, 3) := by decide +kernel
theorem dX10_init_324 : decode cX10_init 324 = .ok (.iload_n 1, 1) := by decide +kernel
theorem dX10_init_325 : decode cX10_init 325 = .ok (.iconst (-1), 1) := by decide +kernel
theorem dX10_init_326 : decode cX10_init 326 = .ok (.iastore, 1) := by decide +kernel
theorem dX10_init_327 : decode cX10_init 327 = .ok (.iinc 1 1, 3) := by decide +kernel
theorem dX10_init_330 : decode cX10_init 330 = .ok (.goto (-15), 3) := by decide +kernel
theorem dX10_init_333 : decode cX10_init 333 = .ok (.iconst 0, 1) := by decide +kernel
theorem dX10_init_334 : decode cX10_init 334 = .ok (.istore_n 1, 1) := by decide +kernel
theorem dX10_init_335 : decode cX10_init 335 = .ok (.iload_n 1, 1) := by decide +kernel
theorem dX10_init_336 : decode cX10_init 336 = .ok (.bipush 12, 2) := by decide +kernel
theorem dX10_init_338 : decode cX10_init 338 = .ok (.if_icmp .ge 17, 3) := by decide +kernel
theorem dX10_init_341 : decode cX10_init 341 = .ok (.aload_n 0, 1) := by decide +kernel
theorem dX10_init_342 : decode cX10_init 342 = .ok (.getfield 60, 3) := by decide +kernel
theorem dX10_init_345 : decode cX10_init 345 = .ok (.iload_n 1, 1) := by decide +kernel
theorem dX10_init_346 : decode cX10_init 346 = .ok (.bipush 15, 2) := by decide +kernel
theorem dX10_init_348 : decode cX10_init 348 = .ok (.iastore, 1) := by decide +kernel
theorem dX10_init_349 : decode cX10_init 349 = .ok (.iinc 1 1, 3) := by decide +kernel
theorem dX10_init_352 : decode cX10_init 352 = .ok (.goto (-17), 3) := by decide +kernel
theorem dX10_init_355 : decode cX10_init 355 = .ok (.return_, 1) := by decide +kernel
theorem dX10_type_0 : decode cX10_type 0 = .ok (.iload_n 3, 1) := by decide +kernel
theorem dX10_type_1 : decode cX10_type 1 = .ok (.i2l, 1) := by decide +kernel
theorem dX10_type_2 : decode cX10_type 2 = .ok (.lconst 1, 1) := by decide +kernel
theorem dX10_type_3 : decode cX10_type 3 = .ok (.ldc2_w 129, 3) := by decide +kernel
theorem dX10_type_6 : decode cX10_type 6 = .ok (.invokestatic 131, 3) := by decide +kernel
theorem dX10_type_9 : decode cX10_type 9 = .ok (.ifCond .ne 5, 3) := by decide +kernel
theorem dX10_type_12 : decode cX10_type 12 = .ok (.iconst (-1), 1) := by decide +kernel
theorem dX10_type_13 : decode cX10_type 13 = .ok (.ireturn, 1) := by decide +kernel
theorem dX10_type_14 : decode cX10_type 14 = .ok (.iconst 0, 1) := by decide +kernel
theorem dX10_type_15 : decode cX10_type 15 = .ok (.istore 4, 2) := by decide +kernel
theorem dX10_type_17 : decode cX10_type 17 = .ok (.iload 4, 2) := by decide +kernel
theorem dX10_type_19 : decode cX10_type 19 = .ok (.iload_n 3, 1) := by decide +kernel
theorem dX10_type_20 : decode cX10_type 20 = .ok (.if_icmp .ge 34, 3) := by decide +kernel
theorem dX10_type_23 : decode cX10_type 23 = .ok (.lload_n 1, 1) := by decide +kernel
theorem dX10_type_24 : decode cX10_type 24 = .ok (.bipush 8, 2) := by decide +kernel
theorem dX10_type_26 : decode cX10_type 26 = .ok (.iload 4, 2) := by decide +kernel
theorem dX10_type_28 : decode cX10_type 28 = .ok (.imul, 1) := by decide +kernel
theorem dX10_type_29 : decode cX10_type 29 = .ok (.lshr, 1) := by decide +kernel
theorem dX10_type_30 : decode cX10_type 30 = .ok (.ldc2_w 135, 3) := by decide +kernel
theorem dX10_type_33 : decode cX10_type 33 = .ok (.land, 1) := by decide +kernel
theorem dX10_type_34 : decode cX10_type 34 = .ok (.ldc2_w 137, 3) := by decide +kernel
theorem dX10_type_37 : decode cX10_type 37 = .ok (.ldc2_w 139, 3) := by decide +kernel
theorem dX10_type_40 : decode cX10_type 40 = .ok (.invokestatic 131, 3) := by decide +kernel
theorem dX10_type_43 : decode cX10_type 43 = .ok (.ifCond .ne 5, 3) := by decide +kernel
theorem dX10_type_46 : decode cX10_type 46 = .ok (.iconst (-1), 1) := by decide +kernel
theorem dX10_type_47 : decode cX10_type 47 = .ok (.ireturn, 1) := by decide +kernel
theorem dX10_type_48 : decode cX10_type 48 = .ok (.iinc 4 1, 3) := by decide +kernel
theorem dX10_type_51 : decode cX10_type 51 = .ok (.goto (-34), 3) := by decide +kernel
theorem dX10_type_54 : decode cX10_type 54 = .ok (.aload_n 0, 1) := by decide +kernel
theorem dX10_type_55 : decode cX10_type 55 = .ok (.getfield 141, 3) := by decide +kernel
theorem dX10_type_58 : decode cX10_type 58 = .ok (.iload_n 3, 1) := by decide +kernel
theorem dX10_type_59 : decode cX10_type 59 = .ok (.iadd, 1) := by decide +kernel
theorem dX10_type_60 : decode cX10_type 60 = .ok (.bipush 120, 2) := by decide +kernel
theorem dX10_type_62 : decode cX10_type 62 = .ok (.if_icmp .le 6, 3) := by decide +kernel
theorem dX10_type_65 : decode cX10_type 65 = .ok (.bipush (-3), 2) := by decide +kernel
theorem dX10_type_67 : decode cX10_type 67 = .ok (.ireturn, 1) := by decide +kernel
theorem dX10_type_68 : decode cX10_type 68 = .ok (.iload_n 3, 1) := by decide +kernel
theorem dX10_type_69 : decode cX10_type 69 = .ok (.iconst 1, 1) := by decide +kernel
theorem dX10_type_70 : decode cX10_type 70 = .ok (.isub, 1) := by decide +kernel
theorem dX10_type_71 : decode cX10_type 71 = .ok (.istore 4, 2) := by decide +kernel
theorem dX10_type_73 : decode cX10_type 73 = .ok (.iload 4, 2) := by decide +kernel
theorem dX10_type_75 : decode cX10_type 75 = .ok (.ifCond .lt 40, 3) := by decide +kernel
theorem dX10_type_78 : decode cX10_type 78 = .ok (.aload_n 0, 1) := by decide +kernel
theorem dX10_type_79 : decode cX10_type 79 = .ok (.getfield 7, 3) := by decide +kernel
theorem dX10_type_82 : decode cX10_type 82 = .ok (.aload_n 0, 1) := by decide +kernel
theorem dX10_type_83 : decode cX10_type 83 = .ok (.getfield 141, 3) := by decide +kernel
theorem dX10_type_86 : decode cX10_type 86 = .ok (.lload_n 1, 1) := by decide +kernel
theorem dX10_type_87 : decode cX10_type 87 = .ok (.bipush 8, 2) := by decide +kernel
theorem dX10_type_89 : decode cX10_type 89 = .ok (.iload 4, 2) := by decide +kernel
theorem dX10_type_91 : decode cX10_type 91 = .ok (.imul, 1) := by decide +kernel
theorem dX10_type_92 : decode cX10_type 92 = .ok (.lshr, 1) := by decide +kernel
theorem dX10_type_93 : decode cX10_type 93 = .ok (.ldc2_w 135, 3) := by decide +kernel
theorem dX10_type_96 : decode cX10_type 96 = .ok (.land, 1) := by decide +kernel
theorem dX10_type_97 : decode cX10_type 97 = .ok (.l2i, 1) := by decide +kernel
theorem dX10_type_98 : decode cX10_type 98 = .ok (.iastore, 1) := by decide +kernel
theorem dX10_type_99 : decode cX10_type 99 = .ok (.aload_n 0, 1) := by decide +kernel
theorem dX10_type_100 : decode cX10_type 100 = .ok (.dup, 1) := by decide +kernel
theorem dX10_type_101 : decode cX10_type 101 = .ok (.getfield 141, 3) := by decide +kernel
theorem dX10_type_104 : decode cX10_type 104 = .ok (.iconst 1, 1) := by decide +kernel
theorem dX10_type_105 : decode cX10_type 105 = .ok (.iadd, 1) := by decide +kernel
theorem dX10_type_106 : decode cX10_type 106 = .ok (.putfield 141, 3) := by decide +kernel
theorem dX10_type_109 : decode cX10_type 109 = .ok (.iinc 4 (-1), 3) := by decide +kernel
theorem dX10_type_112 : decode cX10_type 112 = .ok (.goto (-39), 3) := by decide +kernel
theorem dX10_type_115 : decode cX10_type 115 = .ok (.aload_n 0, 1) := by decide +kernel
theorem dX10_type_116 : decode cX10_type 116 = .ok (.getfield 141, 3) := by decide +kernel
theorem dX10_type_119 : decode cX10_type 119 = .ok (.ireturn, 1) := by decide +kernel
theorem dX10_next_0 : decode cX10_next 0 = .ok (.aload_n 0, 1) := by decide +kernel
theorem dX10_next_1 : decode cX10_next 1 = .ok (.getfield 144, 3) := by decide +kernel
theorem dX10_next_4 : decode cX10_next 4 = .ok (.aload_n 0, 1) := by decide +kernel
theorem dX10_next_5 : decode cX10_next 5 = .ok (.getfield 141, 3) := by decide +kernel
theorem dX10_next_8 : decode cX10_next 8 = .ok (.if_icmp .ge 30, 3) := by decide +kernel
theorem dX10_next_11 : decode cX10_next 11 = .ok (.aload_n 0, 1) := by decide +kernel
theorem dX10_next_12 : decode cX10_next 12 = .ok (.getfield 7, 3) := by decide +kernel
theorem dX10_next_15 : decode cX10_next 15 = .ok (.aload_n 0, 1) := by decide +kernel
theorem dX10_next_16 : decode cX10_next 16 = .ok (.getfield 144, 3) := by decide +kernel
theorem dX10_next_19 : decode cX10_next 19 = .ok (.iaload, 1) := by decide +kernel
theorem dX10_next_20 : decode cX10_next 20 = .ok (.bipush 32, 2) := by decide +kernel
theorem dX10_next_22 : decode cX10_next 22 = .ok (.if_icmp .ne 16, 3) := by decide +kernel
theorem dX10_next_25 : decode cX10_next 25 = .ok (.aload_n 0, 1) := by decide +kernel
theorem dX10_next_26 : decode cX10_next 26 = .ok (.dup, 1) := by decide +kernel
theorem dX10_next_27 : decode cX10_next 27 = .ok (.getfield 144, 3) := by decide +kernel
theorem dX10_next_30 : decode cX10_next 30 = .ok (.iconst 1, 1) := by decide +kernel
theorem dX10_next_31 : decode cX10_next 31 = .ok (.iadd, 1) := by decide +kernel
theorem dX10_next_32 : decode cX10_next 32 = .ok (.putfield 144, 3) := by decide +kernel
theorem dX10_next_35 : decode cX10_next 35 = .ok (.goto (-35), 3) := by decide +kernel
theorem dX10_next_38 : decode cX10_next 38 = .ok (.aload_n 0, 1) := by decide +kernel
theorem dX10_next_39 : decode cX10_next 39 = .ok (.getfield 144, 3) := by decide +kernel
theorem dX10_next_42 : decode cX10_next 42 = .ok (.aload_n 0, 1) := by decide +kernel
theorem dX10_next_43 : decode cX10_next 43 = .ok (.getfield 141, 3) := by decide +kernel
theorem dX10_next_46 : decode cX10_next 46 = .ok (.if_icmp .ge 15, 3) := by decide +kernel
theorem dX10_next_49 : decode cX10_next 49 = .ok (.aload_n 0, 1) := by decide +kernel
theorem dX10_next_50 : decode cX10_next 50 = .ok (.getfield 7, 3) := by decide +kernel
theorem dX10_next_53 : decode cX10_next 53 = .ok (.aload_n 0, 1) := by decide +kernel
theorem dX10_next_54 : decode cX10_next 54 = .ok (.getfield 144, 3) := by decide +kernel
theorem dX10_next_57 : decode cX10_next 57 = .ok (.iaload, 1) := by decide +kernel
theorem dX10_next_58 : decode cX10_next 58 = .ok (.goto 4, 3) := by decide +kernel
theorem dX10_next_61 : decode cX10_next 61 = .ok (.iconst 0, 1) := by decide +kernel
theorem dX10_next_62 : decode cX10_next 62 = .ok (.ireturn, 1) := by decide +kernel
theorem dX10_passes_0 : decode cX10_passes 0 = .ok (.aload_n 0, 1) := by decide +kernel
theorem dX10_passes_1 : decode cX10_passes 1 = .ok (.getfield 147, 3) := by decide +kernel
theorem dX10_passes_4 : decode cX10_passes 4 = .ok (.ifCond .ne 15, 3) := by decide +kernel
theorem dX10_passes_7 : decode cX10_passes 7 = .ok (.aload_n 0, 1) := by decide +kernel
theorem dX10_passes_8 : decode cX10_passes 8 = .ok (.invokevirtual 151, 3) := by decide +kernel
theorem dX10_passes_11 : decode cX10_passes 11 = .ok (.iload_n 1, 1) := by decide +kernel
theorem dX10_passes_12 : decode cX10_passes 12 = .ok (.if_icmp .ne 7, 3) := by decide +kernel
theorem dX10_passes_15 : decode cX10_passes 15 = .ok (.iconst 1, 1) := by decide +kernel
theorem dX10_passes_16 : decode cX10_passes 16 = .ok (.goto 4, 3) := by decide +kernel
theorem dX10_passes_19 : decode cX10_passes 19 = .ok (.iconst 0, 1) := by decide +kernel
theorem dX10_passes_20 : decode cX10_passes 20 = .ok (.istore_n 2, 1) := by decide +kernel
theorem dX10_passes_21 : decode cX10_passes 21 = .ok (.aload_n 0, 1) := by decide +kernel
theorem dX10_passes_22 : decode cX10_passes 22 = .ok (.dup, 1) := by decide +kernel
theorem dX10_passes_23 : decode cX10_passes 23 = .ok (.getfield 144, 3) := by decide +kernel
theorem dX10_passes_26 : decode cX10_passes 26 = .ok (.iload_n 2, 1) := by decide +kernel
theorem dX10_passes_27 : decode cX10_passes 27 = .ok (.ifCond .eq 7, 3) := by decide +kernel
theorem dX10_passes_30 : decode cX10_passes 30 = .ok (.iconst 1, 1) := by decide +kernel
theorem dX10_passes_31 : decode cX10_passes 31 = .ok (.goto 4, 3) := by decide +kernel
theorem dX10_passes_34 : decode cX10_passes 34 = .ok (.iconst 0, 1) := by decide +kernel
theorem dX10_passes_35 : decode cX10_passes 35 = .ok (.iadd, 1) := by decide +kernel
theorem dX10_passes_36 : decode cX10_passes 36 = .ok (.putfield 144, 3) := by decide +kernel
theorem dX10_passes_39 : decode cX10_passes 39 = .ok (.iload_n 2, 1) := by decide +kernel
theorem dX10_passes_40 : decode cX10_passes 40 = .ok (.ireturn, 1) := by decide +kernel
theorem dX10_digit_0 : decode cX10_digit 0 = .ok (.aload_n 0, 1) := by decide +kernel
theorem dX10_digit_1 : decode cX10_digit 1 = .ok (.aload_n 0, 1) := by decide +kernel
theorem dX10_digit_2 : decode cX10_digit 2 = .ok (.getfield 147, 3) := by decide +kernel
theorem dX10_digit_5 : decode cX10_digit 5 = .ok (.ifCond .ne 20, 3) := by decide +kernel
theorem dX10_digit_8 : decode cX10_digit 8 = .ok (.aload_n 0, 1) := by decide +kernel
theorem dX10_digit_9 : decode cX10_digit 9 = .ok (.invokevirtual 151, 3) := by decide +kernel
theorem dX10_digit_12 : decode cX10_digit 12 = .ok (.i2l, 1) := by decide +kernel
theorem dX10_digit_13 : decode cX10_digit 13 = .ok (.ldc2_w 155, 3) := by decide +kernel
theorem dX10_digit_16 : decode cX10_digit 16 = .ok (.ldc2_w 157, 3) := by decide +kernel
theorem dX10_digit_19 : decode cX10_digit 19 = .ok (.invokestatic 131, 3) := by decide +kernel
theorem dX10_digit_22 : decode cX10_digit 22 = .ok (.ifCond .ne 7, 3) := by decide +kernel
theorem dX10_digit_25 : decode cX10_digit 25 = .ok (.iconst 1, 1) := by decide +kernel
theorem dX10_digit_26 : decode cX10_digit 26 = .ok (.goto 4, 3) := by decide +kernel
theorem dX10_digit_29 : decode cX10_digit 29 = .ok (.iconst 0, 1) := by decide +kernel
theorem dX10_digit_30 : decode cX10_digit 30 = .ok (.putfield 147, 3) := by decide +kernel
theorem dX10_digit_33 : decode cX10_digit 33 = .ok (.aload_n 0, 1) := by decide +kernel
theorem dX10_digit_34 : decode cX10_digit 34 = .ok (.getfield 147, 3) := by decide +kernel
theorem dX10_digit_37 : decode cX10_digit 37 = .ok (.ifCond .eq 7, 3) := by decide +kernel
theorem dX10_digit_40 : decode cX10_digit 40 = .ok (.iconst 0, 1) := by decide +kernel
theorem dX10_digit_41 : decode cX10_digit 41 = .ok (.goto 10, 3) := by decide +kernel
theorem dX10_digit_44 : decode cX10_digit 44 = .ok (.aload_n 0, 1) := by decide +kernel
theorem dX10_digit_45 : decode cX10_digit 45 = .ok (.invokevirtual 151, 3) := by decide +kernel
theorem dX10_digit_48 : decode cX10_digit 48 = .ok (.bipush 48, 2) := by decide +kernel
theorem dX10_digit_50 : decode cX10_digit 50 = .ok (.isub, 1) := by decide +kernel
theorem dX10_digit_51 : decode cX10_digit 51 = .ok (.istore_n 1, 1) := by decide +kernel
theorem dX10_digit_52 : decode cX10_digit 52 = .ok (.aload_n 0, 1) := by decide +kernel
theorem dX10_digit_53 : decode cX10_digit 53 = .ok (.dup, 1) := by decide +kernel
theorem dX10_digit_54 : decode cX10_digit 54 = .ok (.getfield 144, 3) := by decide +kernel
theorem dX10_digit_57 : decode cX10_digit 57 = .ok (.aload_n 0, 1) := by decide +kernel
theorem dX10_digit_58 : decode cX10_digit 58 = .ok (.getfield 147, 3) := by decide +kernel
theorem dX10_digit_61 : decode cX10_digit 61 = .ok (.ifCond .eq 7, 3) := by decide +kernel
theorem dX10_digit_64 : decode cX10_digit 64 = .ok (.iconst 0, 1) := by decide +kernel
theorem dX10_digit_65 : decode cX10_digit 65 = .ok (.goto 4, 3) := by decide +kernel
theorem dX10_digit_68 : decode cX10_digit 68 = .ok (.iconst 1, 1) := by decide +kernel
theorem dX10_digit_69 : decode cX10_digit 69 = .ok (.iadd, 1) := by decide +kernel
theorem dX10_digit_70 : decode cX10_digit 70 = .ok (.putfield 144, 3) := by decide +kernel
theorem dX10_digit_73 : decode cX10_digit 73 = .ok (.iload_n 1, 1) := by decide +kernel
theorem dX10_digit_74 : decode cX10_digit 74 = .ok (.ireturn, 1) := by decide +kernel
theorem dX10_claim_0 : decode cX10_claim 0 = .ok (.aload_n 0, 1) := by decide +kernel
theorem dX10_claim_1 : decode cX10_claim 1 = .ok (.invokevirtual 151, 3) := by decide +kernel
theorem dX10_claim_4 : decode cX10_claim 4 = .ok (.istore 4, 2) := by decide +kernel
theorem dX10_claim_6 : decode cX10_claim 6 = .ok (.iload 4, 2) := by decide +kernel
theorem dX10_claim_8 : decode cX10_claim 8 = .ok (.bipush 102, 2) := by decide +kernel
theorem dX10_claim_10 : decode cX10_claim 10 = .ok (.if_icmp .eq 35, 3) := by decide +kernel
theorem dX10_claim_13 : decode cX10_claim 13 = .ok (.iload 4, 2) := by decide +kernel
theorem dX10_claim_15 : decode cX10_claim 15 = .ok (.bipush 115, 2) := by decide +kernel
theorem dX10_claim_17 : decode cX10_claim 17 = .ok (.if_icmp .eq 28, 3) := by decide +kernel
theorem dX10_claim_20 : decode cX10_claim 20 = .ok (.iload 4, 2) := by decide +kernel
theorem dX10_claim_22 : decode cX10_claim 22 = .ok (.bipush 108, 2) := by decide +kernel
theorem dX10_claim_24 : decode cX10_claim 24 = .ok (.if_icmp .eq 21, 3) := by decide +kernel
theorem dX10_claim_27 : decode cX10_claim 27 = .ok (.iload 4, 2) := by decide +kernel
theorem dX10_claim_29 : decode cX10_claim 29 = .ok (.bipush 42, 2) := by decide +kernel
theorem dX10_claim_31 : decode cX10_claim 31 = .ok (.if_icmp .eq 14, 3) := by decide +kernel
theorem dX10_claim_34 : decode cX10_claim 34 = .ok (.iload 4, 2) := by decide +kernel
theorem dX10_claim_36 : decode cX10_claim 36 = .ok (.bipush 97, 2) := by decide +kernel
theorem dX10_claim_38 : decode cX10_claim 38 = .ok (.if_icmp .ne 11, 3) := by decide +kernel
theorem dX10_claim_41 : decode cX10_claim 41 = .ok (.iload_n 3, 1) := by decide +kernel
theorem dX10_claim_42 : decode cX10_claim 42 = .ok (.ifCond .eq 7, 3) := by decide +kernel
theorem dX10_claim_45 : decode cX10_claim 45 = .ok (.iconst 1, 1) := by decide +kernel
theorem dX10_claim_46 : decode cX10_claim 46 = .ok (.goto 4, 3) := by decide +kernel
theorem dX10_claim_49 : decode cX10_claim 49 = .ok (.iconst 0, 1) := by decide +kernel
theorem dX10_claim_50 : decode cX10_claim 50 = .ok (.istore 5, 2) := by decide +kernel
theorem dX10_claim_52 : decode cX10_claim 52 = .ok (.aload_n 0, 1) := by decide +kernel
theorem dX10_claim_53 : decode cX10_claim 53 = .ok (.iload 5, 2) := by decide +kernel
theorem dX10_claim_55 : decode cX10_claim 55 = .ok (.ifCond .ne 7, 3) := by decide +kernel
theorem dX10_claim_58 : decode cX10_claim 58 = .ok (.iconst 1, 1) := by decide +kernel
theorem dX10_claim_59 : decode cX10_claim 59 = .ok (.goto 4, 3) := by decide +kernel
theorem dX10_claim_62 : decode cX10_claim 62 = .ok (.iconst 0, 1) := by decide +kernel
theorem dX10_claim_63 : decode cX10_claim 63 = .ok (.putfield 147, 3) := by decide +kernel
theorem dX10_claim_66 : decode cX10_claim 66 = .ok (.aload_n 0, 1) := by decide +kernel
theorem dX10_claim_67 : decode cX10_claim 67 = .ok (.dup, 1) := by decide +kernel
theorem dX10_claim_68 : decode cX10_claim 68 = .ok (.getfield 144, 3) := by decide +kernel
theorem dX10_claim_71 : decode cX10_claim 71 = .ok (.iload 5, 2) := by decide +kernel
theorem dX10_claim_73 : decode cX10_claim 73 = .ok (.ifCond .eq 7, 3) := by decide +kernel
theorem dX10_claim_76 : decode cX10_claim 76 = .ok (.iconst 1, 1) := by decide +kernel
theorem dX10_claim_77 : decode cX10_claim 77 = .ok (.goto 4, 3) := by decide +kernel
theorem dX10_claim_80 : decode cX10_claim 80 = .ok (.iconst 0, 1) := by decide +kernel
theorem dX10_claim_81 : decode cX10_claim 81 = .ok (.iadd, 1) := by decide +kernel
theorem dX10_claim_82 : decode cX10_claim 82 = .ok (.putfield 144, 3) := by decide +kernel
theorem dX10_claim_85 : decode cX10_claim 85 = .ok (.iload 4, 2) := by decide +kernel
theorem dX10_claim_87 : decode cX10_claim 87 = .ok (.bipush 108, 2) := by decide +kernel
theorem dX10_claim_89 : decode cX10_claim 89 = .ok (.if_icmp .eq 10, 3) := by decide +kernel
theorem dX10_claim_92 : decode cX10_claim 92 = .ok (.iload 4, 2) := by decide +kernel
theorem dX10_claim_94 : decode cX10_claim 94 = .ok (.bipush 42, 2) := by decide +kernel
theorem dX10_claim_96 : decode cX10_claim 96 = .ok (.if_icmp .ne 23, 3) := by decide +kernel
theorem dX10_claim_99 : decode cX10_claim 99 = .ok (.iload 4, 2) := by decide +kernel
theorem dX10_claim_101 : decode cX10_claim 101 = .ok (.bipush 42, 2) := by decide +kernel
theorem dX10_claim_103 : decode cX10_claim 103 = .ok (.if_icmp .eq 10, 3) := by decide +kernel
theorem dX10_claim_106 : decode cX10_claim 106 = .ok (.iload_n 1, 1) := by decide +kernel
theorem dX10_claim_107 : decode cX10_claim 107 = .ok (.iconst 1, 1) := by decide +kernel
theorem dX10_claim_108 : decode cX10_claim 108 = .ok (.iand, 1) := by decide +kernel
theorem dX10_claim_109 : decode cX10_claim 109 = .ok (.iconst 1, 1) := by decide +kernel
theorem dX10_claim_110 : decode cX10_claim 110 = .ok (.if_icmp .ne 7, 3) := by decide +kernel
theorem dX10_claim_113 : decode cX10_claim 113 = .ok (.iconst 1, 1) := by decide +kernel
theorem dX10_claim_114 : decode cX10_claim 114 = .ok (.goto 4, 3) := by decide +kernel
theorem dX10_claim_117 : decode cX10_claim 117 = .ok (.iconst 0, 1) := by decide +kernel
theorem dX10_claim_118 : decode cX10_claim 118 = .ok (.ireturn, 1) := by decide +kernel
theorem dX10_claim_119 : decode cX10_claim 119 = .ok (.aload_n 0, 1) := by decide +kernel
theorem dX10_claim_120 : decode cX10_claim 120 = .ok (.invokevirtual 159, 3) := by decide +kernel
theorem dX10_claim_123 : decode cX10_claim 123 = .ok (.istore 6, 2) := by decide +kernel
theorem dX10_claim_125 : decode cX10_claim 125 = .ok (.iload 4, 2) := by decide +kernel
theorem dX10_claim_127 : decode cX10_claim 127 = .ok (.bipush 102, 2) := by decide +kernel
theorem dX10_claim_129 : decode cX10_claim 129 = .ok (.if_icmp .ne 23, 3) := by decide +kernel
theorem dX10_claim_132 : decode cX10_claim 132 = .ok (.iload_n 1, 1) := by decide +kernel
theorem dX10_claim_133 : decode cX10_claim 133 = .ok (.iload 6, 2) := by decide +kernel
theorem dX10_claim_135 : decode cX10_claim 135 = .ok (.iconst 1, 1) := by decide +kernel
theorem dX10_claim_136 : decode cX10_claim 136 = .ok (.iadd, 1) := by decide +kernel
theorem dX10_claim_137 : decode cX10_claim 137 = .ok (.ishr, 1) := by decide +kernel
theorem dX10_claim_138 : decode cX10_claim 138 = .ok (.iconst 1, 1) := by decide +kernel
theorem dX10_claim_139 : decode cX10_claim 139 = .ok (.iand, 1) := by decide +kernel
theorem dX10_claim_140 : decode cX10_claim 140 = .ok (.iconst 1, 1) := by decide +kernel
theorem dX10_claim_141 : decode cX10_claim 141 = .ok (.if_icmp .ne 7, 3) := by decide +kernel
theorem dX10_claim_144 : decode cX10_claim 144 = .ok (.iconst 1, 1) := by decide +kernel
theorem dX10_claim_145 : decode cX10_claim 145 = .ok (.goto 41, 3) := by decide +kernel
theorem dX10_claim_148 : decode cX10_claim 148 = .ok (.iconst 0, 1) := by decide +kernel
theorem dX10_claim_149 : decode cX10_claim 149 = .ok (.goto 37, 3) := by decide +kernel
theorem dX10_claim_152 : decode cX10_claim 152 = .ok (.iload 4, 2) := by decide +kernel
theorem dX10_claim_154 : decode cX10_claim 154 = .ok (.bipush 115, 2) := by decide +kernel
theorem dX10_claim_156 : decode cX10_claim 156 = .ok (.if_icmp .ne 19, 3) := by decide +kernel
theorem dX10_claim_159 : decode cX10_claim 159 = .ok (.iload_n 1, 1) := by decide +kernel
theorem dX10_claim_160 : decode cX10_claim 160 = .ok (.iconst 5, 1) := by decide +kernel
theorem dX10_claim_161 : decode cX10_claim 161 = .ok (.ishr, 1) := by decide +kernel
theorem dX10_claim_162 : decode cX10_claim 162 = .ok (.iload 6, 2) := by decide +kernel
theorem dX10_claim_164 : decode cX10_claim 164 = .ok (.if_icmp .ne 7, 3) := by decide +kernel
theorem dX10_claim_167 : decode cX10_claim 167 = .ok (.iconst 1, 1) := by decide +kernel
theorem dX10_claim_168 : decode cX10_claim 168 = .ok (.goto 18, 3) := by decide +kernel
theorem dX10_claim_171 : decode cX10_claim 171 = .ok (.iconst 0, 1) := by decide +kernel
theorem dX10_claim_172 : decode cX10_claim 172 = .ok (.goto 14, 3) := by decide +kernel
theorem dX10_claim_175 : decode cX10_claim 175 = .ok (.iload_n 2, 1) := by decide +kernel
theorem dX10_claim_176 : decode cX10_claim 176 = .ok (.iload 6, 2) := by decide +kernel
theorem dX10_claim_178 : decode cX10_claim 178 = .ok (.if_icmp .ne 7, 3) := by decide +kernel
theorem dX10_claim_181 : decode cX10_claim 181 = .ok (.iconst 1, 1) := by decide +kernel
theorem dX10_claim_182 : decode cX10_claim 182 = .ok (.goto 4, 3) := by decide +kernel
theorem dX10_claim_185 : decode cX10_claim 185 = .ok (.iconst 0, 1) := by decide +kernel
theorem dX10_claim_186 : decode cX10_claim 186 = .ok (.ireturn, 1) := by decide +kernel
theorem dX10_test_0 : decode cX10_test 0 = .ok (.iconst 0, 1) := by decide +kernel
theorem dX10_test_1 : decode cX10_test 1 = .ok (.istore 4, 2) := by decide +kernel
theorem dX10_test_3 : decode cX10_test 3 = .ok (.aload_n 0, 1) := by decide +kernel
theorem dX10_test_4 : decode cX10_test 4 = .ok (.getfield 13, 3) := by decide +kernel
theorem dX10_test_7 : decode cX10_test 7 = .ok (.iconst 0, 1) := by decide +kernel
theorem dX10_test_8 : decode cX10_test 8 = .ok (.iconst 0, 1) := by decide +kernel
theorem dX10_test_9 : decode cX10_test 9 = .ok (.bastore, 1) := by decide +kernel
theorem dX10_test_10 : decode cX10_test 10 = .ok (.aload_n 0, 1) := by decide +kernel
theorem dX10_test_11 : decode cX10_test 11 = .ok (.getfield 17, 3) := by decide +kernel
theorem dX10_test_14 : decode cX10_test 14 = .ok (.iconst 0, 1) := by decide +kernel
theorem dX10_test_15 : decode cX10_test 15 = .ok (.iconst 1, 1) := by decide +kernel
theorem dX10_test_16 : decode cX10_test 16 = .ok (.bastore, 1) := by decide +kernel
theorem dX10_test_17 : decode cX10_test 17 = .ok (.iconst 1, 1) := by decide +kernel
theorem dX10_test_18 : decode cX10_test 18 = .ok (.istore 5, 2) := by decide +kernel
theorem dX10_test_20 : decode cX10_test 20 = .ok (.aload_n 0, 1) := by decide +kernel
theorem dX10_test_21 : decode cX10_test 21 = .ok (.getfield 147, 3) := by decide +kernel
theorem dX10_test_24 : decode cX10_test 24 = .ok (.ifCond .ne 300, 3) := by decide +kernel
theorem dX10_test_27 : decode cX10_test 27 = .ok (.iload 5, 2) := by decide +kernel
theorem dX10_test_29 : decode cX10_test 29 = .ok (.ifCond .eq 111, 3) := by decide +kernel
theorem dX10_test_32 : decode cX10_test 32 = .ok (.aload_n 0, 1) := by decide +kernel
theorem dX10_test_33 : decode cX10_test 33 = .ok (.bipush 33, 2) := by decide +kernel
theorem dX10_test_35 : decode cX10_test 35 = .ok (.invokevirtual 162, 3) := by decide +kernel
theorem dX10_test_38 : decode cX10_test 38 = .ok (.istore 6, 2) := by decide +kernel
theorem dX10_test_40 : decode cX10_test 40 = .ok (.aload_n 0, 1) := by decide +kernel
theorem dX10_test_41 : decode cX10_test 41 = .ok (.invokevirtual 151, 3) := by decide +kernel
theorem dX10_test_44 : decode cX10_test 44 = .ok (.bipush 40, 2) := by decide +kernel
theorem dX10_test_46 : decode cX10_test 46 = .ok (.if_icmp .ne 50, 3) := by decide +kernel
theorem dX10_test_49 : decode cX10_test 49 = .ok (.iload 4, 2) := by decide +kernel
theorem dX10_test_51 : decode cX10_test 51 = .ok (.iconst 5, 1) := by decide +kernel
theorem dX10_test_52 : decode cX10_test 52 = .ok (.if_icmp .ge 44, 3) := by decide +kernel
theorem dX10_test_55 : decode cX10_test 55 = .ok (.aload_n 0, 1) := by decide +kernel
theorem dX10_test_56 : decode cX10_test 56 = .ok (.dup, 1) := by decide +kernel
theorem dX10_test_57 : decode cX10_test 57 = .ok (.getfield 144, 3) := by decide +kernel
theorem dX10_test_60 : decode cX10_test 60 = .ok (.iconst 1, 1) := by decide +kernel
theorem dX10_test_61 : decode cX10_test 61 = .ok (.iadd, 1) := by decide +kernel
theorem dX10_test_62 : decode cX10_test 62 = .ok (.putfield 144, 3) := by decide +kernel
theorem dX10_test_65 : decode cX10_test 65 = .ok (.aload_n 0, 1) := by decide +kernel
theorem dX10_test_66 : decode cX10_test 66 = .ok (.getfield 20, 3) := by decide +kernel
theorem dX10_test_69 : decode cX10_test 69 = .ok (.iload 4, 2) := by decide +kernel
theorem dX10_test_71 : decode cX10_test 71 = .ok (.iload 6, 2) := by decide +kernel
theorem dX10_test_73 : decode cX10_test 73 = .ok (.bastore, 1) := by decide +kernel
theorem dX10_test_74 : decode cX10_test 74 = .ok (.iinc 4 1, 3) := by decide +kernel
theorem dX10_test_77 : decode cX10_test 77 = .ok (.aload_n 0, 1) := by decide +kernel
theorem dX10_test_78 : decode cX10_test 78 = .ok (.getfield 13, 3) := by decide +kernel
theorem dX10_test_81 : decode cX10_test 81 = .ok (.iload 4, 2) := by decide +kernel
theorem dX10_test_83 : decode cX10_test 83 = .ok (.iconst 0, 1) := by decide +kernel
theorem dX10_test_84 : decode cX10_test 84 = .ok (.bastore, 1) := by decide +kernel
theorem dX10_test_85 : decode cX10_test 85 = .ok (.aload_n 0, 1) := by decide +kernel
theorem dX10_test_86 : decode cX10_test 86 = .ok (.getfield 17, 3) := by decide +kernel
theorem dX10_test_89 : decode cX10_test 89 = .ok (.iload 4, 2) := by decide +kernel
theorem dX10_test_91 : decode cX10_test 91 = .ok (.iconst 1, 1) := by decide +kernel
theorem dX10_test_92 : decode cX10_test 92 = .ok (.bastore, 1) := by decide +kernel
theorem dX10_test_93 : decode cX10_test 93 = .ok (.goto 44, 3) := by decide +kernel
theorem dX10_test_96 : decode cX10_test 96 = .ok (.aload_n 0, 1) := by decide +kernel
theorem dX10_test_97 : decode cX10_test 97 = .ok (.iload_n 1, 1) := by decide +kernel
theorem dX10_test_98 : decode cX10_test 98 = .ok (.iload_n 2, 1) := by decide +kernel
theorem dX10_test_99 : decode cX10_test 99 = .ok (.iload_n 3, 1) := by decide +kernel
theorem dX10_test_100 : decode cX10_test 100 = .ok (.invokevirtual 166, 3) := by decide +kernel
theorem dX10_test_103 : decode cX10_test 103 = .ok (.istore 7, 2) := by decide +kernel
theorem dX10_test_105 : decode cX10_test 105 = .ok (.aload_n 0, 1) := by decide +kernel
theorem dX10_test_106 : decode cX10_test 106 = .ok (.getfield 17, 3) := by decide +kernel
theorem dX10_test_109 : decode cX10_test 109 = .ok (.iload 4, 2) := by decide +kernel
theorem dX10_test_111 : decode cX10_test 111 = .ok (.aload_n 0, 1) := by decide +kernel
theorem dX10_test_112 : decode cX10_test 112 = .ok (.getfield 17, 3) := by decide +kernel
theorem dX10_test_115 : decode cX10_test 115 = .ok (.iload 4, 2) := by decide +kernel
theorem dX10_test_117 : decode cX10_test 117 = .ok (.baload, 1) := by decide +kernel
theorem dX10_test_118 : decode cX10_test 118 = .ok (.ifCond .eq 14, 3) := by decide +kernel
theorem dX10_test_121 : decode cX10_test 121 = .ok (.iload 7, 2) := by decide +kernel
theorem dX10_test_123 : decode cX10_test 123 = .ok (.iload 6, 2) := by decide +kernel
theorem dX10_test_125 : decode cX10_test 125 = .ok (.if_icmp .eq 7, 3) := by decide +kernel
theorem dX10_test_128 : decode cX10_test 128 = .ok (.iconst 1, 1) := by decide +kernel
theorem dX10_test_129 : decode cX10_test 129 = .ok (.goto 4, 3) := by decide +kernel
theorem dX10_test_132 : decode cX10_test 132 = .ok (.iconst 0, 1) := by decide +kernel
theorem dX10_test_133 : decode cX10_test 133 = .ok (.bastore, 1) := by decide +kernel
theorem dX10_test_134 : decode cX10_test 134 = .ok (.iconst 0, 1) := by decide +kernel
theorem dX10_test_135 : decode cX10_test 135 = .ok (.istore 5, 2) := by decide +kernel
theorem dX10_test_137 : decode cX10_test 137 = .ok (.goto (-117), 3) := by decide +kernel
theorem dX10_test_140 : decode cX10_test 140 = .ok (.aload_n 0, 1) := by decide +kernel
theorem dX10_test_141 : decode cX10_test 141 = .ok (.bipush 38, 2) := by decide +kernel
theorem dX10_test_143 : decode cX10_test 143 = .ok (.invokevirtual 162, 3) := by decide +kernel
theorem dX10_test_146 : decode cX10_test 146 = .ok (.ifCond .eq 9, 3) := by decide +kernel
theorem dX10_test_149 : decode cX10_test 149 = .ok (.iconst 1, 1) := by decide +kernel
theorem dX10_test_150 : decode cX10_test 150 = .ok (.istore 5, 2) := by decide +kernel
theorem dX10_test_152 : decode cX10_test 152 = .ok (.goto (-132), 3) := by decide +kernel
theorem dX10_test_155 : decode cX10_test 155 = .ok (.aload_n 0, 1) := by decide +kernel
theorem dX10_test_156 : decode cX10_test 156 = .ok (.bipush 124, 2) := by decide +kernel
theorem dX10_test_158 : decode cX10_test 158 = .ok (.invokevirtual 162, 3) := by decide +kernel
theorem dX10_test_161 : decode cX10_test 161 = .ok (.ifCond .eq 49, 3) := by decide +kernel
theorem dX10_test_164 : decode cX10_test 164 = .ok (.aload_n 0, 1) := by decide +kernel
theorem dX10_test_165 : decode cX10_test 165 = .ok (.getfield 13, 3) := by decide +kernel
theorem dX10_test_168 : decode cX10_test 168 = .ok (.iload 4, 2) := by decide +kernel
theorem dX10_test_170 : decode cX10_test 170 = .ok (.aload_n 0, 1) := by decide +kernel
theorem dX10_test_171 : decode cX10_test 171 = .ok (.getfield 13, 3) := by decide +kernel
theorem dX10_test_174 : decode cX10_test 174 = .ok (.iload 4, 2) := by decide +kernel
theorem dX10_test_176 : decode cX10_test 176 = .ok (.baload, 1) := by decide +kernel
theorem dX10_test_177 : decode cX10_test 177 = .ok (.ifCond .ne 13, 3) := by decide +kernel
theorem dX10_test_180 : decode cX10_test 180 = .ok (.aload_n 0, 1) := by decide +kernel
theorem dX10_test_181 : decode cX10_test 181 = .ok (.getfield 17, 3) := by decide +kernel
theorem dX10_test_184 : decode cX10_test 184 = .ok (.iload 4, 2) := by decide +kernel
theorem dX10_test_186 : decode cX10_test 186 = .ok (.baload, 1) := by decide +kernel
theorem dX10_test_187 : decode cX10_test 187 = .ok (.ifCond .eq 7, 3) := by decide +kernel
theorem dX10_test_190 : decode cX10_test 190 = .ok (.iconst 1, 1) := by decide +kernel
theorem dX10_test_191 : decode cX10_test 191 = .ok (.goto 4, 3) := by decide +kernel
theorem dX10_test_194 : decode cX10_test 194 = .ok (.iconst 0, 1) := by decide +kernel
theorem dX10_test_195 : decode cX10_test 195 = .ok (.bastore, 1) := by decide +kernel
theorem dX10_test_196 : decode cX10_test 196 = .ok (.aload_n 0, 1) := by decide +kernel
theorem dX10_test_197 : decode cX10_test 197 = .ok (.getfield 17, 3) := by decide +kernel
theorem dX10_test_200 : decode cX10_test 200 = .ok (.iload 4, 2) := by decide +kernel
theorem dX10_test_202 : decode cX10_test 202 = .ok (.iconst 1, 1) := by decide +kernel
theorem dX10_test_203 : decode cX10_test 203 = .ok (.bastore, 1) := by decide +kernel
theorem dX10_test_204 : decode cX10_test 204 = .ok (.iconst 1, 1) := by decide +kernel
theorem dX10_test_205 : decode cX10_test 205 = .ok (.istore 5, 2) := by decide +kernel
theorem dX10_test_207 : decode cX10_test 207 = .ok (.goto (-187), 3) := by decide +kernel
theorem dX10_test_210 : decode cX10_test 210 = .ok (.iload 4, 2) := by decide +kernel
theorem dX10_test_212 : decode cX10_test 212 = .ok (.ifCond .ne 27, 3) := by decide +kernel
theorem dX10_test_215 : decode cX10_test 215 = .ok (.aload_n 0, 1) := by decide +kernel
theorem dX10_test_216 : decode cX10_test 216 = .ok (.getfield 13, 3) := by decide +kernel
theorem dX10_test_219 : decode cX10_test 219 = .ok (.iconst 0, 1) := by decide +kernel
theorem dX10_test_220 : decode cX10_test 220 = .ok (.baload, 1) := by decide +kernel
theorem dX10_test_221 : decode cX10_test 221 = .ok (.ifCond .ne 12, 3) := by decide +kernel
theorem dX10_test_224 : decode cX10_test 224 = .ok (.aload_n 0, 1) := by decide +kernel
theorem dX10_test_225 : decode cX10_test 225 = .ok (.getfield 17, 3) := by decide +kernel
theorem dX10_test_228 : decode cX10_test 228 = .ok (.iconst 0, 1) := by decide +kernel
theorem dX10_test_229 : decode cX10_test 229 = .ok (.baload, 1) := by decide +kernel
theorem dX10_test_230 : decode cX10_test 230 = .ok (.ifCond .eq 7, 3) := by decide +kernel
theorem dX10_test_233 : decode cX10_test 233 = .ok (.iconst 1, 1) := by decide +kernel
theorem dX10_test_234 : decode cX10_test 234 = .ok (.goto 4, 3) := by decide +kernel
theorem dX10_test_237 : decode cX10_test 237 = .ok (.iconst 0, 1) := by decide +kernel
theorem dX10_test_238 : decode cX10_test 238 = .ok (.ireturn, 1) := by decide +kernel
theorem dX10_test_239 : decode cX10_test 239 = .ok (.aload_n 0, 1) := by decide +kernel
theorem dX10_test_240 : decode cX10_test 240 = .ok (.aload_n 0, 1) := by decide +kernel
theorem dX10_test_241 : decode cX10_test 241 = .ok (.bipush 41, 2) := by decide +kernel
theorem dX10_test_243 : decode cX10_test 243 = .ok (.invokevirtual 162, 3) := by decide +kernel
theorem dX10_test_246 : decode cX10_test 246 = .ok (.ifCond .ne 7, 3) := by decide +kernel
theorem dX10_test_249 : decode cX10_test 249 = .ok (.iconst 1, 1) := by decide +kernel
theorem dX10_test_250 : decode cX10_test 250 = .ok (.goto 4, 3) := by decide +kernel
theorem dX10_test_253 : decode cX10_test 253 = .ok (.iconst 0, 1) := by decide +kernel
theorem dX10_test_254 : decode cX10_test 254 = .ok (.putfield 147, 3) := by decide +kernel
theorem dX10_test_257 : decode cX10_test 257 = .ok (.aload_n 0, 1) := by decide +kernel
theorem dX10_test_258 : decode cX10_test 258 = .ok (.getfield 13, 3) := by decide +kernel
theorem dX10_test_261 : decode cX10_test 261 = .ok (.iload 4, 2) := by decide +kernel
theorem dX10_test_263 : decode cX10_test 263 = .ok (.baload, 1) := by decide +kernel
theorem dX10_test_264 : decode cX10_test 264 = .ok (.ifCond .ne 13, 3) := by decide +kernel
theorem dX10_test_267 : decode cX10_test 267 = .ok (.aload_n 0, 1) := by decide +kernel
theorem dX10_test_268 : decode cX10_test 268 = .ok (.getfield 17, 3) := by decide +kernel
theorem dX10_test_271 : decode cX10_test 271 = .ok (.iload 4, 2) := by decide +kernel
theorem dX10_test_273 : decode cX10_test 273 = .ok (.baload, 1) := by decide +kernel
theorem dX10_test_274 : decode cX10_test 274 = .ok (.ifCond .eq 7, 3) := by decide +kernel
theorem dX10_test_277 : decode cX10_test 277 = .ok (.iconst 1, 1) := by decide +kernel
theorem dX10_test_278 : decode cX10_test 278 = .ok (.goto 4, 3) := by decide +kernel
theorem dX10_test_281 : decode cX10_test 281 = .ok (.iconst 0, 1) := by decide +kernel
theorem dX10_test_282 : decode cX10_test 282 = .ok (.istore 6, 2) := by decide +kernel
theorem dX10_test_284 : decode cX10_test 284 = .ok (.iinc 4 (-1), 3) := by decide +kernel
theorem dX10_test_287 : decode cX10_test 287 = .ok (.aload_n 0, 1) := by decide +kernel
theorem dX10_test_288 : decode cX10_test 288 = .ok (.getfield 17, 3) := by decide +kernel
theorem dX10_test_291 : decode cX10_test 291 = .ok (.iload 4, 2) := by decide +kernel
theorem dX10_test_293 : decode cX10_test 293 = .ok (.aload_n 0, 1) := by decide +kernel
theorem dX10_test_294 : decode cX10_test 294 = .ok (.getfield 17, 3) := by decide +kernel
theorem dX10_test_297 : decode cX10_test 297 = .ok (.iload 4, 2) := by decide +kernel
theorem dX10_test_299 : decode cX10_test 299 = .ok (.baload, 1) := by decide +kernel
theorem dX10_test_300 : decode cX10_test 300 = .ok (.ifCond .eq 19, 3) := by decide +kernel
theorem dX10_test_303 : decode cX10_test 303 = .ok (.iload 6, 2) := by decide +kernel
theorem dX10_test_305 : decode cX10_test 305 = .ok (.aload_n 0, 1) := by decide +kernel
theorem dX10_test_306 : decode cX10_test 306 = .ok (.getfield 20, 3) := by decide +kernel
theorem dX10_test_309 : decode cX10_test 309 = .ok (.iload 4, 2) := by decide +kernel
theorem dX10_test_311 : decode cX10_test 311 = .ok (.baload, 1) := by decide +kernel
theorem dX10_test_312 : decode cX10_test 312 = .ok (.if_icmp .eq 7, 3) := by decide +kernel
theorem dX10_test_315 : decode cX10_test 315 = .ok (.iconst 1, 1) := by decide +kernel
theorem dX10_test_316 : decode cX10_test 316 = .ok (.goto 4, 3) := by decide +kernel
theorem dX10_test_319 : decode cX10_test 319 = .ok (.iconst 0, 1) := by decide +kernel
theorem dX10_test_320 : decode cX10_test 320 = .ok (.bastore, 1) := by decide +kernel
theorem dX10_test_321 : decode cX10_test 321 = .ok (.goto (-301), 3) := by decide +kernel
theorem dX10_test_324 : decode cX10_test 324 = .ok (.iconst 0, 1) := by decide +kernel
theorem dX10_test_325 : decode cX10_test 325 = .ok (.ireturn, 1) := by decide +kernel
theorem dX10_isMachine_0 : decode cX10_isMachine 0 = .ok (.iload_n 0, 1) := by decide +kernel
theorem dX10_isMachine_1 : decode cX10_isMachine 1 = .ok (.i2l, 1) := by decide +kernel
theorem dX10_isMachine_2 : decode cX10_isMachine 2 = .ok (.lconst 0, 1) := by decide +kernel
theorem dX10_isMachine_3 : decode cX10_isMachine 3 = .ok (.lconst 1, 1) := by decide +kernel
theorem dX10_isMachine_4 : decode cX10_isMachine 4 = .ok (.invokestatic 131, 3) := by decide +kernel
theorem dX10_isMachine_7 : decode cX10_isMachine 7 = .ok (.ireturn, 1) := by decide +kernel
theorem dX10_clause_0 : decode cX10_clause 0 = .ok (.aload_n 0, 1) := by decide +kernel
theorem dX10_clause_1 : decode cX10_clause 1 = .ok (.getfield 38, 3) := by decide +kernel
theorem dX10_clause_4 : decode cX10_clause 4 = .ok (.iload_n 1, 1) := by decide +kernel
theorem dX10_clause_5 : decode cX10_clause 5 = .ok (.aload_n 0, 1) := by decide +kernel
theorem dX10_clause_6 : decode cX10_clause 6 = .ok (.invokevirtual 159, 3) := by decide +kernel
theorem dX10_clause_9 : decode cX10_clause 9 = .ok (.iastore, 1) := by decide +kernel
theorem dX10_clause_10 : decode cX10_clause 10 = .ok (.aload_n 0, 1) := by decide +kernel
theorem dX10_clause_11 : decode cX10_clause 11 = .ok (.getfield 144, 3) := by decide +kernel
theorem dX10_clause_14 : decode cX10_clause 14 = .ok (.istore_n 2, 1) := by decide +kernel
theorem dX10_clause_15 : decode cX10_clause 15 = .ok (.aload_n 0, 1) := by decide +kernel
theorem dX10_clause_16 : decode cX10_clause 16 = .ok (.getfield 144, 3) := by decide +kernel
theorem dX10_clause_19 : decode cX10_clause 19 = .ok (.istore_n 3, 1) := by decide +kernel
theorem dX10_clause_20 : decode cX10_clause 20 = .ok (.iconst 0, 1) := by decide +kernel
theorem dX10_clause_21 : decode cX10_clause 21 = .ok (.istore 4, 2) := by decide +kernel
theorem dX10_clause_23 : decode cX10_clause 23 = .ok (.iload 4, 2) := by decide +kernel
theorem dX10_clause_25 : decode cX10_clause 25 = .ok (.sipush 128, 3) := by decide +kernel
theorem dX10_clause_28 : decode cX10_clause 28 = .ok (.if_icmp .ge 47, 3) := by decide +kernel
theorem dX10_clause_31 : decode cX10_clause 31 = .ok (.aload_n 0, 1) := by decide +kernel
theorem dX10_clause_32 : decode cX10_clause 32 = .ok (.getfield 147, 3) := by decide +kernel
theorem dX10_clause_35 : decode cX10_clause 35 = .ok (.ifCond .ne 40, 3) := by decide +kernel
theorem dX10_clause_38 : decode cX10_clause 38 = .ok (.aload_n 0, 1) := by decide +kernel
theorem dX10_clause_39 : decode cX10_clause 39 = .ok (.iload_n 2, 1) := by decide +kernel
theorem dX10_clause_40 : decode cX10_clause 40 = .ok (.putfield 144, 3) := by decide +kernel
theorem dX10_clause_43 : decode cX10_clause 43 = .ok (.aload_n 0, 1) := by decide +kernel
theorem dX10_clause_44 : decode cX10_clause 44 = .ok (.getfield 47, 3) := by decide +kernel
theorem dX10_clause_47 : decode cX10_clause 47 = .ok (.sipush 128, 3) := by decide +kernel
theorem dX10_clause_50 : decode cX10_clause 50 = .ok (.iload_n 1, 1) := by decide +kernel
theorem dX10_clause_51 : decode cX10_clause 51 = .ok (.imul, 1) := by decide +kernel
theorem dX10_clause_52 : decode cX10_clause 52 = .ok (.iload 4, 2) := by decide +kernel
theorem dX10_clause_54 : decode cX10_clause 54 = .ok (.iadd, 1) := by decide +kernel
theorem dX10_clause_55 : decode cX10_clause 55 = .ok (.aload_n 0, 1) := by decide +kernel
theorem dX10_clause_56 : decode cX10_clause 56 = .ok (.iload 4, 2) := by decide +kernel
theorem dX10_clause_58 : decode cX10_clause 58 = .ok (.iconst 0, 1) := by decide +kernel
theorem dX10_clause_59 : decode cX10_clause 59 = .ok (.iconst 0, 1) := by decide +kernel
theorem dX10_clause_60 : decode cX10_clause 60 = .ok (.invokevirtual 170, 3) := by decide +kernel
theorem dX10_clause_63 : decode cX10_clause 63 = .ok (.bastore, 1) := by decide +kernel
theorem dX10_clause_64 : decode cX10_clause 64 = .ok (.aload_n 0, 1) := by decide +kernel
theorem dX10_clause_65 : decode cX10_clause 65 = .ok (.getfield 144, 3) := by decide +kernel
theorem dX10_clause_68 : decode cX10_clause 68 = .ok (.istore_n 3, 1) := by decide +kernel
theorem dX10_clause_69 : decode cX10_clause 69 = .ok (.iinc 4 1, 3) := by decide +kernel
theorem dX10_clause_72 : decode cX10_clause 72 = .ok (.goto (-49), 3) := by decide +kernel
theorem dX10_clause_75 : decode cX10_clause 75 = .ok (.aload_n 0, 1) := by decide +kernel
theorem dX10_clause_76 : decode cX10_clause 76 = .ok (.aload_n 0, 1) := by decide +kernel
theorem dX10_clause_77 : decode cX10_clause 77 = .ok (.getfield 147, 3) := by decide +kernel
theorem dX10_clause_80 : decode cX10_clause 80 = .ok (.ifCond .eq 10, 3) := by decide +kernel
theorem dX10_clause_83 : decode cX10_clause 83 = .ok (.aload_n 0, 1) := by decide +kernel
theorem dX10_clause_84 : decode cX10_clause 84 = .ok (.getfield 144, 3) := by decide +kernel
theorem dX10_clause_87 : decode cX10_clause 87 = .ok (.goto 4, 3) := by decide +kernel
theorem dX10_clause_90 : decode cX10_clause 90 = .ok (.iload_n 3, 1) := by decide +kernel
theorem dX10_clause_91 : decode cX10_clause 91 = .ok (.putfield 144, 3) := by decide +kernel
theorem dX10_clause_94 : decode cX10_clause 94 = .ok (.aload_n 0, 1) := by decide +kernel
theorem dX10_clause_95 : decode cX10_clause 95 = .ok (.aload_n 0, 1) := by decide +kernel
theorem dX10_clause_96 : decode cX10_clause 96 = .ok (.getfield 147, 3) := by decide +kernel
theorem dX10_clause_99 : decode cX10_clause 99 = .ok (.ifCond .ne 12, 3) := by decide +kernel
theorem dX10_clause_102 : decode cX10_clause 102 = .ok (.aload_n 0, 1) := by decide +kernel
theorem dX10_clause_103 : decode cX10_clause 103 = .ok (.bipush 58, 2) := by decide +kernel
theorem dX10_clause_105 : decode cX10_clause 105 = .ok (.invokevirtual 162, 3) := by decide +kernel
theorem dX10_clause_108 : decode cX10_clause 108 = .ok (.ifCond .ne 7, 3) := by decide +kernel
theorem dX10_clause_111 : decode cX10_clause 111 = .ok (.iconst 1, 1) := by decide +kernel
theorem dX10_clause_112 : decode cX10_clause 112 = .ok (.goto 4, 3) := by decide +kernel
theorem dX10_clause_115 : decode cX10_clause 115 = .ok (.iconst 0, 1) := by decide +kernel
theorem dX10_clause_116 : decode cX10_clause 116 = .ok (.putfield 147, 3) := by decide +kernel
theorem dX10_clause_119 : decode cX10_clause 119 = .ok (.aload_n 0, 1) := by decide +kernel
theorem dX10_clause_120 : decode cX10_clause 120 = .ok (.getfield 41, 3) := by decide +kernel
theorem dX10_clause_123 : decode cX10_clause 123 = .ok (.iload_n 1, 1) := by decide +kernel
theorem dX10_clause_124 : decode cX10_clause 124 = .ok (.aload_n 0, 1) := by decide +kernel
theorem dX10_clause_125 : decode cX10_clause 125 = .ok (.invokevirtual 159, 3) := by decide +kernel
theorem dX10_clause_128 : decode cX10_clause 128 = .ok (.iastore, 1) := by decide +kernel
theorem dX10_clause_129 : decode cX10_clause 129 = .ok (.aload_n 0, 1) := by decide +kernel
theorem dX10_clause_130 : decode cX10_clause 130 = .ok (.getfield 44, 3) := by decide +kernel
theorem dX10_clause_133 : decode cX10_clause 133 = .ok (.iload_n 1, 1) := by decide +kernel
theorem dX10_clause_134 : decode cX10_clause 134 = .ok (.aload_n 0, 1) := by decide +kernel
theorem dX10_clause_135 : decode cX10_clause 135 = .ok (.bipush 62, 2) := by decide +kernel
theorem dX10_clause_137 : decode cX10_clause 137 = .ok (.invokevirtual 162, 3) := by decide +kernel
theorem dX10_clause_140 : decode cX10_clause 140 = .ok (.ifCond .eq 10, 3) := by decide +kernel
theorem dX10_clause_143 : decode cX10_clause 143 = .ok (.aload_n 0, 1) := by decide +kernel
theorem dX10_clause_144 : decode cX10_clause 144 = .ok (.invokevirtual 159, 3) := by decide +kernel
theorem dX10_clause_147 : decode cX10_clause 147 = .ok (.goto 5, 3) := by decide +kernel
theorem dX10_clause_150 : decode cX10_clause 150 = .ok (.bipush (-4), 2) := by decide +kernel
theorem dX10_clause_152 : decode cX10_clause 152 = .ok (.iastore, 1) := by decide +kernel
theorem dX10_clause_153 : decode cX10_clause 153 = .ok (.return_, 1) := by decide +kernel
theorem dX10_rules_0 : decode cX10_rules 0 = .ok (.iload_n 1, 1) := by decide +kernel
theorem dX10_rules_1 : decode cX10_rules 1 = .ok (.invokestatic 173, 3) := by decide +kernel
theorem dX10_rules_4 : decode cX10_rules 4 = .ok (.ifCond .ne 5, 3) := by decide +kernel
theorem dX10_rules_7 : decode cX10_rules 7 = .ok (.iconst (-1), 1) := by decide +kernel
theorem dX10_rules_8 : decode cX10_rules 8 = .ok (.ireturn, 1) := by decide +kernel
theorem dX10_rules_9 : decode cX10_rules 9 = .ok (.aload_n 0, 1) := by decide +kernel
theorem dX10_rules_10 : decode cX10_rules 10 = .ok (.iconst 0, 1) := by decide +kernel
theorem dX10_rules_11 : decode cX10_rules 11 = .ok (.putfield 144, 3) := by decide +kernel
theorem dX10_rules_14 : decode cX10_rules 14 = .ok (.aload_n 0, 1) := by decide +kernel
theorem dX10_rules_15 : decode cX10_rules 15 = .ok (.iconst 0, 1) := by decide +kernel
theorem dX10_rules_16 : decode cX10_rules 16 = .ok (.putfield 147, 3) := by decide +kernel
theorem dX10_rules_19 : decode cX10_rules 19 = .ok (.iconst 0, 1) := by decide +kernel
theorem dX10_rules_20 : decode cX10_rules 20 = .ok (.istore_n 2, 1) := by decide +kernel
theorem dX10_rules_21 : decode cX10_rules 21 = .ok (.iconst 1, 1) := by decide +kernel
theorem dX10_rules_22 : decode cX10_rules 22 = .ok (.istore_n 3, 1) := by decide +kernel
theorem dX10_rules_23 : decode cX10_rules 23 = .ok (.iload_n 3, 1) := by decide +kernel
theorem dX10_rules_24 : decode cX10_rules 24 = .ok (.ifCond .eq 35, 3) := by decide +kernel
theorem dX10_rules_27 : decode cX10_rules 27 = .ok (.aload_n 0, 1) := by decide +kernel
theorem dX10_rules_28 : decode cX10_rules 28 = .ok (.iload_n 2, 1) := by decide +kernel
theorem dX10_rules_29 : decode cX10_rules 29 = .ok (.invokevirtual 176, 3) := by decide +kernel
theorem dX10_rules_32 : decode cX10_rules 32 = .ok (.iinc 2 1, 3) := by decide +kernel
theorem dX10_rules_35 : decode cX10_rules 35 = .ok (.iload_n 2, 1) := by decide +kernel
theorem dX10_rules_36 : decode cX10_rules 36 = .ok (.bipush 8, 2) := by decide +kernel
theorem dX10_rules_38 : decode cX10_rules 38 = .ok (.if_icmp .ge 16, 3) := by decide +kernel
theorem dX10_rules_41 : decode cX10_rules 41 = .ok (.aload_n 0, 1) := by decide +kernel
theorem dX10_rules_42 : decode cX10_rules 42 = .ok (.bipush 59, 2) := by decide +kernel
theorem dX10_rules_44 : decode cX10_rules 44 = .ok (.invokevirtual 162, 3) := by decide +kernel
theorem dX10_rules_47 : decode cX10_rules 47 = .ok (.ifCond .eq 7, 3) := by decide +kernel
theorem dX10_rules_50 : decode cX10_rules 50 = .ok (.iconst 1, 1) := by decide +kernel
theorem dX10_rules_51 : decode cX10_rules 51 = .ok (.goto 4, 3) := by decide +kernel
theorem dX10_rules_54 : decode cX10_rules 54 = .ok (.iconst 0, 1) := by decide +kernel
theorem dX10_rules_55 : decode cX10_rules 55 = .ok (.istore_n 3, 1) := by decide +kernel
theorem dX10_rules_56 : decode cX10_rules 56 = .ok (.goto (-33), 3) := by decide +kernel
theorem dX10_rules_59 : decode cX10_rules 59 = .ok (.aload_n 0, 1) := by decide +kernel
theorem dX10_rules_60 : decode cX10_rules 60 = .ok (.aload_n 0, 1) := by decide +kernel
theorem dX10_rules_61 : decode cX10_rules 61 = .ok (.getfield 147, 3) := by decide +kernel
theorem dX10_rules_64 : decode cX10_rules 64 = .ok (.ifCond .ne 10, 3) := by decide +kernel
theorem dX10_rules_67 : decode cX10_rules 67 = .ok (.aload_n 0, 1) := by decide +kernel
theorem dX10_rules_68 : decode cX10_rules 68 = .ok (.invokevirtual 151, 3) := by decide +kernel
theorem dX10_rules_71 : decode cX10_rules 71 = .ok (.ifCond .eq 7, 3) := by decide +kernel
theorem dX10_rules_74 : decode cX10_rules 74 = .ok (.iconst 1, 1) := by decide +kernel
theorem dX10_rules_75 : decode cX10_rules 75 = .ok (.goto 4, 3) := by decide +kernel
theorem dX10_rules_78 : decode cX10_rules 78 = .ok (.iconst 0, 1) := by decide +kernel
theorem dX10_rules_79 : decode cX10_rules 79 = .ok (.putfield 147, 3) := by decide +kernel
theorem dX10_rules_82 : decode cX10_rules 82 = .ok (.aload_n 0, 1) := by decide +kernel
theorem dX10_rules_83 : decode cX10_rules 83 = .ok (.iconst 0, 1) := by decide +kernel
theorem dX10_rules_84 : decode cX10_rules 84 = .ok (.putfield 141, 3) := by decide +kernel
theorem dX10_rules_87 : decode cX10_rules 87 = .ok (.aload_n 0, 1) := by decide +kernel
theorem dX10_rules_88 : decode cX10_rules 88 = .ok (.getfield 147, 3) := by decide +kernel
theorem dX10_rules_91 : decode cX10_rules 91 = .ok (.ifCond .eq 11, 3) := by decide +kernel
theorem dX10_rules_94 : decode cX10_rules 94 = .ok (.bipush (-20), 2) := by decide +kernel
theorem dX10_rules_96 : decode cX10_rules 96 = .ok (.aload_n 0, 1) := by decide +kernel
theorem dX10_rules_97 : decode cX10_rules 97 = .ok (.getfield 144, 3) := by decide +kernel
theorem dX10_rules_100 : decode cX10_rules 100 = .ok (.isub, 1) := by decide +kernel
theorem dX10_rules_101 : decode cX10_rules 101 = .ok (.ireturn, 1) := by decide +kernel
theorem dX10_rules_102 : decode cX10_rules 102 = .ok (.aload_n 0, 1) := by decide +kernel
theorem dX10_rules_103 : decode cX10_rules 103 = .ok (.getfield 23, 3) := by decide +kernel
theorem dX10_rules_106 : decode cX10_rules 106 = .ok (.iload_n 1, 1) := by decide +kernel
theorem dX10_rules_107 : decode cX10_rules 107 = .ok (.iload_n 2, 1) := by decide +kernel
theorem dX10_rules_108 : decode cX10_rules 108 = .ok (.iastore, 1) := by decide +kernel
theorem dX10_rules_109 : decode cX10_rules 109 = .ok (.iconst 0, 1) := by decide +kernel
theorem dX10_rules_110 : decode cX10_rules 110 = .ok (.istore 4, 2) := by decide +kernel
theorem dX10_rules_112 : decode cX10_rules 112 = .ok (.iload 4, 2) := by decide +kernel
theorem dX10_rules_114 : decode cX10_rules 114 = .ok (.iload_n 2, 1) := by decide +kernel
theorem dX10_rules_115 : decode cX10_rules 115 = .ok (.if_icmp .ge 116, 3) := by decide +kernel
theorem dX10_rules_118 : decode cX10_rules 118 = .ok (.aload_n 0, 1) := by decide +kernel
theorem dX10_rules_119 : decode cX10_rules 119 = .ok (.getfield 26, 3) := by decide +kernel
theorem dX10_rules_122 : decode cX10_rules 122 = .ok (.bipush 8, 2) := by decide +kernel
theorem dX10_rules_124 : decode cX10_rules 124 = .ok (.iload_n 1, 1) := by decide +kernel
theorem dX10_rules_125 : decode cX10_rules 125 = .ok (.imul, 1) := by decide +kernel
theorem dX10_rules_126 : decode cX10_rules 126 = .ok (.iload 4, 2) := by decide +kernel
theorem dX10_rules_128 : decode cX10_rules 128 = .ok (.iadd, 1) := by decide +kernel
theorem dX10_rules_129 : decode cX10_rules 129 = .ok (.aload_n 0, 1) := by decide +kernel
theorem dX10_rules_130 : decode cX10_rules 130 = .ok (.getfield 38, 3) := by decide +kernel
theorem dX10_rules_133 : decode cX10_rules 133 = .ok (.iload 4, 2) := by decide +kernel
theorem dX10_rules_135 : decode cX10_rules 135 = .ok (.iaload, 1) := by decide +kernel
theorem dX10_rules_136 : decode cX10_rules 136 = .ok (.iastore, 1) := by decide +kernel
theorem dX10_rules_137 : decode cX10_rules 137 = .ok (.aload_n 0, 1) := by decide +kernel
theorem dX10_rules_138 : decode cX10_rules 138 = .ok (.getfield 29, 3) := by decide +kernel
theorem dX10_rules_141 : decode cX10_rules 141 = .ok (.bipush 8, 2) := by decide +kernel
theorem dX10_rules_143 : decode cX10_rules 143 = .ok (.iload_n 1, 1) := by decide +kernel
theorem dX10_rules_144 : decode cX10_rules 144 = .ok (.imul, 1) := by decide +kernel
theorem dX10_rules_145 : decode cX10_rules 145 = .ok (.iload 4, 2) := by decide +kernel
theorem dX10_rules_147 : decode cX10_rules 147 = .ok (.iadd, 1) := by decide +kernel
theorem dX10_rules_148 : decode cX10_rules 148 = .ok (.aload_n 0, 1) := by decide +kernel
theorem dX10_rules_149 : decode cX10_rules 149 = .ok (.getfield 41, 3) := by decide +kernel
theorem dX10_rules_152 : decode cX10_rules 152 = .ok (.iload 4, 2) := by decide +kernel
theorem dX10_rules_154 : decode cX10_rules 154 = .ok (.iaload, 1) := by decide +kernel
theorem dX10_rules_155 : decode cX10_rules 155 = .ok (.iastore, 1) := by decide +kernel
theorem dX10_rules_156 : decode cX10_rules 156 = .ok (.aload_n 0, 1) := by decide +kernel
theorem dX10_rules_157 : decode cX10_rules 157 = .ok (.getfield 32, 3) := by decide +kernel
theorem dX10_rules_160 : decode cX10_rules 160 = .ok (.bipush 8, 2) := by decide +kernel
theorem dX10_rules_162 : decode cX10_rules 162 = .ok (.iload_n 1, 1) := by decide +kernel
theorem dX10_rules_163 : decode cX10_rules 163 = .ok (.imul, 1) := by decide +kernel
theorem dX10_rules_164 : decode cX10_rules 164 = .ok (.iload 4, 2) := by decide +kernel
theorem dX10_rules_166 : decode cX10_rules 166 = .ok (.iadd, 1) := by decide +kernel
theorem dX10_rules_167 : decode cX10_rules 167 = .ok (.aload_n 0, 1) := by decide +kernel
theorem dX10_rules_168 : decode cX10_rules 168 = .ok (.getfield 44, 3) := by decide +kernel
theorem dX10_rules_171 : decode cX10_rules 171 = .ok (.iload 4, 2) := by decide +kernel
theorem dX10_rules_173 : decode cX10_rules 173 = .ok (.iaload, 1) := by decide +kernel
theorem dX10_rules_174 : decode cX10_rules 174 = .ok (.iastore, 1) := by decide +kernel
theorem dX10_rules_175 : decode cX10_rules 175 = .ok (.iconst 0, 1) := by decide +kernel
theorem dX10_rules_176 : decode cX10_rules 176 = .ok (.istore 5, 2) := by decide +kernel
theorem dX10_rules_178 : decode cX10_rules 178 = .ok (.iload 5, 2) := by decide +kernel
theorem dX10_rules_180 : decode cX10_rules 180 = .ok (.sipush 128, 3) := by decide +kernel
theorem dX10_rules_183 : decode cX10_rules 183 = .ok (.if_icmp .ge 42, 3) := by decide +kernel
theorem dX10_rules_186 : decode cX10_rules 186 = .ok (.aload_n 0, 1) := by decide +kernel
theorem dX10_rules_187 : decode cX10_rules 187 = .ok (.getfield 35, 3) := by decide +kernel
theorem dX10_rules_190 : decode cX10_rules 190 = .ok (.sipush 128, 3) := by decide +kernel
theorem dX10_rules_193 : decode cX10_rules 193 = .ok (.bipush 8, 2) := by decide +kernel
theorem dX10_rules_195 : decode cX10_rules 195 = .ok (.iload_n 1, 1) := by decide +kernel
theorem dX10_rules_196 : decode cX10_rules 196 = .ok (.imul, 1) := by decide +kernel
theorem dX10_rules_197 : decode cX10_rules 197 = .ok (.iload 4, 2) := by decide +kernel
theorem dX10_rules_199 : decode cX10_rules 199 = .ok (.iadd, 1) := by decide +kernel
theorem dX10_rules_200 : decode cX10_rules 200 = .ok (.imul, 1) := by decide +kernel
theorem dX10_rules_201 : decode cX10_rules 201 = .ok (.iload 5, 2) := by decide +kernel
theorem dX10_rules_203 : decode cX10_rules 203 = .ok (.iadd, 1) := by decide +kernel
theorem dX10_rules_204 : decode cX10_rules 204 = .ok (.aload_n 0, 1) := by decide +kernel
theorem dX10_rules_205 : decode cX10_rules 205 = .ok (.getfield 47, 3) := by decide +kernel
theorem dX10_rules_208 : decode cX10_rules 208 = .ok (.sipush 128, 3) := by decide +kernel
theorem dX10_rules_211 : decode cX10_rules 211 = .ok (.iload 4, 2) := by decide +kernel
theorem dX10_rules_213 : decode cX10_rules 213 = .ok (.imul, 1) := by decide +kernel
theorem dX10_rules_214 : decode cX10_rules 214 = .ok (.iload 5, 2) := by decide +kernel
theorem dX10_rules_216 : decode cX10_rules 216 = .ok (.iadd, 1) := by decide +kernel
theorem dX10_rules_217 : decode cX10_rules 217 = .ok (.baload, 1) := by decide +kernel
theorem dX10_rules_218 : decode cX10_rules 218 = .ok (.bastore, 1) := by decide +kernel
theorem dX10_rules_219 : decode cX10_rules 219 = .ok (.iinc 5 1, 3) := by decide +kernel
theorem dX10_rules_222 : decode cX10_rules 222 = .ok (.goto (-44), 3) := by decide +kernel
theorem dX10_rules_225 : decode cX10_rules 225 = .ok (.iinc 4 1, 3) := by decide +kernel
theorem dX10_rules_228 : decode cX10_rules 228 = .ok (.goto (-116), 3) := by decide +kernel
theorem dX10_rules_231 : decode cX10_rules 231 = .ok (.iload_n 2, 1) := by decide +kernel
theorem dX10_rules_232 : decode cX10_rules 232 = .ok (.ireturn, 1) := by decide +kernel
theorem dX10_rule_0 : decode cX10_rule 0 = .ok (.iload_n 1, 1) := by decide +kernel
theorem dX10_rule_1 : decode cX10_rule 1 = .ok (.invokestatic 173, 3) := by decide +kernel
theorem dX10_rule_4 : decode cX10_rule 4 = .ok (.ifCond .eq 33, 3) := by decide +kernel
theorem dX10_rule_7 : decode cX10_rule 7 = .ok (.iload_n 2, 1) := by decide +kernel
theorem dX10_rule_8 : decode cX10_rule 8 = .ok (.i2l, 1) := by decide +kernel
theorem dX10_rule_9 : decode cX10_rule 9 = .ok (.lconst 0, 1) := by decide +kernel
theorem dX10_rule_10 : decode cX10_rule 10 = .ok (.aload_n 0, 1) := by decide +kernel
theorem dX10_rule_11 : decode cX10_rule 11 = .ok (.getfield 23, 3) := by decide +kernel
theorem dX10_rule_14 : decode cX10_rule 14 = .ok (.iload_n 1, 1) := by decide +kernel
theorem dX10_rule_15 : decode cX10_rule 15 = .ok (.iaload, 1) := by decide +kernel
theorem dX10_rule_16 : decode cX10_rule 16 = .ok (.iconst 1, 1) := by decide +kernel
theorem dX10_rule_17 : decode cX10_rule 17 = .ok (.isub, 1) := by decide +kernel
theorem dX10_rule_18 : decode cX10_rule 18 = .ok (.i2l, 1) := by decide +kernel
theorem dX10_rule_19 : decode cX10_rule 19 = .ok (.invokestatic 131, 3) := by decide +kernel
theorem dX10_rule_22 : decode cX10_rule 22 = .ok (.ifCond .eq 15, 3) := by decide +kernel
theorem dX10_rule_25 : decode cX10_rule 25 = .ok (.iload_n 3, 1) := by decide +kernel
theorem dX10_rule_26 : decode cX10_rule 26 = .ok (.i2l, 1) := by decide +kernel
theorem dX10_rule_27 : decode cX10_rule 27 = .ok (.lconst 0, 1) := by decide +kernel
theorem dX10_rule_28 : decode cX10_rule 28 = .ok (.ldc2_w 180, 3) := by decide +kernel
theorem dX10_rule_31 : decode cX10_rule 31 = .ok (.invokestatic 131, 3) := by decide +kernel
theorem dX10_rule_34 : decode cX10_rule 34 = .ok (.ifCond .ne 5, 3) := by decide +kernel
theorem dX10_rule_37 : decode cX10_rule 37 = .ok (.iconst (-1), 1) := by decide +kernel
theorem dX10_rule_38 : decode cX10_rule 38 = .ok (.ireturn, 1) := by decide +kernel
theorem dX10_rule_39 : decode cX10_rule 39 = .ok (.bipush 8, 2) := by decide +kernel
theorem dX10_rule_41 : decode cX10_rule 41 = .ok (.iload_n 1, 1) := by decide +kernel
theorem dX10_rule_42 : decode cX10_rule 42 = .ok (.imul, 1) := by decide +kernel
theorem dX10_rule_43 : decode cX10_rule 43 = .ok (.iload_n 2, 1) := by decide +kernel
theorem dX10_rule_44 : decode cX10_rule 44 = .ok (.iadd, 1) := by decide +kernel
theorem dX10_rule_45 : decode cX10_rule 45 = .ok (.istore 4, 2) := by decide +kernel
theorem dX10_rule_47 : decode cX10_rule 47 = .ok (.iload_n 3, 1) := by decide +kernel

theorem dX5_findFault_20 : decode cX5_findFault 20 = .ok (.bipush (-12), 2) := by decide +kernel
theorem dX5_findFault_22 : decode cX5_findFault 22 = .ok (.ireturn, 1) := by decide +kernel
theorem dX5_findFault_23 : decode cX5_findFault 23 = .ok (.aload_n 0, 1) := by decide +kernel
theorem dX5_findFault_24 : decode cX5_findFault 24 = .ok (.iload_n 2, 1) := by decide +kernel
theorem dX5_findFault_25 : decode cX5_findFault 25 = .ok (.iload_n 3, 1) := by decide +kernel
theorem dX5_findFault_26 : decode cX5_findFault 26 = .ok (.invokevirtual 28, 3) := by decide +kernel
theorem dX5_findFault_29 : decode cX5_findFault 29 = .ok (.ifCond .eq 8, 3) := by decide +kernel
theorem dX5_findFault_32 : decode cX5_findFault 32 = .ok (.bipush (-13), 2) := by decide +kernel
theorem dX5_findFault_34 : decode cX5_findFault 34 = .ok (.goto 4, 3) := by decide +kernel
theorem dX5_findFault_37 : decode cX5_findFault 37 = .ok (.iconst 0, 1) := by decide +kernel
theorem dX5_findFault_38 : decode cX5_findFault 38 = .ok (.ireturn, 1) := by decide +kernel
theorem dX6_init_0 : decode cX6_init 0 = .ok (.aload_n 0, 1) := by decide +kernel
theorem dX6_init_1 : decode cX6_init 1 = .ok (.invokespecial 3, 3) := by decide +kernel
theorem dX6_init_4 : decode cX6_init 4 = .ok (.aload_n 0, 1) := by decide +kernel
theorem dX6_init_5 : decode cX6_init 5 = .ok (.bipush 120, 2) := by decide +kernel
theorem dX6_init_7 : decode cX6_init 7 = .ok (.newarray .int, 2) := by decide +kernel
theorem dX6_init_9 : decode cX6_init 9 = .ok (.putfield 9, 3) := by decide +kernel
theorem dX6_init_12 : decode cX6_init 12 = .ok (.aload_n 0, 1) := by decide +kernel
theorem dX6_init_13 : decode cX6_init 13 = .ok (.iconst 0, 1) := by decide +kernel
theorem dX6_init_14 : decode cX6_init 14 = .ok (.putfield 15, 3) := by decide +kernel
theorem dX6_init_17 : decode cX6_init 17 = .ok (.return_, 1) := by decide +kernel
theorem dX6_add_0 : decode cX6_add 0 = .ok (.aload_n 0, 1) := by decide +kernel
theorem dX6_add_1 : decode cX6_add 1 = .ok (.getfield 15, 3) := by decide +kernel
theorem dX6_add_4 : decode cX6_add 4 = .ok (.bipush 120, 2) := by decide +kernel
theorem dX6_add_6 : decode cX6_add 6 = .ok (.if_icmp .ge 23, 3) := by decide +kernel
theorem dX6_add_9 : decode cX6_add 9 = .ok (.aload_n 0, 1) := by decide +kernel
theorem dX6_add_10 : decode cX6_add 10 = .ok (.getfield 9, 3) := by decide +kernel
theorem dX6_add_13 : decode cX6_add 13 = .ok (.aload_n 0, 1) := by decide +kernel
theorem dX6_add_14 : decode cX6_add 14 = .ok (.getfield 15, 3) := by decide +kernel
theorem dX6_add_17 : decode cX6_add 17 = .ok (.iload_n 1, 1) := by decide +kernel
theorem dX6_add_18 : decode cX6_add 18 = .ok (.iastore, 1) := by decide +kernel
theorem dX6_add_19 : decode cX6_add 19 = .ok (.aload_n 0, 1) := by decide +kernel
theorem dX6_add_20 : decode cX6_add 20 = .ok (.dup, 1) := by decide +kernel
theorem dX6_add_21 : decode cX6_add 21 = .ok (.getfield 15, 3) := by decide +kernel
theorem dX6_add_24 : decode cX6_add 24 = .ok (.iconst 1, 1) := by decide +kernel
theorem dX6_add_25 : decode cX6_add 25 = .ok (.iadd, 1) := by decide +kernel
theorem dX6_add_26 : decode cX6_add 26 = .ok (.putfield 15, 3) := by decide +kernel
theorem dX6_add_29 : decode cX6_add 29 = .ok (.return_, 1) := by decide +kernel
theorem dX7_init_0 : decode cX7_init 0 = .ok (.aload_n 0, 1) := by decide +kernel
theorem dX7_init_1 : decode cX7_init 1 = .ok (.invokespecial 3, 3) := by decide +kernel
theorem dX7_init_4 : decode cX7_init 4 = .ok (.aload_n 0, 1) := by decide +kernel
theorem dX7_init_5 : decode cX7_init 5 = .ok (.bipush 6, 2) := by decide +kernel
theorem dX7_init_7 : decode cX7_init 7 = .ok (.newarray .int, 2) := by decide +kernel
theorem dX7_init_9 : decode cX7_init 9 = .ok (.putfield 9, 3) := by decide +kernel
theorem dX7_init_12 : decode cX7_init 12 = .ok (.aload_n 0, 1) := by decide +kernel
theorem dX7_init_13 : decode cX7_init 13 = .ok (.bipush 6, 2) := by decide +kernel
theorem dX7_init_15 : decode cX7_init 15 = .ok (.newarray .int, 2) := by decide +kernel
theorem dX7_init_17 : decode cX7_init 17 = .ok (.putfield 15, 3) := by decide +kernel
theorem dX7_init_20 : decode cX7_init 20 = .ok (.aload_n 0, 1) := by decide +kernel
theorem dX7_init_21 : decode cX7_init 21 = .ok (.bipush 6, 2) := by decide +kernel
theorem dX7_init_23 : decode cX7_init 23 = .ok (.newarray .int, 2) := by decide +kernel
theorem dX7_init_25 : decode cX7_init 25 = .ok (.putfield 18, 3) := by decide +kernel
theorem dX7_init_28 : decode cX7_init 28 = .ok (.aload_n 0, 1) := by decide +kernel
theorem dX7_init_29 : decode cX7_init 29 = .ok (.iconst 0, 1) := by decide +kernel
theorem dX7_init_30 : decode cX7_init 30 = .ok (.putfield 21, 3) := by decide +kernel
theorem dX7_init_33 : decode cX7_init 33 = .ok (.return_, 1) := by decide +kernel
theorem dX7_has_0 : decode cX7_has 0 = .ok (.iconst 0, 1) := by decide +kernel
theorem dX7_has_1 : decode cX7_has 1 = .ok (.istore 4, 2) := by decide +kernel
theorem dX7_has_3 : decode cX7_has 3 = .ok (.iload 4, 2) := by decide +kernel
theorem dX7_has_5 : decode cX7_has 5 = .ok (.aload_n 0, 1) := by decide +kernel
theorem dX7_has_6 : decode cX7_has 6 = .ok (.getfield 21, 3) := by decide +kernel
theorem dX7_has_9 : decode cX7_has 9 = .ok (.if_icmp .ge 44, 3) := by decide +kernel
theorem dX7_has_12 : decode cX7_has 12 = .ok (.aload_n 0, 1) := by decide +kernel
theorem dX7_has_13 : decode cX7_has 13 = .ok (.getfield 9, 3) := by decide +kernel
theorem dX7_has_16 : decode cX7_has 16 = .ok (.iload 4, 2) := by decide +kernel
theorem dX7_has_18 : decode cX7_has 18 = .ok (.iaload, 1) := by decide +kernel
theorem dX7_has_19 : decode cX7_has 19 = .ok (.iload_n 1, 1) := by decide +kernel
theorem dX7_has_20 : decode cX7_has 20 = .ok (.if_icmp .ne 27, 3) := by decide +kernel
theorem dX7_has_23 : decode cX7_has 23 = .ok (.aload_n 0, 1) := by decide +kernel
theorem dX7_has_24 : decode cX7_has 24 = .ok (.getfield 15, 3) := by decide +kernel
theorem dX7_has_27 : decode cX7_has 27 = .ok (.iload 4, 2) := by decide +kernel
theorem dX7_has_29 : decode cX7_has 29 = .ok (.iaload, 1) := by decide +kernel
theorem dX7_has_30 : decode cX7_has 30 = .ok (.iload_n 2, 1) := by decide +kernel
theorem dX7_has_31 : decode cX7_has 31 = .ok (.if_icmp .ne 16, 3) := by decide +kernel
theorem dX7_has_34 : decode cX7_has 34 = .ok (.aload_n 0, 1) := by decide +kernel
theorem dX7_has_35 : decode cX7_has 35 = .ok (.getfield 18, 3) := by decide +kernel
theorem dX7_has_38 : decode cX7_has 38 = .ok (.iload 4, 2) := by decide +kernel
theorem dX7_has_40 : decode cX7_has 40 = .ok (.iaload, 1) := by decide +kernel
theorem dX7_has_41 : decode cX7_has 41 = .ok (.iload_n 3, 1) := by decide +kernel
theorem dX7_has_42 : decode cX7_has 42 = .ok (.if_icmp .ne 5, 3) := by decide +kernel
theorem dX7_has_45 : decode cX7_has 45 = .ok (.iconst 1, 1) := by decide +kernel
theorem dX7_has_46 : decode cX7_has 46 = .ok (.ireturn, 1) := by decide +kernel
theorem dX7_has_47 : decode cX7_has 47 = .ok (.iinc 4 1, 3) := by decide +kernel
theorem dX7_has_50 : decode cX7_has 50 = .ok (.goto (-47), 3) := by decide +kernel
theorem dX7_has_53 : decode cX7_has 53 = .ok (.iconst 0, 1) := by decide +kernel
theorem dX7_has_54 : decode cX7_has 54 = .ok (.ireturn, 1) := by decide +kernel
theorem dX7_add_0 : decode cX7_add 0 = .ok (.aload_n 0, 1) := by decide +kernel
theorem dX7_add_1 : decode cX7_add 1 = .ok (.getfield 21, 3) := by decide +kernel
theorem dX7_add_4 : decode cX7_add 4 = .ok (.bipush 6, 2) := by decide +kernel
theorem dX7_add_6 : decode cX7_add 6 = .ok (.if_icmp .ge 43, 3) := by decide +kernel
theorem dX7_add_9 : decode cX7_add 9 = .ok (.aload_n 0, 1) := by decide +kernel
theorem dX7_add_10 : decode cX7_add 10 = .ok (.getfield 9, 3) := by decide +kernel
theorem dX7_add_13 : decode cX7_add 13 = .ok (.aload_n 0, 1) := by decide +kernel
theorem dX7_add_14 : decode cX7_add 14 = .ok (.getfield 21, 3) := by decide +kernel
theorem dX7_add_17 : decode cX7_add 17 = .ok (.iload_n 1, 1) := by decide +kernel
theorem dX7_add_18 : decode cX7_add 18 = .ok (.iastore, 1) := by decide +kernel
theorem dX7_add_19 : decode cX7_add 19 = .ok (.aload_n 0, 1) := by decide +kernel
theorem dX7_add_20 : decode cX7_add 20 = .ok (.getfield 15, 3) := by decide +kernel
theorem dX7_add_23 : decode cX7_add 23 = .ok (.aload_n 0, 1) := by decide +kernel
theorem dX7_add_24 : decode cX7_add 24 = .ok (.getfield 21, 3) := by decide +kernel
theorem dX7_add_27 : decode cX7_add 27 = .ok (.iload_n 2, 1) := by decide +kernel
theorem dX7_add_28 : decode cX7_add 28 = .ok (.iastore, 1) := by decide +kernel
theorem dX7_add_29 : decode cX7_add 29 = .ok (.aload_n 0, 1) := by decide +kernel
theorem dX7_add_30 : decode cX7_add 30 = .ok (.getfield 18, 3) := by decide +kernel
theorem dX7_add_33 : decode cX7_add 33 = .ok (.aload_n 0, 1) := by decide +kernel
theorem dX7_add_34 : decode cX7_add 34 = .ok (.getfield 21, 3) := by decide +kernel
theorem dX7_add_37 : decode cX7_add 37 = .ok (.iload_n 3, 1) := by decide +kernel
theorem dX7_add_38 : decode cX7_add 38 = .ok (.iastore, 1) := by decide +kernel
theorem dX7_add_39 : decode cX7_add 39 = .ok (.aload_n 0, 1) := by decide +kernel
theorem dX7_add_40 : decode cX7_add 40 = .ok (.dup, 1) := by decide +kernel
theorem dX7_add_41 : decode cX7_add 41 = .ok (.getfield 21, 3) := by decide +kernel
theorem dX7_add_44 : decode cX7_add 44 = .ok (.iconst 1, 1) := by decide +kernel
theorem dX7_add_45 : decode cX7_add 45 = .ok (.iadd, 1) := by decide +kernel
theorem dX7_add_46 : decode cX7_add 46 = .ok (.putfield 21, 3) := by decide +kernel
theorem dX7_add_49 : decode cX7_add 49 = .ok (.return_, 1) := by decide +kernel
theorem dX7_allBits_0 : decode cX7_allBits 0 = .ok (.iconst 1, 1) := by decide +kernel
theorem dX7_allBits_1 : decode cX7_allBits 1 = .ok (.aload_n 0, 1) := by decide +kernel
theorem dX7_allBits_2 : decode cX7_allBits 2 = .ok (.getfield 21, 3) := by decide +kernel
theorem dX7_allBits_5 : decode cX7_allBits 5 = .ok (.ishl, 1) := by decide +kernel
theorem dX7_allBits_6 : decode cX7_allBits 6 = .ok (.iconst 1, 1) := by decide +kernel
theorem dX7_allBits_7 : decode cX7_allBits 7 = .ok (.isub, 1) := by decide +kernel
theorem dX7_allBits_8 : decode cX7_allBits 8 = .ok (.ireturn, 1) := by decide +kernel
theorem dX7_undo_0 : decode cX7_undo 0 = .ok (.sipush 255, 3) := by decide +kernel
theorem dX7_undo_3 : decode cX7_undo 3 = .ok (.istore_n 3, 1) := by decide +kernel
theorem dX7_undo_4 : decode cX7_undo 4 = .ok (.iconst 0, 1) := by decide +kernel
theorem dX7_undo_5 : decode cX7_undo 5 = .ok (.istore 4, 2) := by decide +kernel
theorem dX7_undo_7 : decode cX7_undo 7 = .ok (.iload 4, 2) := by decide +kernel
theorem dX7_undo_9 : decode cX7_undo 9 = .ok (.aload_n 0, 1) := by decide +kernel
theorem dX7_undo_10 : decode cX7_undo 10 = .ok (.getfield 21, 3) := by decide +kernel
theorem dX7_undo_13 : decode cX7_undo 13 = .ok (.if_icmp .ge 102, 3) := by decide +kernel
theorem dX7_undo_16 : decode cX7_undo 16 = .ok (.iload_n 1, 1) := by decide +kernel
theorem dX7_undo_17 : decode cX7_undo 17 = .ok (.iload 4, 2) := by decide +kernel
theorem dX7_undo_19 : decode cX7_undo 19 = .ok (.ishr, 1) := by decide +kernel
theorem dX7_undo_20 : decode cX7_undo 20 = .ok (.iconst 1, 1) := by decide +kernel
theorem dX7_undo_21 : decode cX7_undo 21 = .ok (.iand, 1) := by decide +kernel
theorem dX7_undo_22 : decode cX7_undo 22 = .ok (.ifCond .ne 6, 3) := by decide +kernel
theorem dX7_undo_25 : decode cX7_undo 25 = .ok (.goto 84, 3) := by decide +kernel
theorem dX7_undo_28 : decode cX7_undo 28 = .ok (.aload_n 0, 1) := by decide +kernel
theorem dX7_undo_29 : decode cX7_undo 29 = .ok (.getfield 9, 3) := by decide +kernel
theorem dX7_undo_32 : decode cX7_undo 32 = .ok (.iload 4, 2) := by decide +kernel
theorem dX7_undo_34 : decode cX7_undo 34 = .ok (.iaload, 1) := by decide +kernel
theorem dX7_undo_35 : decode cX7_undo 35 = .ok (.ifCond .ne 30, 3) := by decide +kernel
theorem dX7_undo_38 : decode cX7_undo 38 = .ok (.aload_n 2, 1) := by decide +kernel
theorem dX7_undo_39 : decode cX7_undo 39 = .ok (.getfield 25, 3) := by decide +kernel
theorem dX7_undo_42 : decode cX7_undo 42 = .ok (.aload_n 0, 1) := by decide +kernel
theorem dX7_undo_43 : decode cX7_undo 43 = .ok (.getfield 15, 3) := by decide +kernel
theorem dX7_undo_46 : decode cX7_undo 46 = .ok (.iload 4, 2) := by decide +kernel
theorem dX7_undo_48 : decode cX7_undo 48 = .ok (.iaload, 1) := by decide +kernel
theorem dX7_undo_49 : decode cX7_undo 49 = .ok (.dup2, 1) := by decide +kernel
theorem dX7_undo_50 : decode cX7_undo 50 = .ok (.iaload, 1) := by decide +kernel
theorem dX7_undo_51 : decode cX7_undo 51 = .ok (.iconst 1, 1) := by decide +kernel
theorem dX7_undo_52 : decode cX7_undo 52 = .ok (.aload_n 0, 1) := by decide +kernel
theorem dX7_undo_53 : decode cX7_undo 53 = .ok (.getfield 18, 3) := by decide +kernel
theorem dX7_undo_56 : decode cX7_undo 56 = .ok (.iload 4, 2) := by decide +kernel
theorem dX7_undo_58 : decode cX7_undo 58 = .ok (.iaload, 1) := by decide +kernel
theorem dX7_undo_59 : decode cX7_undo 59 = .ok (.ishl, 1) := by decide +kernel
theorem dX7_undo_60 : decode cX7_undo 60 = .ok (.ixor, 1) := by decide +kernel
theorem dX7_undo_61 : decode cX7_undo 61 = .ok (.iastore, 1) := by decide +kernel
theorem dX7_undo_62 : decode cX7_undo 62 = .ok (.goto 47, 3) := by decide +kernel
theorem dX7_undo_65 : decode cX7_undo 65 = .ok (.aload_n 0, 1) := by decide +kernel
theorem dX7_undo_66 : decode cX7_undo 66 = .ok (.getfield 9, 3) := by decide +kernel
theorem dX7_undo_69 : decode cX7_undo 69 = .ok (.iload 4, 2) := by decide +kernel
theorem dX7_undo_71 : decode cX7_undo 71 = .ok (.iaload, 1) := by decide +kernel
theorem dX7_undo_72 : decode cX7_undo 72 = .ok (.iconst 1, 1) := by decide +kernel
theorem dX7_undo_73 : decode cX7_undo 73 = .ok (.if_icmp .ne 22, 3) := by decide +kernel
theorem dX7_undo_76 : decode cX7_undo 76 = .ok (.aload_n 2, 1) := by decide +kernel
theorem dX7_undo_77 : decode cX7_undo 77 = .ok (.getfield 30, 3) := by decide +kernel
theorem dX7_undo_80 : decode cX7_undo 80 = .ok (.aload_n 0, 1) := by decide +kernel
theorem dX7_undo_81 : decode cX7_undo 81 = .ok (.getfield 15, 3) := by decide +kernel
theorem dX7_undo_84 : decode cX7_undo 84 = .ok (.iload 4, 2) := by decide +kernel
theorem dX7_undo_86 : decode cX7_undo 86 = .ok (.iaload, 1) := by decide +kernel
theorem dX7_undo_87 : decode cX7_undo 87 = .ok (.dup2, 1) := by decide +kernel
theorem dX7_undo_88 : decode cX7_undo 88 = .ok (.iaload, 1) := by decide +kernel
theorem dX7_undo_89 : decode cX7_undo 89 = .ok (.iconst 1, 1) := by decide +kernel
theorem dX7_undo_90 : decode cX7_undo 90 = .ok (.ixor, 1) := by decide +kernel
theorem dX7_undo_91 : decode cX7_undo 91 = .ok (.iastore, 1) := by decide +kernel
theorem dX7_undo_92 : decode cX7_undo 92 = .ok (.goto 17, 3) := by decide +kernel
theorem dX7_undo_95 : decode cX7_undo 95 = .ok (.iload_n 3, 1) := by decide +kernel
theorem dX7_undo_96 : decode cX7_undo 96 = .ok (.iconst 1, 1) := by decide +kernel
theorem dX7_undo_97 : decode cX7_undo 97 = .ok (.aload_n 0, 1) := by decide +kernel
theorem dX7_undo_98 : decode cX7_undo 98 = .ok (.getfield 18, 3) := by decide +kernel
theorem dX7_undo_101 : decode cX7_undo 101 = .ok (.iload 4, 2) := by decide +kernel
theorem dX7_undo_103 : decode cX7_undo 103 = .ok (.iaload, 1) := by decide +kernel
theorem dX7_undo_104 : decode cX7_undo 104 = .ok (.ishl, 1) := by decide +kernel
theorem dX7_undo_105 : decode cX7_undo 105 = .ok (.iconst (-1), 1) := by decide +kernel
theorem dX7_undo_106 : decode cX7_undo 106 = .ok (.ixor, 1) := by decide +kernel
theorem dX7_undo_107 : decode cX7_undo 107 = .ok (.iand, 1) := by decide +kernel
theorem dX7_undo_108 : decode cX7_undo 108 = .ok (.istore_n 3, 1) := by decide +kernel
theorem dX7_undo_109 : decode cX7_undo 109 = .ok (.iinc 4 1, 3) := by decide +kernel
theorem dX7_undo_112 : decode cX7_undo 112 = .ok (.goto (-105), 3) := by decide +kernel
theorem dX7_undo_115 : decode cX7_undo 115 = .ok (.iload_n 3, 1) := by decide +kernel
theorem dX7_undo_116 : decode cX7_undo 116 = .ok (.ireturn, 1) := by decide +kernel
theorem dX8_init_0 : decode cX8_init 0 = .ok (.aload_n 0, 1) := by decide +kernel
theorem dX8_init_1 : decode cX8_init 1 = .ok (.invokespecial 3, 3) := by decide +kernel
theorem dX8_init_4 : decode cX8_init 4 = .ok (.aload_n 0, 1) := by decide +kernel
theorem dX8_init_5 : decode cX8_init 5 = .ok (.iconst 3, 1) := by decide +kernel
theorem dX8_init_6 : decode cX8_init 6 = .ok (.bipush 12, 2) := by decide +kernel
theorem dX8_init_8 : decode cX8_init 8 = .ok (.multianewarray 9 2, 4) := by decide +kernel
theorem dX8_init_12 : decode cX8_init 12 = .ok (.putfield 11, 3) := by decide +kernel
theorem dX8_init_15 : decode cX8_init 15 = .ok (.aload_n 0, 1) := by decide +kernel
theorem dX8_init_16 : decode cX8_init 16 = .ok (.iconst 4, 1) := by decide +kernel
theorem dX8_init_17 : decode cX8_init 17 = .ok (.putfield 16, 3) := by decide +kernel
theorem dX8_init_20 : decode cX8_init 20 = .ok (.aload_n 0, 1) := by decide +kernel
theorem dX8_init_21 : decode cX8_init 21 = .ok (.getfield 11, 3) := by decide +kernel
theorem dX8_init_24 : decode cX8_init 24 = .ok (.iconst 2, 1) := by decide +kernel
theorem dX8_init_25 : decode cX8_init 25 = .ok (.aaload, 1) := by decide +kernel
theorem dX8_init_26 : decode cX8_init 26 = .ok (.bipush 15, 2) := by decide +kernel
theorem dX8_init_28 : decode cX8_init 28 = .ok (.invokestatic 20, 3) := by decide +kernel
theorem dX8_init_31 : decode cX8_init 31 = .ok (.return_, 1) := by decide +kernel
theorem dX8_resize_0 : decode cX8_resize 0 = .ok (.aload_n 0, 1) := by decide +kernel
theorem dX8_resize_1 : decode cX8_resize 1 = .ok (.getfield 16, 3) := by decide +kernel
theorem dX8_resize_4 : decode cX8_resize 4 = .ok (.istore_n 2, 1) := by decide +kernel
theorem dX8_resize_5 : decode cX8_resize 5 = .ok (.iload_n 2, 1) := by decide +kernel
theorem dX8_resize_6 : decode cX8_resize 6 = .ok (.iload_n 1, 1) := by decide +kernel
theorem dX8_resize_7 : decode cX8_resize 7 = .ok (.if_icmp .ge 37, 3) := by decide +kernel
theorem dX8_resize_10 : decode cX8_resize 10 = .ok (.aload_n 0, 1) := by decide +kernel
theorem dX8_resize_11 : decode cX8_resize 11 = .ok (.getfield 11, 3) := by decide +kernel
theorem dX8_resize_14 : decode cX8_resize 14 = .ok (.iconst 0, 1) := by decide +kernel
theorem dX8_resize_15 : decode cX8_resize 15 = .ok (.aaload, 1) := by decide +kernel
theorem dX8_resize_16 : decode cX8_resize 16 = .ok (.iload_n 2, 1) := by decide +kernel
theorem dX8_resize_17 : decode cX8_resize 17 = .ok (.iconst 0, 1) := by decide +kernel
theorem dX8_resize_18 : decode cX8_resize 18 = .ok (.iastore, 1) := by decide +kernel
theorem dX8_resize_19 : decode cX8_resize 19 = .ok (.aload_n 0, 1) := by decide +kernel
theorem dX8_resize_20 : decode cX8_resize 20 = .ok (.getfield 11, 3) := by decide +kernel
theorem dX8_resize_23 : decode cX8_resize 23 = .ok (.iconst 1, 1) := by decide +kernel
theorem dX8_resize_24 : decode cX8_resize 24 = .ok (.aaload, 1) := by decide +kernel
theorem dX8_resize_25 : decode cX8_resize 25 = .ok (.iload_n 2, 1) := by decide +kernel
theorem dX8_resize_26 : decode cX8_resize 26 = .ok (.iconst 0, 1) := by decide +kernel
theorem dX8_resize_27 : decode cX8_resize 27 = .ok (.iastore, 1) := by decide +kernel
theorem dX8_resize_28 : decode cX8_resize 28 = .ok (.aload_n 0, 1) := by decide +kernel
theorem dX8_resize_29 : decode cX8_resize 29 = .ok (.getfield 11, 3) := by decide +kernel
theorem dX8_resize_32 : decode cX8_resize 32 = .ok (.iconst 2, 1) := by decide +kernel
theorem dX8_resize_33 : decode cX8_resize 33 = .ok (.aaload, 1) := by decide +kernel
theorem dX8_resize_34 : decode cX8_resize 34 = .ok (.iload_n 2, 1) := by decide +kernel
theorem dX8_resize_35 : decode cX8_resize 35 = .ok (.bipush 15, 2) := by decide +kernel
theorem dX8_resize_37 : decode cX8_resize 37 = .ok (.iastore, 1) := by decide +kernel
theorem dX8_resize_38 : decode cX8_resize 38 = .ok (.iinc 2 1, 3) := by decide +kernel
theorem dX8_resize_41 : decode cX8_resize 41 = .ok (.goto (-36), 3) := by decide +kernel
theorem dX8_resize_44 : decode cX8_resize 44 = .ok (.aload_n 0, 1) := by decide +kernel
theorem dX8_resize_45 : decode cX8_resize 45 = .ok (.iload_n 1, 1) := by decide +kernel
theorem dX8_resize_46 : decode cX8_resize 46 = .ok (.putfield 16, 3) := by decide +kernel
theorem dX8_resize_49 : decode cX8_resize 49 = .ok (.return_, 1) := by decide +kernel
theorem dX9_init_0 : decode cX9_init 0 = .ok (.aload_n 0, 1) := by decide +kernel
theorem dX9_init_1 : decode cX9_init 1 = .ok (.invokespecial 1, 3) := by decide +kernel
theorem dX9_init_4 : decode cX9_init 4 = .ok (.aload_n 0, 1) := by decide +kernel
theorem dX9_init_5 : decode cX9_init 5 = .ok (.new 7, 3) := by decide +kernel
theorem dX9_init_8 : decode cX9_init 8 = .ok (.dup, 1) := by decide +kernel
theorem dX9_init_9 : decode cX9_init 9 = .ok (.invokespecial 9, 3) := by decide +kernel
theorem dX9_init_12 : decode cX9_init 12 = .ok (.putfield 10, 3) := by decide +kernel
theorem dX9_init_15 : decode cX9_init 15 = .ok (.aload_n 0, 1) := by decide +kernel
theorem dX9_init_16 : decode cX9_init 16 = .ok (.new 16, 3) := by decide +kernel
theorem dX9_init_19 : decode cX9_init 19 = .ok (.dup, 1) := by decide +kernel
theorem dX9_init_20 : decode cX9_init 20 = .ok (.aload_n 0, 1) := by decide +kernel
theorem dX9_init_21 : decode cX9_init 21 = .ok (.getfield 10, 3) := by decide +kernel
theorem dX9_init_24 : decode cX9_init 24 = .ok (.invokespecial 18, 3) := by decide +kernel
theorem dX9_init_27 : decode cX9_init 27 = .ok (.putfield 21, 3) := by decide +kernel
theorem dX9_init_30 : decode cX9_init 30 = .ok (.aload_n 0, 1) := by decide +kernel
theorem dX9_init_31 : decode cX9_init 31 = .ok (.iconst 2, 1) := by decide +kernel
theorem dX9_init_32 : decode cX9_init 32 = .ok (.anewarray 25, 3) := by decide +kernel
theorem dX9_init_35 : decode cX9_init 35 = .ok (.dup, 1) := by decide +kernel
theorem dX9_init_36 : decode cX9_init 36 = .ok (.iconst 0, 1) := by decide +kernel
theorem dX9_init_37 : decode cX9_init 37 = .ok (.new 25, 3) := by decide +kernel
theorem dX9_init_40 : decode cX9_init 40 = .ok (.dup, 1) := by decide +kernel
theorem dX9_init_41 : decode cX9_init 41 = .ok (.invokespecial 27, 3) := by decide +kernel
theorem dX9_init_44 : decode cX9_init 44 = .ok (.aastore, 1) := by decide +kernel
theorem dX9_init_45 : decode cX9_init 45 = .ok (.dup, 1) := by decide +kernel
theorem dX9_init_46 : decode cX9_init 46 = .ok (.iconst 1, 1) := by decide +kernel
theorem dX9_init_47 : decode cX9_init 47 = .ok (.new 25, 3) := by decide +kernel
theorem dX9_init_50 : decode cX9_init 50 = .ok (.dup, 1) := by decide +kernel
theorem dX9_init_51 : decode cX9_init 51 = .ok (.invokespecial 27, 3) := by decide +kernel
theorem dX9_init_54 : decode cX9_init 54 = .ok (.aastore, 1) := by decide +kernel
theorem dX9_init_55 : decode cX9_init 55 = .ok (.putfield 28, 3) := by decide +kernel
theorem dX9_init_58 : decode cX9_init 58 = .ok (.aload_n 0, 1) := by decide +kernel
theorem dX9_init_59 : decode cX9_init 59 = .ok (.new 25, 3) := by decide +kernel
theorem dX9_init_62 : decode cX9_init 62 = .ok (.dup, 1) := by decide +kernel
theorem dX9_init_63 : decode cX9_init 63 = .ok (.invokespecial 27, 3) := by decide +kernel
theorem dX9_init_66 : decode cX9_init 66 = .ok (.putfield 32, 3) := by decide +kernel
theorem dX9_init_69 : decode cX9_init 69 = .ok (.aload_n 0, 1) := by decide +kernel
theorem dX9_init_70 : decode cX9_init 70 = .ok (.new 36, 3) := by decide +kernel
theorem dX9_init_73 : decode cX9_init 73 = .ok (.dup, 1) := by decide +kernel
theorem dX9_init_74 : decode cX9_init 74 = .ok (.invokespecial 38, 3) := by decide +kernel
theorem dX9_init_77 : decode cX9_init 77 = .ok (.putfield 39, 3) := by decide +kernel
theorem dX9_init_80 : decode cX9_init 80 = .ok (.aload_n 0, 1) := by decide +kernel
theorem dX9_init_81 : decode cX9_init 81 = .ok (.new 43, 3) := by decide +kernel
theorem dX9_init_84 : decode cX9_init 84 = .ok (.dup, 1) := by decide +kernel
theorem dX9_init_85 : decode cX9_init 85 = .ok (.invokespecial 45, 3) := by decide +kernel
theorem dX9_init_88 : decode cX9_init 88 = .ok (.putfield 46, 3) := by decide +kernel
theorem dX9_init_91 : decode cX9_init 91 = .ok (.aload_n 0, 1) := by decide +kernel
theorem dX9_init_92 : decode cX9_init 92 = .ok (.new 50, 3) := by decide +kernel
theorem dX9_init_95 : decode cX9_init 95 = .ok (.dup, 1) := by decide +kernel
theorem dX9_init_96 : decode cX9_init 96 = .ok (.invokespecial 52, 3) := by decide +kernel
theorem dX9_init_99 : decode cX9_init 99 = .ok (.putfield 53, 3) := by decide +kernel
theorem dX9_init_102 : decode cX9_init 102 = .ok (.aload_n 0, 1) := by decide +kernel
theorem dX9_init_103 : decode cX9_init 103 = .ok (.iconst 3, 1) := by decide +kernel
theorem dX9_init_104 : decode cX9_init 104 = .ok (.anewarray 57, 3) := by decide +kernel
theorem dX9_init_107 : decode cX9_init 107 = .ok (.dup, 1) := by decide +kernel
theorem dX9_init_108 : decode cX9_init 108 = .ok (.iconst 0, 1) := by decide +kernel
theorem dX9_init_109 : decode cX9_init 109 = .ok (.new 57, 3) := by decide +kernel
theorem dX9_init_112 : decode cX9_init 112 = .ok (.dup, 1) := by decide +kernel
theorem dX9_init_113 : decode cX9_init 113 = .ok (.invokespecial 59, 3) := by decide +kernel
theorem dX9_init_116 : decode cX9_init 116 = .ok (.aastore, 1) := by decide +kernel
theorem dX9_init_117 : decode cX9_init 117 = .ok (.dup, 1) := by decide +kernel
theorem dX9_init_118 : decode cX9_init 118 = .ok (.iconst 1, 1) := by decide +kernel
theorem dX9_init_119 : decode cX9_init 119 = .ok (.new 57, 3) := by decide +kernel
theorem dX9_init_122 : decode cX9_init 122 = .ok (.dup, 1) := by decide +kernel
theorem dX9_init_123 : decode cX9_init 123 = .ok (.invokespecial 59, 3) := by decide +kernel
theorem dX9_init_126 : decode cX9_init 126 = .ok (.aastore, 1) := by decide +kernel
theorem dX9_init_127 : decode cX9_init 127 = .ok (.dup, 1) := by decide +kernel
theorem dX9_init_128 : decode cX9_init 128 = .ok (.iconst 2, 1) := by decide +kernel
theorem dX9_init_129 : decode cX9_init 129 = .ok (.new 57, 3) := by decide +kernel
theorem dX9_init_132 : decode cX9_init 132 = .ok (.dup, 1) := by decide +kernel
theorem dX9_init_133 : decode cX9_init 133 = .ok (.invokespecial 59, 3) := by decide +kernel
theorem dX9_init_136 : decode cX9_init 136 = .ok (.aastore, 1) := by decide +kernel
theorem dX9_init_137 : decode cX9_init 137 = .ok (.putfield 60, 3) := by decide +kernel
theorem dX9_init_140 : decode cX9_init 140 = .ok (.aload_n 0, 1) := by decide +kernel
theorem dX9_init_141 : decode cX9_init 141 = .ok (.new 64, 3) := by decide +kernel
theorem dX9_init_144 : decode cX9_init 144 = .ok (.dup, 1) := by decide +kernel
theorem dX9_init_145 : decode cX9_init 145 = .ok (.invokespecial 66, 3) := by decide +kernel
theorem dX9_init_148 : decode cX9_init 148 = .ok (.putfield 67, 3) := by decide +kernel
theorem dX9_init_151 : decode cX9_init 151 = .ok (.aload_n 0, 1) := by decide +kernel
theorem dX9_init_152 : decode cX9_init 152 = .ok (.bipush 64, 2) := by decide +kernel
theorem dX9_init_154 : decode cX9_init 154 = .ok (.newarray .boolean, 2) := by decide +kernel
theorem dX9_init_156 : decode cX9_init 156 = .ok (.putfield 71, 3) := by decide +kernel
theorem dX9_init_159 : decode cX9_init 159 = .ok (.aload_n 0, 1) := by decide +kernel
theorem dX9_init_160 : decode cX9_init 160 = .ok (.sipush 128, 3) := by decide +kernel
theorem dX9_init_163 : decode cX9_init 163 = .ok (.newarray .int, 2) := by decide +kernel
theorem dX9_init_165 : decode cX9_init 165 = .ok (.putfield 75, 3) := by decide +kernel
theorem dX9_init_168 : decode cX9_init 168 = .ok (.aload_n 0, 1) := by decide +kernel
theorem dX9_init_169 : decode cX9_init 169 = .ok (.bipush 16, 2) := by decide +kernel
theorem dX9_init_171 : decode cX9_init 171 = .ok (.newarray .int, 2) := by decide +kernel
theorem dX9_init_173 : decode cX9_init 173 = .ok (.putfield 79, 3) := by decide +kernel
theorem dX9_init_176 : decode cX9_init 176 = .ok (.aload_n 0, 1) := by decide +kernel
theorem dX9_init_177 : decode cX9_init 177 = .ok (.iconst 4, 1) := by decide +kernel
theorem dX9_init_178 : decode cX9_init 178 = .ok (.anewarray 82, 3) := by decide +kernel
theorem dX9_init_181 : decode cX9_init 181 = .ok (.dup, 1) := by decide +kernel
theorem dX9_init_182 : decode cX9_init 182 = .ok (.iconst 0, 1) := by decide +kernel
theorem dX9_init_183 : decode cX9_init 183 = .ok (.new 82, 3) := by decide +kernel
theorem dX9_init_186 : decode cX9_init 186 = .ok (.dup, 1) := by decide +kernel
theorem dX9_init_187 : decode cX9_init 187 = .ok (.invokespecial 84, 3) := by decide +kernel
theorem dX9_init_190 : decode cX9_init 190 = .ok (.aastore, 1) := by decide +kernel
theorem dX9_init_191 : decode cX9_init 191 = .ok (.dup, 1) := by decide +kernel
theorem dX9_init_192 : decode cX9_init 192 = .ok (.iconst 1, 1) := by decide +kernel
theorem dX9_init_193 : decode cX9_init 193 = .ok (.new 82, 3) := by decide +kernel
theorem dX9_init_196 : decode cX9_init 196 = .ok (.dup, 1) := by decide +kernel
theorem dX9_init_197 : decode cX9_init 197 = .ok (.invokespecial 84, 3) := by decide +kernel
theorem dX9_init_200 : decode cX9_init 200 = .ok (.aastore, 1) := by decide +kernel
theorem dX9_init_201 : decode cX9_init 201 = .ok (.dup, 1) := by decide +kernel
theorem dX9_init_202 : decode cX9_init 202 = .ok (.iconst 2, 1) := by decide +kernel
theorem dX9_init_203 : decode cX9_init 203 = .ok (.new 82, 3) := by decide +kernel
theorem dX9_init_206 : decode cX9_init 206 = .ok (.dup, 1) := by decide +kernel
theorem dX9_init_207 : decode cX9_init 207 = .ok (.invokespecial 84, 3) := by decide +kernel
theorem dX9_init_210 : decode cX9_init 210 = .ok (.aastore, 1) := by decide +kernel
theorem dX9_init_211 : decode cX9_init 211 = .ok (.dup, 1) := by decide +kernel
theorem dX9_init_212 : decode cX9_init 212 = .ok (.iconst 3, 1) := by decide +kernel
theorem dX9_init_213 : decode cX9_init 213 = .ok (.new 82, 3) := by decide +kernel
theorem dX9_init_216 : decode cX9_init 216 = .ok (.dup, 1) := by decide +kernel
theorem dX9_init_217 : decode cX9_init 217 = .ok (.invokespecial 84, 3) := by decide +kernel
theorem dX9_init_220 : decode cX9_init 220 = .ok (.aastore, 1) := by decide +kernel
theorem dX9_init_221 : decode cX9_init 221 = .ok (.putfield 85, 3) := by decide +kernel
theorem dX9_init_224 : decode cX9_init 224 = .ok (.aload_n 0, 1) := by decide +kernel
theorem dX9_init_225 : decode cX9_init 225 = .ok (.iconst 0, 1) := by decide +kernel
theorem dX9_init_226 : decode cX9_init 226 = .ok (.putfield 89, 3) := by decide +kernel
theorem dX9_init_229 : decode cX9_init 229 = .ok (.aload_n 0, 1) := by decide +kernel
theorem dX9_init_230 : decode cX9_init 230 = .ok (.bipush (-4), 2) := by decide +kernel
theorem dX9_init_232 : decode cX9_init 232 = .ok (.putfield 93, 3) := by decide +kernel
theorem dX9_init_235 : decode cX9_init 235 = .ok (.aload_n 0, 1) := by decide +kernel
theorem dX9_init_236 : decode cX9_init 236 = .ok (.iconst 0, 1) := by decide +kernel
theorem dX9_init_237 : decode cX9_init 237 = .ok (.putfield 97, 3) := by decide +kernel
theorem dX9_init_240 : decode cX9_init 240 = .ok (.return_, 1) := by decide +kernel
theorem dX9_type_0 : decode cX9_type 0 = .ok (.iload_n 3, 1) := by decide +kernel
theorem dX9_type_1 : decode cX9_type 1 = .ok (.iconst 1, 1) := by decide +kernel
theorem dX9_type_2 : decode cX9_type 2 = .ok (.if_icmp .lt 9, 3) := by decide +kernel
theorem dX9_type_5 : decode cX9_type 5 = .ok (.iload_n 3, 1) := by decide +kernel
theorem dX9_type_6 : decode cX9_type 6 = .ok (.bipush 8, 2) := by decide +kernel
theorem dX9_type_8 : decode cX9_type 8 = .ok (.if_icmp .le 5, 3) := by decide +kernel
theorem dX9_type_11 : decode cX9_type 11 = .ok (.iconst (-1), 1) := by decide +kernel
theorem dX9_type_12 : decode cX9_type 12 = .ok (.ireturn, 1) := by decide +kernel
theorem dX9_type_13 : decode cX9_type 13 = .ok (.iconst 0, 1) := by decide +kernel
theorem dX9_type_14 : decode cX9_type 14 = .ok (.istore 4, 2) := by decide +kernel
theorem dX9_type_16 : decode cX9_type 16 = .ok (.iload 4, 2) := by decide +kernel
theorem dX9_type_18 : decode cX9_type 18 = .ok (.iload_n 3, 1) := by decide +kernel
theorem dX9_type_19 : decode cX9_type 19 = .ok (.if_icmp .ge 33, 3) := by decide +kernel
theorem dX9_type_22 : decode cX9_type 22 = .ok (.lload_n 1, 1) := by decide +kernel
theorem dX9_type_23 : decode cX9_type 23 = .ok (.iload 4, 2) := by decide +kernel
theorem dX9_type_25 : decode cX9_type 25 = .ok (.invokestatic 100, 3) := by decide +kernel
theorem dX9_type_28 : decode cX9_type 28 = .ok (.istore 5, 2) := by decide +kernel
theorem dX9_type_30 : decode cX9_type 30 = .ok (.iload 5, 2) := by decide +kernel
theorem dX9_type_32 : decode cX9_type 32 = .ok (.bipush 32, 2) := by decide +kernel
theorem dX9_type_34 : decode cX9_type 34 = .ok (.if_icmp .lt 10, 3) := by decide +kernel
theorem dX9_type_37 : decode cX9_type 37 = .ok (.iload 5, 2) := by decide +kernel
theorem dX9_type_39 : decode cX9_type 39 = .ok (.bipush 126, 2) := by decide +kernel
theorem dX9_type_41 : decode cX9_type 41 = .ok (.if_icmp .le 5, 3) := by decide +kernel
theorem dX9_type_44 : decode cX9_type 44 = .ok (.iconst (-1), 1) := by decide +kernel
theorem dX9_type_45 : decode cX9_type 45 = .ok (.ireturn, 1) := by decide +kernel
theorem dX9_type_46 : decode cX9_type 46 = .ok (.iinc 4 1, 3) := by decide +kernel
theorem dX9_type_49 : decode cX9_type 49 = .ok (.goto (-33), 3) := by decide +kernel
theorem dX9_type_52 : decode cX9_type 52 = .ok (.aload_n 0, 1) := by decide +kernel
theorem dX9_type_53 : decode cX9_type 53 = .ok (.getfield 10, 3) := by decide +kernel
theorem dX9_type_56 : decode cX9_type 56 = .ok (.getfield 104, 3) := by decide +kernel
theorem dX9_type_59 : decode cX9_type 59 = .ok (.iload_n 3, 1) := by decide +kernel
theorem dX9_type_60 : decode cX9_type 60 = .ok (.iadd, 1) := by decide +kernel
theorem dX9_type_61 : decode cX9_type 61 = .ok (.bipush 120, 2) := by decide +kernel
theorem dX9_type_63 : decode cX9_type 63 = .ok (.if_icmp .le 6, 3) := by decide +kernel
theorem dX9_type_66 : decode cX9_type 66 = .ok (.bipush (-3), 2) := by decide +kernel
theorem dX9_type_68 : decode cX9_type 68 = .ok (.ireturn, 1) := by decide +kernel
theorem dX9_type_69 : decode cX9_type 69 = .ok (.iload_n 3, 1) := by decide +kernel
theorem dX9_type_70 : decode cX9_type 70 = .ok (.iconst 1, 1) := by decide +kernel
theorem dX9_type_71 : decode cX9_type 71 = .ok (.isub, 1) := by decide +kernel
theorem dX9_type_72 : decode cX9_type 72 = .ok (.istore 4, 2) := by decide +kernel
theorem dX9_type_74 : decode cX9_type 74 = .ok (.iload 4, 2) := by decide +kernel
theorem dX9_type_76 : decode cX9_type 76 = .ok (.ifCond .lt 22, 3) := by decide +kernel
theorem dX9_type_79 : decode cX9_type 79 = .ok (.aload_n 0, 1) := by decide +kernel
theorem dX9_type_80 : decode cX9_type 80 = .ok (.getfield 10, 3) := by decide +kernel
theorem dX9_type_83 : decode cX9_type 83 = .ok (.lload_n 1, 1) := by decide +kernel
theorem dX9_type_84 : decode cX9_type 84 = .ok (.iload 4, 2) := by decide +kernel
theorem dX9_type_86 : decode cX9_type 86 = .ok (.invokestatic 100, 3) := by decide +kernel
theorem dX9_type_89 : decode cX9_type 89 = .ok (.invokevirtual 107, 3) := by decide +kernel
theorem dX9_type_92 : decode cX9_type 92 = .ok (.iinc 4 (-1), 3) := by decide +kernel
theorem dX9_type_95 : decode cX9_type 95 = .ok (.goto (-21), 3) := by decide +kernel
theorem dX9_type_98 : decode cX9_type 98 = .ok (.aload_n 0, 1) := by decide +kernel
theorem dX9_type_99 : decode cX9_type 99 = .ok (.getfield 10, 3) := by decide +kernel
theorem dX9_type_102 : decode cX9_type 102 = .ok (.getfield 104, 3) := by decide +kernel
theorem dX9_type_105 : decode cX9_type 105 = .ok (.ireturn, 1) := by decide +kernel
theorem dX9_rules_0 : decode cX9_rules 0 = .ok (.aload_n 0, 1) := by decide +kernel
theorem dX9_rules_1 : decode cX9_rules 1 = .ok (.iload_n 1, 1) := by decide +kernel
theorem dX9_rules_2 : decode cX9_rules 2 = .ok (.invokevirtual 111, 3) := by decide +kernel
theorem dX9_rules_5 : decode cX9_rules 5 = .ok (.ifCond .eq 5, 3) := by decide +kernel
theorem dX9_rules_8 : decode cX9_rules 8 = .ok (.iconst (-1), 1) := by decide +kernel
theorem dX9_rules_9 : decode cX9_rules 9 = .ok (.ireturn, 1) := by decide +kernel
theorem dX9_rules_10 : decode cX9_rules 10 = .ok (.aload_n 0, 1) := by decide +kernel
theorem dX9_rules_11 : decode cX9_rules 11 = .ok (.getfield 21, 3) := by decide +kernel
theorem dX9_rules_14 : decode cX9_rules 14 = .ok (.aload_n 0, 1) := by decide +kernel
theorem dX9_rules_15 : decode cX9_rules 15 = .ok (.getfield 32, 3) := by decide +kernel
theorem dX9_rules_18 : decode cX9_rules 18 = .ok (.invokevirtual 115, 3) := by decide +kernel
theorem dX9_rules_21 : decode cX9_rules 21 = .ok (.istore_n 2, 1) := by decide +kernel
theorem dX9_rules_22 : decode cX9_rules 22 = .ok (.aload_n 0, 1) := by decide +kernel
theorem dX9_rules_23 : decode cX9_rules 23 = .ok (.getfield 10, 3) := by decide +kernel
theorem dX9_rules_26 : decode cX9_rules 26 = .ok (.iconst 0, 1) := by decide +kernel
theorem dX9_rules_27 : decode cX9_rules 27 = .ok (.putfield 104, 3) := by decide +kernel
theorem dX9_rules_30 : decode cX9_rules 30 = .ok (.iload_n 2, 1) := by decide +kernel
theorem dX9_rules_31 : decode cX9_rules 31 = .ok (.ifCond .ge 5, 3) := by decide +kernel
theorem dX9_rules_34 : decode cX9_rules 34 = .ok (.iload_n 2, 1) := by decide +kernel
theorem dX9_rules_35 : decode cX9_rules 35 = .ok (.ireturn, 1) := by decide +kernel
theorem dX9_rules_36 : decode cX9_rules 36 = .ok (.aload_n 0, 1) := by decide +kernel
theorem dX9_rules_37 : decode cX9_rules 37 = .ok (.getfield 28, 3) := by decide +kernel
theorem dX9_rules_40 : decode cX9_rules 40 = .ok (.iload_n 1, 1) := by decide +kernel
theorem dX9_rules_41 : decode cX9_rules 41 = .ok (.aaload, 1) := by decide +kernel
theorem dX9_rules_42 : decode cX9_rules 42 = .ok (.astore_n 3, 1) := by decide +kernel
theorem dX9_rules_43 : decode cX9_rules 43 = .ok (.aload_n 0, 1) := by decide +kernel
theorem dX9_rules_44 : decode cX9_rules 44 = .ok (.getfield 28, 3) := by decide +kernel
theorem dX9_rules_47 : decode cX9_rules 47 = .ok (.iload_n 1, 1) := by decide +kernel
theorem dX9_rules_48 : decode cX9_rules 48 = .ok (.aload_n 0, 1) := by decide +kernel
theorem dX9_rules_49 : decode cX9_rules 49 = .ok (.getfield 32, 3) := by decide +kernel
theorem dX9_rules_52 : decode cX9_rules 52 = .ok (.aastore, 1) := by decide +kernel
theorem dX9_rules_53 : decode cX9_rules 53 = .ok (.aload_n 0, 1) := by decide +kernel
theorem dX9_rules_54 : decode cX9_rules 54 = .ok (.aload_n 3, 1) := by decide +kernel
theorem dX9_rules_55 : decode cX9_rules 55 = .ok (.putfield 32, 3) := by decide +kernel
theorem dX9_rules_58 : decode cX9_rules 58 = .ok (.iload_n 2, 1) := by decide +kernel
theorem dX9_rules_59 : decode cX9_rules 59 = .ok (.ireturn, 1) := by decide +kernel
theorem dX9_rule_0 : decode cX9_rule 0 = .ok (.aload_n 0, 1) := by decide +kernel
theorem dX9_rule_1 : decode cX9_rule 1 = .ok (.iload_n 1, 1) := by decide +kernel
theorem dX9_rule_2 : decode cX9_rule 2 = .ok (.invokevirtual 111, 3) := by decide +kernel
theorem dX9_rule_5 : decode cX9_rule 5 = .ok (.ifCond .ne 29, 3) := by decide +kernel
theorem dX9_rule_8 : decode cX9_rule 8 = .ok (.iload_n 2, 1) := by decide +kernel
theorem dX9_rule_9 : decode cX9_rule 9 = .ok (.aload_n 0, 1) := by decide +kernel
theorem dX9_rule_10 : decode cX9_rule 10 = .ok (.getfield 28, 3) := by decide +kernel
theorem dX9_rule_13 : decode cX9_rule 13 = .ok (.iload_n 1, 1) := by decide +kernel
theorem dX9_rule_14 : decode cX9_rule 14 = .ok (.aaload, 1) := by decide +kernel
theorem dX9_rule_15 : decode cX9_rule 15 = .ok (.getfield 119, 3) := by decide +kernel
theorem dX9_rule_18 : decode cX9_rule 18 = .ok (.iconst 1, 1) := by decide +kernel
theorem dX9_rule_19 : decode cX9_rule 19 = .ok (.isub, 1) := by decide +kernel
theorem dX9_rule_20 : decode cX9_rule 20 = .ok (.invokestatic 120, 3) := by decide +kernel
theorem dX9_rule_23 : decode cX9_rule 23 = .ok (.ifCond .ne 11, 3) := by decide +kernel
theorem dX9_rule_26 : decode cX9_rule 26 = .ok (.iload_n 3, 1) := by decide +kernel
theorem dX9_rule_27 : decode cX9_rule 27 = .ok (.iconst 2, 1) := by decide +kernel
theorem dX9_rule_28 : decode cX9_rule 28 = .ok (.invokestatic 120, 3) := by decide +kernel
theorem dX9_rule_31 : decode cX9_rule 31 = .ok (.ifCond .eq 5, 3) := by decide +kernel
theorem dX9_rule_34 : decode cX9_rule 34 = .ok (.iconst (-1), 1) := by decide +kernel
theorem dX9_rule_35 : decode cX9_rule 35 = .ok (.ireturn, 1) := by decide +kernel
theorem dX9_rule_36 : decode cX9_rule 36 = .ok (.aload_n 0, 1) := by decide +kernel
theorem dX9_rule_37 : decode cX9_rule 37 = .ok (.getfield 28, 3) := by decide +kernel
theorem dX9_rule_40 : decode cX9_rule 40 = .ok (.iload_n 1, 1) := by decide +kernel
theorem dX9_rule_41 : decode cX9_rule 41 = .ok (.aaload, 1) := by decide +kernel
theorem dX9_rule_42 : decode cX9_rule 42 = .ok (.astore 4, 2) := by decide +kernel
theorem dX9_rule_44 : decode cX9_rule 44 = .ok (.iload_n 3, 1) := by decide +kernel
theorem dX9_rule_45 : decode cX9_rule 45 = .ok (.ifCond .ne 13, 3) := by decide +kernel
theorem dX9_rule_48 : decode cX9_rule 48 = .ok (.aload 4, 2) := by decide +kernel
theorem dX9_rule_50 : decode cX9_rule 50 = .ok (.getfield 124, 3) := by decide +kernel
theorem dX9_rule_53 : decode cX9_rule 53 = .ok (.iload_n 2, 1) := by decide +kernel
theorem dX9_rule_54 : decode cX9_rule 54 = .ok (.iaload, 1) := by decide +kernel
theorem dX9_rule_55 : decode cX9_rule 55 = .ok (.goto 25, 3) := by decide +kernel
theorem dX9_rule_58 : decode cX9_rule 58 = .ok (.iload_n 3, 1) := by decide +kernel
theorem dX9_rule_59 : decode cX9_rule 59 = .ok (.iconst 1, 1) := by decide +kernel
theorem dX9_rule_60 : decode cX9_rule 60 = .ok (.if_icmp .ne 13, 3) := by decide +kernel
theorem dX9_rule_63 : decode cX9_rule 63 = .ok (.aload 4, 2) := by decide +kernel
theorem dX9_rule_65 : decode cX9_rule 65 = .ok (.getfield 127, 3) := by decide +kernel
theorem dX9_rule_68 : decode cX9_rule 68 = .ok (.iload_n 2, 1) := by decide +kernel
theorem dX9_rule_69 : decode cX9_rule 69 = .ok (.iaload, 1) := by decide +kernel
theorem dX9_rule_70 : decode cX9_rule 70 = .ok (.goto 10, 3) := by decide +kernel
theorem dX9_rule_73 : decode cX9_rule 73 = .ok (.aload 4, 2) := by decide +kernel
theorem dX9_rule_75 : decode cX9_rule 75 = .ok (.getfield 130, 3) := by decide +kernel
theorem dX9_rule_78 : decode cX9_rule 78 = .ok (.iload_n 2, 1) := by decide +kernel
theorem dX9_rule_79 : decode cX9_rule 79 = .ok (.iaload, 1) := by decide +kernel
theorem dX9_rule_80 : decode cX9_rule 80 = .ok (.ireturn, 1) := by decide +kernel
theorem dX9_ticks_0 : decode cX9_ticks 0 = .ok (.iload_n 1, 1) := by decide +kernel
theorem dX9_ticks_1 : decode cX9_ticks 1 = .ok (.iconst 1, 1) := by decide +kernel
theorem dX9_ticks_2 : decode cX9_ticks 2 = .ok (.if_icmp .lt 9, 3) := by decide +kernel
theorem dX9_ticks_5 : decode cX9_ticks 5 = .ok (.iload_n 1, 1) := by decide +kernel
theorem dX9_ticks_6 : decode cX9_ticks 6 = .ok (.bipush 12, 2) := by decide +kernel
theorem dX9_ticks_8 : decode cX9_ticks 8 = .ok (.if_icmp .le 5, 3) := by decide +kernel
theorem dX9_ticks_11 : decode cX9_ticks 11 = .ok (.iconst (-1), 1) := by decide +kernel
theorem dX9_ticks_12 : decode cX9_ticks 12 = .ok (.ireturn, 1) := by decide +kernel
theorem dX9_ticks_13 : decode cX9_ticks 13 = .ok (.aload_n 0, 1) := by decide +kernel
theorem dX9_ticks_14 : decode cX9_ticks 14 = .ok (.getfield 39, 3) := by decide +kernel
theorem dX9_ticks_17 : decode cX9_ticks 17 = .ok (.getfield 133, 3) := by decide +kernel
theorem dX9_ticks_20 : decode cX9_ticks 20 = .ok (.istore_n 2, 1) := by decide +kernel
theorem dX9_ticks_21 : decode cX9_ticks 21 = .ok (.aload_n 0, 1) := by decide +kernel
theorem dX9_ticks_22 : decode cX9_ticks 22 = .ok (.getfield 39, 3) := by decide +kernel
theorem dX9_ticks_25 : decode cX9_ticks 25 = .ok (.iload_n 1, 1) := by decide +kernel
theorem dX9_ticks_26 : decode cX9_ticks 26 = .ok (.invokevirtual 134, 3) := by decide +kernel
theorem dX9_ticks_29 : decode cX9_ticks 29 = .ok (.iload_n 2, 1) := by decide +kernel
theorem dX9_ticks_30 : decode cX9_ticks 30 = .ok (.ireturn, 1) := by decide +kernel
theorem dX9_world_0 : decode cX9_world 0 = .ok (.aload_n 0, 1) := by decide +kernel
theorem dX9_world_1 : decode cX9_world 1 = .ok (.iload_n 1, 1) := by decide +kernel
theorem dX9_world_2 : decode cX9_world 2 = .ok (.invokevirtual 137, 3) := by decide +kernel
theorem dX9_world_5 : decode cX9_world 5 = .ok (.ifCond .ne 29, 3) := by decide +kernel
theorem dX9_world_8 : decode cX9_world 8 = .ok (.iload_n 2, 1) := by decide +kernel
theorem dX9_world_9 : decode cX9_world 9 = .ok (.iconst 2, 1) := by decide +kernel
theorem dX9_world_10 : decode cX9_world 10 = .ok (.invokestatic 120, 3) := by decide +kernel
theorem dX9_world_13 : decode cX9_world 13 = .ok (.ifCond .ne 21, 3) := by decide +kernel
theorem dX9_world_16 : decode cX9_world 16 = .ok (.iload_n 3, 1) := by decide +kernel
theorem dX9_world_17 : decode cX9_world 17 = .ok (.iload_n 2, 1) := by decide +kernel
theorem dX9_world_18 : decode cX9_world 18 = .ok (.iconst 1, 1) := by decide +kernel
theorem dX9_world_19 : decode cX9_world 19 = .ok (.if_icmp .ne 7, 3) := by decide +kernel
theorem dX9_world_22 : decode cX9_world 22 = .ok (.iconst 1, 1) := by decide +kernel
theorem dX9_world_23 : decode cX9_world 23 = .ok (.goto 5, 3) := by decide +kernel
theorem dX9_world_26 : decode cX9_world 26 = .ok (.bipush 15, 2) := by decide +kernel
theorem dX9_world_28 : decode cX9_world 28 = .ok (.invokestatic 120, 3) := by decide +kernel
theorem dX9_world_31 : decode cX9_world 31 = .ok (.ifCond .eq 5, 3) := by decide +kernel
theorem dX9_world_34 : decode cX9_world 34 = .ok (.iconst (-1), 1) := by decide +kernel
theorem dX9_world_35 : decode cX9_world 35 = .ok (.ireturn, 1) := by decide +kernel
theorem dX9_world_36 : decode cX9_world 36 = .ok (.aload_n 0, 1) := by decide +kernel
theorem dX9_world_37 : decode cX9_world 37 = .ok (.getfield 39, 3) := by decide +kernel
theorem dX9_world_40 : decode cX9_world 40 = .ok (.getfield 140, 3) := by decide +kernel
theorem dX9_world_43 : decode cX9_world 43 = .ok (.iload_n 2, 1) := by decide +kernel
theorem dX9_world_44 : decode cX9_world 44 = .ok (.aaload, 1) := by decide +kernel
theorem dX9_world_45 : decode cX9_world 45 = .ok (.iload_n 1, 1) := by decide +kernel
theorem dX9_world_46 : decode cX9_world 46 = .ok (.iaload, 1) := by decide +kernel
theorem dX9_world_47 : decode cX9_world 47 = .ok (.istore 4, 2) := by decide +kernel
theorem dX9_world_49 : decode cX9_world 49 = .ok (.aload_n 0, 1) := by decide +kernel
theorem dX9_world_50 : decode cX9_world 50 = .ok (.getfield 39, 3) := by decide +kernel
theorem dX9_world_53 : decode cX9_world 53 = .ok (.getfield 140, 3) := by decide +kernel
theorem dX9_world_56 : decode cX9_world 56 = .ok (.iload_n 2, 1) := by decide +kernel
theorem dX9_world_57 : decode cX9_world 57 = .ok (.aaload, 1) := by decide +kernel
theorem dX9_world_58 : decode cX9_world 58 = .ok (.iload_n 1, 1) := by decide +kernel
theorem dX9_world_59 : decode cX9_world 59 = .ok (.iload_n 3, 1) := by decide +kernel
theorem dX9_world_60 : decode cX9_world 60 = .ok (.iastore, 1) := by decide +kernel
theorem dX9_world_61 : decode cX9_world 61 = .ok (.iload 4, 2) := by decide +kernel
theorem dX9_world_63 : decode cX9_world 63 = .ok (.ireturn, 1) := by decide +kernel
theorem dX9_sights_0 : decode cX9_sights 0 = .ok (.aload_n 0, 1) := by decide +kernel
theorem dX9_sights_1 : decode cX9_sights 1 = .ok (.iload_n 1, 1) := by decide +kernel
theorem dX9_sights_2 : decode cX9_sights 2 = .ok (.invokevirtual 144, 3) := by decide +kernel
theorem dX9_sights_5 : decode cX9_sights 5 = .ok (.ifCond .ne 13, 3) := by decide +kernel
theorem dX9_sights_8 : decode cX9_sights 8 = .ok (.iload_n 2, 1) := by decide +kernel
theorem dX9_sights_9 : decode cX9_sights 9 = .ok (.iconst 1, 1) := by decide +kernel
theorem dX9_sights_10 : decode cX9_sights 10 = .ok (.if_icmp .lt 8, 3) := by decide +kernel
theorem dX9_sights_13 : decode cX9_sights 13 = .ok (.iload_n 2, 1) := by decide +kernel
theorem dX9_sights_14 : decode cX9_sights 14 = .ok (.iconst 2, 1) := by decide +kernel
theorem dX9_sights_15 : decode cX9_sights 15 = .ok (.if_icmp .le 5, 3) := by decide +kernel
theorem dX9_sights_18 : decode cX9_sights 18 = .ok (.iconst (-1), 1) := by decide +kernel
theorem dX9_sights_19 : decode cX9_sights 19 = .ok (.ireturn, 1) := by decide +kernel
theorem dX9_sights_20 : decode cX9_sights 20 = .ok (.aload_n 0, 1) := by decide +kernel
theorem dX9_sights_21 : decode cX9_sights 21 = .ok (.getfield 85, 3) := by decide +kernel
theorem dX9_sights_24 : decode cX9_sights 24 = .ok (.iload_n 1, 1) := by decide +kernel
theorem dX9_sights_25 : decode cX9_sights 25 = .ok (.aaload, 1) := by decide +kernel
theorem dX9_sights_26 : decode cX9_sights 26 = .ok (.astore 4, 2) := by decide +kernel
theorem dX9_sights_28 : decode cX9_sights 28 = .ok (.aload 4, 2) := by decide +kernel
theorem dX9_sights_30 : decode cX9_sights 30 = .ok (.iload_n 2, 1) := by decide +kernel
theorem dX9_sights_31 : decode cX9_sights 31 = .ok (.iload_n 3, 1) := by decide +kernel
theorem dX9_sights_32 : decode cX9_sights 32 = .ok (.aload_n 0, 1) := by decide +kernel
theorem dX9_sights_33 : decode cX9_sights 33 = .ok (.getfield 39, 3) := by decide +kernel
theorem dX9_sights_36 : decode cX9_sights 36 = .ok (.getfield 133, 3) := by decide +kernel
theorem dX9_sights_39 : decode cX9_sights 39 = .ok (.invokevirtual 147, 3) := by decide +kernel
theorem dX9_sights_42 : decode cX9_sights 42 = .ok (.istore 5, 2) := by decide +kernel
theorem dX9_sights_44 : decode cX9_sights 44 = .ok (.iload 5, 2) := by decide +kernel
theorem dX9_sights_46 : decode cX9_sights 46 = .ok (.ifCond .ge 6, 3) := by decide +kernel
theorem dX9_sights_49 : decode cX9_sights 49 = .ok (.iload 5, 2) := by decide +kernel
theorem dX9_sights_51 : decode cX9_sights 51 = .ok (.ireturn, 1) := by decide +kernel
theorem dX9_sights_52 : decode cX9_sights 52 = .ok (.iconst 0, 1) := by decide +kernel
theorem dX9_sights_53 : decode cX9_sights 53 = .ok (.istore 6, 2) := by decide +kernel
theorem dX9_sights_55 : decode cX9_sights 55 = .ok (.iload 6, 2) := by decide +kernel
theorem dX9_sights_57 : decode cX9_sights 57 = .ok (.aload_n 0, 1) := by decide +kernel
theorem dX9_sights_58 : decode cX9_sights 58 = .ok (.getfield 39, 3) := by decide +kernel
theorem dX9_sights_61 : decode cX9_sights 61 = .ok (.getfield 133, 3) := by decide +kernel
theorem dX9_sights_64 : decode cX9_sights 64 = .ok (.if_icmp .ge 30, 3) := by decide +kernel
theorem dX9_sights_67 : decode cX9_sights 67 = .ok (.aload 4, 2) := by decide +kernel
theorem dX9_sights_69 : decode cX9_sights 69 = .ok (.getfield 151, 3) := by decide +kernel
theorem dX9_sights_72 : decode cX9_sights 72 = .ok (.iload_n 3, 1) := by decide +kernel
theorem dX9_sights_73 : decode cX9_sights 73 = .ok (.iload 6, 2) := by decide +kernel
theorem dX9_sights_75 : decode cX9_sights 75 = .ok (.iadd, 1) := by decide +kernel
theorem dX9_sights_76 : decode cX9_sights 76 = .ok (.iaload, 1) := by decide +kernel
theorem dX9_sights_77 : decode cX9_sights 77 = .ok (.bipush 15, 2) := by decide +kernel
theorem dX9_sights_79 : decode cX9_sights 79 = .ok (.invokestatic 120, 3) := by decide +kernel
theorem dX9_sights_82 : decode cX9_sights 82 = .ok (.ifCond .eq 6, 3) := by decide +kernel
theorem dX9_sights_85 : decode cX9_sights 85 = .ok (.bipush (-2), 2) := by decide +kernel
theorem dX9_sights_87 : decode cX9_sights 87 = .ok (.ireturn, 1) := by decide +kernel
theorem dX9_sights_88 : decode cX9_sights 88 = .ok (.iinc 6 1, 3) := by decide +kernel
theorem dX9_sights_91 : decode cX9_sights 91 = .ok (.goto (-36), 3) := by decide +kernel
theorem dX9_sights_94 : decode cX9_sights 94 = .ok (.aload 4, 2) := by decide +kernel
theorem dX9_sights_96 : decode cX9_sights 96 = .ok (.getfield 151, 3) := by decide +kernel
theorem dX9_sights_99 : decode cX9_sights 99 = .ok (.iload_n 3, 1) := by decide +kernel
theorem dX9_sights_100 : decode cX9_sights 100 = .ok (.aload_n 0, 1) := by decide +kernel
theorem dX9_sights_101 : decode cX9_sights 101 = .ok (.getfield 39, 3) := by decide +kernel
theorem dX9_sights_104 : decode cX9_sights 104 = .ok (.getfield 140, 3) := by decide +kernel
theorem dX9_sights_107 : decode cX9_sights 107 = .ok (.iconst 0, 1) := by decide +kernel
theorem dX9_sights_108 : decode cX9_sights 108 = .ok (.aaload, 1) := by decide +kernel
theorem dX9_sights_109 : decode cX9_sights 109 = .ok (.iconst 0, 1) := by decide +kernel
theorem dX9_sights_110 : decode cX9_sights 110 = .ok (.aload_n 0, 1) := by decide +kernel
theorem dX9_sights_111 : decode cX9_sights 111 = .ok (.getfield 39, 3) := by decide +kernel
theorem dX9_sights_114 : decode cX9_sights 114 = .ok (.getfield 133, 3) := by decide +kernel
theorem dX9_sights_117 : decode cX9_sights 117 = .ok (.invokestatic 153, 3) := by decide +kernel
theorem dX9_sights_120 : decode cX9_sights 120 = .ok (.aload_n 0, 1) := by decide +kernel
theorem dX9_sights_121 : decode cX9_sights 121 = .ok (.getfield 39, 3) := by decide +kernel
theorem dX9_sights_124 : decode cX9_sights 124 = .ok (.getfield 133, 3) := by decide +kernel
theorem dX9_sights_127 : decode cX9_sights 127 = .ok (.ireturn, 1) := by decide +kernel
theorem dX9_lots_0 : decode cX9_lots 0 = .ok (.aload_n 0, 1) := by decide +kernel
theorem dX9_lots_1 : decode cX9_lots 1 = .ok (.iload_n 1, 1) := by decide +kernel
theorem dX9_lots_2 : decode cX9_lots 2 = .ok (.invokevirtual 144, 3) := by decide +kernel
theorem dX9_lots_5 : decode cX9_lots 5 = .ok (.ifCond .eq 5, 3) := by decide +kernel
theorem dX9_lots_8 : decode cX9_lots 8 = .ok (.iconst (-1), 1) := by decide +kernel
theorem dX9_lots_9 : decode cX9_lots 9 = .ok (.ireturn, 1) := by decide +kernel
theorem dX9_lots_10 : decode cX9_lots 10 = .ok (.aload_n 0, 1) := by decide +kernel
theorem dX9_lots_11 : decode cX9_lots 11 = .ok (.getfield 85, 3) := by decide +kernel
theorem dX9_lots_14 : decode cX9_lots 14 = .ok (.iload_n 1, 1) := by decide +kernel
theorem dX9_lots_15 : decode cX9_lots 15 = .ok (.aaload, 1) := by decide +kernel
theorem dX9_lots_16 : decode cX9_lots 16 = .ok (.astore_n 3, 1) := by decide +kernel
theorem dX9_lots_17 : decode cX9_lots 17 = .ok (.aload_n 3, 1) := by decide +kernel
theorem dX9_lots_18 : decode cX9_lots 18 = .ok (.iconst 0, 1) := by decide +kernel
theorem dX9_lots_19 : decode cX9_lots 19 = .ok (.iload_n 2, 1) := by decide +kernel
theorem dX9_lots_20 : decode cX9_lots 20 = .ok (.aload_n 0, 1) := by decide +kernel
theorem dX9_lots_21 : decode cX9_lots 21 = .ok (.getfield 39, 3) := by decide +kernel
theorem dX9_lots_24 : decode cX9_lots 24 = .ok (.getfield 133, 3) := by decide +kernel
theorem dX9_lots_27 : decode cX9_lots 27 = .ok (.invokevirtual 147, 3) := by decide +kernel
theorem dX9_lots_30 : decode cX9_lots 30 = .ok (.istore 4, 2) := by decide +kernel
theorem dX9_lots_32 : decode cX9_lots 32 = .ok (.iload 4, 2) := by decide +kernel
theorem dX9_lots_34 : decode cX9_lots 34 = .ok (.ifCond .ge 6, 3) := by decide +kernel
theorem dX9_lots_37 : decode cX9_lots 37 = .ok (.iload 4, 2) := by decide +kernel
theorem dX9_lots_39 : decode cX9_lots 39 = .ok (.ireturn, 1) := by decide +kernel
theorem dX9_lots_40 : decode cX9_lots 40 = .ok (.iconst 0, 1) := by decide +kernel
theorem dX9_lots_41 : decode cX9_lots 41 = .ok (.istore 5, 2) := by decide +kernel
theorem dX9_lots_43 : decode cX9_lots 43 = .ok (.iconst 0, 1) := by decide +kernel
theorem dX9_lots_44 : decode cX9_lots 44 = .ok (.istore 6, 2) := by decide +kernel
theorem dX9_lots_46 : decode cX9_lots 46 = .ok (.iload 6, 2) := by decide +kernel
theorem dX9_lots_48 : decode cX9_lots 48 = .ok (.aload_n 0, 1) := by decide +kernel
theorem dX9_lots_49 : decode cX9_lots 49 = .ok (.getfield 39, 3) := by decide +kernel
theorem dX9_lots_52 : decode cX9_lots 52 = .ok (.getfield 133, 3) := by decide +kernel
theorem dX9_lots_55 : decode cX9_lots 55 = .ok (.if_icmp .ge 44, 3) := by decide +kernel
theorem dX9_lots_58 : decode cX9_lots 58 = .ok (.aload_n 0, 1) := by decide +kernel
theorem dX9_lots_59 : decode cX9_lots 59 = .ok (.getfield 39, 3) := by decide +kernel
theorem dX9_lots_62 : decode cX9_lots 62 = .ok (.getfield 140, 3) := by decide +kernel
theorem dX9_lots_65 : decode cX9_lots 65 = .ok (.iconst 1, 1) := by decide +kernel
theorem dX9_lots_66 : decode cX9_lots 66 = .ok (.aaload, 1) := by decide +kernel
theorem dX9_lots_67 : decode cX9_lots 67 = .ok (.iload 6, 2) := by decide +kernel
theorem dX9_lots_69 : decode cX9_lots 69 = .ok (.aload_n 3, 1) := by decide +kernel
theorem dX9_lots_70 : decode cX9_lots 70 = .ok (.getfield 151, 3) := by decide +kernel
theorem dX9_lots_73 : decode cX9_lots 73 = .ok (.iload_n 2, 1) := by decide +kernel
theorem dX9_lots_74 : decode cX9_lots 74 = .ok (.iload 6, 2) := by decide +kernel
theorem dX9_lots_76 : decode cX9_lots 76 = .ok (.iadd, 1) := by decide +kernel
theorem dX9_lots_77 : decode cX9_lots 77 = .ok (.iaload, 1) := by decide +kernel
theorem dX9_lots_78 : decode cX9_lots 78 = .ok (.iastore, 1) := by decide +kernel
theorem dX9_lots_79 : decode cX9_lots 79 = .ok (.iload 5, 2) := by decide +kernel
theorem dX9_lots_81 : decode cX9_lots 81 = .ok (.aload_n 3, 1) := by decide +kernel
theorem dX9_lots_82 : decode cX9_lots 82 = .ok (.getfield 151, 3) := by decide +kernel
theorem dX9_lots_85 : decode cX9_lots 85 = .ok (.iload_n 2, 1) := by decide +kernel
theorem dX9_lots_86 : decode cX9_lots 86 = .ok (.iload 6, 2) := by decide +kernel
theorem dX9_lots_88 : decode cX9_lots 88 = .ok (.iadd, 1) := by decide +kernel
theorem dX9_lots_89 : decode cX9_lots 89 = .ok (.iaload, 1) := by decide +kernel
theorem dX9_lots_90 : decode cX9_lots 90 = .ok (.iadd, 1) := by decide +kernel
theorem dX9_lots_91 : decode cX9_lots 91 = .ok (.istore 5, 2) := by decide +kernel
theorem dX9_lots_93 : decode cX9_lots 93 = .ok (.iinc 6 1, 3) := by decide +kernel
theorem dX9_lots_96 : decode cX9_lots 96 = .ok (.goto (-50), 3) := by decide +kernel
theorem dX9_lots_99 : decode cX9_lots 99 = .ok (.iload 5, 2) := by decide +kernel
theorem dX9_lots_101 : decode cX9_lots 101 = .ok (.ireturn, 1) := by decide +kernel
theorem dX9_play_0 : decode cX9_play 0 = .ok (.aload_n 0, 1) := by decide +kernel
theorem dX9_play_1 : decode cX9_play 1 = .ok (.iload_n 1, 1) := by decide +kernel
theorem dX9_play_2 : decode cX9_play 2 = .ok (.invokevirtual 111, 3) := by decide +kernel
theorem dX9_play_5 : decode cX9_play 5 = .ok (.ifCond .ne 19, 3) := by decide +kernel
theorem dX9_play_8 : decode cX9_play 8 = .ok (.aload_n 0, 1) := by decide +kernel
theorem dX9_play_9 : decode cX9_play 9 = .ok (.iload_n 2, 1) := by decide +kernel
theorem dX9_play_10 : decode cX9_play 10 = .ok (.invokevirtual 137, 3) := by decide +kernel
theorem dX9_play_13 : decode cX9_play 13 = .ok (.ifCond .ne 11, 3) := by decide +kernel
theorem dX9_play_16 : decode cX9_play 16 = .ok (.iload_n 3, 1) := by decide +kernel
theorem dX9_play_17 : decode cX9_play 17 = .ok (.iconst 2, 1) := by decide +kernel
theorem dX9_play_18 : decode cX9_play 18 = .ok (.invokestatic 120, 3) := by decide +kernel
theorem dX9_play_21 : decode cX9_play 21 = .ok (.ifCond .eq 5, 3) := by decide +kernel
theorem dX9_play_24 : decode cX9_play 24 = .ok (.iconst (-1), 1) := by decide +kernel
theorem dX9_play_25 : decode cX9_play 25 = .ok (.ireturn, 1) := by decide +kernel
theorem dX9_play_26 : decode cX9_play 26 = .ok (.aload_n 0, 1) := by decide +kernel
theorem dX9_play_27 : decode cX9_play 27 = .ok (.aload_n 0, 1) := by decide +kernel
theorem dX9_play_28 : decode cX9_play 28 = .ok (.getfield 28, 3) := by decide +kernel
theorem dX9_play_31 : decode cX9_play 31 = .ok (.iload_n 1, 1) := by decide +kernel
theorem dX9_play_32 : decode cX9_play 32 = .ok (.aaload, 1) := by decide +kernel
theorem dX9_play_33 : decode cX9_play 33 = .ok (.invokevirtual 159, 3) := by decide +kernel
theorem dX9_play_36 : decode cX9_play 36 = .ok (.iload_n 3, 1) := by decide +kernel
theorem dX9_play_37 : decode cX9_play 37 = .ok (.ifCond .ne 15, 3) := by decide +kernel
theorem dX9_play_40 : decode cX9_play 40 = .ok (.aload_n 0, 1) := by decide +kernel
theorem dX9_play_41 : decode cX9_play 41 = .ok (.getfield 46, 3) := by decide +kernel
theorem dX9_play_44 : decode cX9_play 44 = .ok (.getfield 163, 3) := by decide +kernel
theorem dX9_play_47 : decode cX9_play 47 = .ok (.iload_n 2, 1) := by decide +kernel
theorem dX9_play_48 : decode cX9_play 48 = .ok (.iaload, 1) := by decide +kernel
theorem dX9_play_49 : decode cX9_play 49 = .ok (.goto 29, 3) := by decide +kernel
theorem dX9_play_52 : decode cX9_play 52 = .ok (.iload_n 3, 1) := by decide +kernel
theorem dX9_play_53 : decode cX9_play 53 = .ok (.iconst 1, 1) := by decide +kernel
theorem dX9_play_54 : decode cX9_play 54 = .ok (.if_icmp .ne 15, 3) := by decide +kernel
theorem dX9_play_57 : decode cX9_play 57 = .ok (.aload_n 0, 1) := by decide +kernel
theorem dX9_play_58 : decode cX9_play 58 = .ok (.getfield 46, 3) := by decide +kernel
theorem dX9_play_61 : decode cX9_play 61 = .ok (.getfield 166, 3) := by decide +kernel
theorem dX9_play_64 : decode cX9_play 64 = .ok (.iload_n 2, 1) := by decide +kernel
theorem dX9_play_65 : decode cX9_play 65 = .ok (.iaload, 1) := by decide +kernel
theorem dX9_play_66 : decode cX9_play 66 = .ok (.goto 12, 3) := by decide +kernel
theorem dX9_play_69 : decode cX9_play 69 = .ok (.aload_n 0, 1) := by decide +kernel
theorem dX9_play_70 : decode cX9_play 70 = .ok (.getfield 46, 3) := by decide +kernel
theorem dX9_play_73 : decode cX9_play 73 = .ok (.getfield 169, 3) := by decide +kernel
theorem dX9_play_76 : decode cX9_play 76 = .ok (.iload_n 2, 1) := by decide +kernel
theorem dX9_play_77 : decode cX9_play 77 = .ok (.iaload, 1) := by decide +kernel
theorem dX9_play_78 : decode cX9_play 78 = .ok (.ireturn, 1) := by decide +kernel
theorem dX9_chooses_0 : decode cX9_chooses 0 = .ok (.aload_n 0, 1) := by decide +kernel
theorem dX9_chooses_1 : decode cX9_chooses 1 = .ok (.iload_n 1, 1) := by decide +kernel
theorem dX9_chooses_2 : decode cX9_chooses 2 = .ok (.invokevirtual 111, 3) := by decide +kernel
theorem dX9_chooses_5 : decode cX9_chooses 5 = .ok (.ifCond .ne 29, 3) := by decide +kernel
theorem dX9_chooses_8 : decode cX9_chooses 8 = .ok (.iload_n 2, 1) := by decide +kernel
theorem dX9_chooses_9 : decode cX9_chooses 9 = .ok (.iconst 3, 1) := by decide +kernel
theorem dX9_chooses_10 : decode cX9_chooses 10 = .ok (.invokestatic 120, 3) := by decide +kernel
theorem dX9_chooses_13 : decode cX9_chooses 13 = .ok (.ifCond .ne 21, 3) := by decide +kernel
theorem dX9_chooses_16 : decode cX9_chooses 16 = .ok (.iload_n 3, 1) := by decide +kernel
theorem dX9_chooses_17 : decode cX9_chooses 17 = .ok (.bipush 15, 2) := by decide +kernel
theorem dX9_chooses_19 : decode cX9_chooses 19 = .ok (.invokestatic 120, 3) := by decide +kernel
theorem dX9_chooses_22 : decode cX9_chooses 22 = .ok (.ifCond .ne 12, 3) := by decide +kernel
theorem dX9_chooses_25 : decode cX9_chooses 25 = .ok (.iload 4, 2) := by decide +kernel
theorem dX9_chooses_27 : decode cX9_chooses 27 = .ok (.iconst 1, 1) := by decide +kernel
theorem dX9_chooses_28 : decode cX9_chooses 28 = .ok (.invokestatic 120, 3) := by decide +kernel
theorem dX9_chooses_31 : decode cX9_chooses 31 = .ok (.ifCond .eq 5, 3) := by decide +kernel
theorem dX9_chooses_34 : decode cX9_chooses 34 = .ok (.iconst (-1), 1) := by decide +kernel
theorem dX9_chooses_35 : decode cX9_chooses 35 = .ok (.ireturn, 1) := by decide +kernel
theorem dX9_chooses_36 : decode cX9_chooses 36 = .ok (.aload_n 0, 1) := by decide +kernel
theorem dX9_chooses_37 : decode cX9_chooses 37 = .ok (.getfield 28, 3) := by decide +kernel
theorem dX9_chooses_40 : decode cX9_chooses 40 = .ok (.iload_n 1, 1) := by decide +kernel
theorem dX9_chooses_41 : decode cX9_chooses 41 = .ok (.aaload, 1) := by decide +kernel
theorem dX9_chooses_42 : decode cX9_chooses 42 = .ok (.sipush 255, 3) := by decide +kernel
theorem dX9_chooses_45 : decode cX9_chooses 45 = .ok (.iload_n 2, 1) := by decide +kernel
theorem dX9_chooses_46 : decode cX9_chooses 46 = .ok (.iconst 2, 1) := by decide +kernel
theorem dX9_chooses_47 : decode cX9_chooses 47 = .ok (.iload_n 3, 1) := by decide +kernel
theorem dX9_chooses_48 : decode cX9_chooses 48 = .ok (.imul, 1) := by decide +kernel
theorem dX9_chooses_49 : decode cX9_chooses 49 = .ok (.iload 4, 2) := by decide +kernel
theorem dX9_chooses_51 : decode cX9_chooses 51 = .ok (.iadd, 1) := by decide +kernel
theorem dX9_chooses_52 : decode cX9_chooses 52 = .ok (.invokevirtual 170, 3) := by decide +kernel
theorem dX9_chooses_55 : decode cX9_chooses 55 = .ok (.ireturn, 1) := by decide +kernel
theorem dX9_write_0 : decode cX9_write 0 = .ok (.iload_n 1, 1) := by decide +kernel
theorem dX9_write_1 : decode cX9_write 1 = .ok (.bipush 48, 2) := by decide +kernel
theorem dX9_write_3 : decode cX9_write 3 = .ok (.invokestatic 120, 3) := by decide +kernel
theorem dX9_write_6 : decode cX9_write 6 = .ok (.ifCond .eq 5, 3) := by decide +kernel
theorem dX9_write_9 : decode cX9_write 9 = .ok (.iconst (-1), 1) := by decide +kernel
theorem dX9_write_10 : decode cX9_write 10 = .ok (.ireturn, 1) := by decide +kernel
theorem dX9_write_11 : decode cX9_write 11 = .ok (.aload_n 0, 1) := by decide +kernel
theorem dX9_write_12 : decode cX9_write 12 = .ok (.aload_n 0, 1) := by decide +kernel
theorem dX9_write_13 : decode cX9_write 13 = .ok (.getfield 28, 3) := by decide +kernel
theorem dX9_write_16 : decode cX9_write 16 = .ok (.iconst 0, 1) := by decide +kernel
theorem dX9_write_17 : decode cX9_write 17 = .ok (.aaload, 1) := by decide +kernel
theorem dX9_write_18 : decode cX9_write 18 = .ok (.invokevirtual 159, 3) := by decide +kernel
theorem dX9_write_21 : decode cX9_write 21 = .ok (.aload_n 0, 1) := by decide +kernel
theorem dX9_write_22 : decode cX9_write 22 = .ok (.getfield 53, 3) := by decide +kernel
theorem dX9_write_25 : decode cX9_write 25 = .ok (.iconst 0, 1) := by decide +kernel
theorem dX9_write_26 : decode cX9_write 26 = .ok (.putfield 173, 3) := by decide +kernel
theorem dX9_write_29 : decode cX9_write 29 = .ok (.iconst 0, 1) := by decide +kernel
theorem dX9_write_30 : decode cX9_write 30 = .ok (.istore_n 2, 1) := by decide +kernel
theorem dX9_write_31 : decode cX9_write 31 = .ok (.iload_n 2, 1) := by decide +kernel
theorem dX9_write_32 : decode cX9_write 32 = .ok (.aload_n 0, 1) := by decide +kernel
theorem dX9_write_33 : decode cX9_write 33 = .ok (.getfield 39, 3) := by decide +kernel
theorem dX9_write_36 : decode cX9_write 36 = .ok (.getfield 133, 3) := by decide +kernel
theorem dX9_write_39 : decode cX9_write 39 = .ok (.if_icmp .ge 81, 3) := by decide +kernel
theorem dX9_write_42 : decode cX9_write 42 = .ok (.aload_n 0, 1) := by decide +kernel
theorem dX9_write_43 : decode cX9_write 43 = .ok (.getfield 53, 3) := by decide +kernel
theorem dX9_write_46 : decode cX9_write 46 = .ok (.iconst 0, 1) := by decide +kernel
theorem dX9_write_47 : decode cX9_write 47 = .ok (.iload_n 2, 1) := by decide +kernel
theorem dX9_write_48 : decode cX9_write 48 = .ok (.aload_n 0, 1) := by decide +kernel
theorem dX9_write_49 : decode cX9_write 49 = .ok (.getfield 46, 3) := by decide +kernel
theorem dX9_write_52 : decode cX9_write 52 = .ok (.getfield 174, 3) := by decide +kernel
theorem dX9_write_55 : decode cX9_write 55 = .ok (.iload_n 2, 1) := by decide +kernel
theorem dX9_write_56 : decode cX9_write 56 = .ok (.iaload, 1) := by decide +kernel
theorem dX9_write_57 : decode cX9_write 57 = .ok (.invokevirtual 177, 3) := by decide +kernel
theorem dX9_write_60 : decode cX9_write 60 = .ok (.aload_n 0, 1) := by decide +kernel
theorem dX9_write_61 : decode cX9_write 61 = .ok (.getfield 53, 3) := by decide +kernel
theorem dX9_write_64 : decode cX9_write 64 = .ok (.iconst 3, 1) := by decide +kernel
theorem dX9_write_65 : decode cX9_write 65 = .ok (.iload_n 2, 1) := by decide +kernel
theorem dX9_write_66 : decode cX9_write 66 = .ok (.aload_n 0, 1) := by decide +kernel
theorem dX9_write_67 : decode cX9_write 67 = .ok (.getfield 46, 3) := by decide +kernel
theorem dX9_write_70 : decode cX9_write 70 = .ok (.getfield 180, 3) := by decide +kernel
theorem dX9_write_73 : decode cX9_write 73 = .ok (.iload_n 2, 1) := by decide +kernel
theorem dX9_write_74 : decode cX9_write 74 = .ok (.iaload, 1) := by decide +kernel
theorem dX9_write_75 : decode cX9_write 75 = .ok (.invokevirtual 177, 3) := by decide +kernel
theorem dX9_write_78 : decode cX9_write 78 = .ok (.aload_n 0, 1) := by decide +kernel
theorem dX9_write_79 : decode cX9_write 79 = .ok (.getfield 53, 3) := by decide +kernel
theorem dX9_write_82 : decode cX9_write 82 = .ok (.iconst 1, 1) := by decide +kernel
theorem dX9_write_83 : decode cX9_write 83 = .ok (.iload_n 2, 1) := by decide +kernel
theorem dX9_write_84 : decode cX9_write 84 = .ok (.aload_n 0, 1) := by decide +kernel
theorem dX9_write_85 : decode cX9_write 85 = .ok (.getfield 46, 3) := by decide +kernel
theorem dX9_write_88 : decode cX9_write 88 = .ok (.getfield 166, 3) := by decide +kernel
theorem dX9_write_91 : decode cX9_write 91 = .ok (.iload_n 2, 1) := by decide +kernel
theorem dX9_write_92 : decode cX9_write 92 = .ok (.iaload, 1) := by decide +kernel
theorem dX9_write_93 : decode cX9_write 93 = .ok (.invokevirtual 177, 3) := by decide +kernel
theorem dX9_write_96 : decode cX9_write 96 = .ok (.aload_n 0, 1) := by decide +kernel
theorem dX9_write_97 : decode cX9_write 97 = .ok (.getfield 53, 3) := by decide +kernel
theorem dX9_write_100 : decode cX9_write 100 = .ok (.iconst 2, 1) := by decide +kernel
theorem dX9_write_101 : decode cX9_write 101 = .ok (.iload_n 2, 1) := by decide +kernel
theorem dX9_write_102 : decode cX9_write 102 = .ok (.aload_n 0, 1) := by decide +kernel
theorem dX9_write_103 : decode cX9_write 103 = .ok (.getfield 46, 3) := by decide +kernel
theorem dX9_write_106 : decode cX9_write 106 = .ok (.getfield 169, 3) := by decide +kernel
theorem dX9_write_109 : decode cX9_write 109 = .ok (.iload_n 2, 1) := by decide +kernel
theorem dX9_write_110 : decode cX9_write 110 = .ok (.iaload, 1) := by decide +kernel
theorem dX9_write_111 : decode cX9_write 111 = .ok (.invokevirtual 177, 3) := by decide +kernel
theorem dX9_write_114 : decode cX9_write 114 = .ok (.iinc 2 1, 3) := by decide +kernel
theorem dX9_write_117 : decode cX9_write 117 = .ok (.goto (-86), 3) := by decide +kernel
theorem dX9_write_120 : decode cX9_write 120 = .ok (.iconst 0, 1) := by decide +kernel
theorem dX9_write_121 : decode cX9_write 121 = .ok (.aload_n 0, 1) := by decide +kernel
theorem dX9_write_122 : decode cX9_write 122 = .ok (.getfield 53, 3) := by decide +kernel
theorem dX9_write_125 : decode cX9_write 125 = .ok (.getfield 173, 3) := by decide +kernel
theorem dX9_write_128 : decode cX9_write 128 = .ok (.iload_n 1, 1) := by decide +kernel
theorem dX9_write_129 : decode cX9_write 129 = .ok (.isub, 1) := by decide +kernel
theorem dX9_write_130 : decode cX9_write 130 = .ok (.invokestatic 183, 3) := by decide +kernel
theorem dX9_write_133 : decode cX9_write 133 = .ok (.istore_n 2, 1) := by decide +kernel
theorem dX9_write_134 : decode cX9_write 134 = .ok (.aload_n 0, 1) := by decide +kernel
theorem dX9_write_135 : decode cX9_write 135 = .ok (.getfield 53, 3) := by decide +kernel
theorem dX9_write_138 : decode cX9_write 138 = .ok (.iload_n 2, 1) := by decide +kernel
theorem dX9_write_139 : decode cX9_write 139 = .ok (.invokevirtual 189, 3) := by decide +kernel
theorem dX9_write_142 : decode cX9_write 142 = .ok (.aload_n 0, 1) := by decide +kernel
theorem dX9_write_143 : decode cX9_write 143 = .ok (.getfield 53, 3) := by decide +kernel
theorem dX9_write_146 : decode cX9_write 146 = .ok (.invokevirtual 192, 3) := by decide +kernel
theorem dX9_write_149 : decode cX9_write 149 = .ok (.iload_n 2, 1) := by decide +kernel
theorem dX9_write_150 : decode cX9_write 150 = .ok (.ireturn, 1) := by decide +kernel
theorem dX9_tell_0 : decode cX9_tell 0 = .ok (.iload_n 1, 1) := by decide +kernel
theorem dX9_tell_1 : decode cX9_tell 1 = .ok (.bipush 11, 2) := by decide +kernel
theorem dX9_tell_3 : decode cX9_tell 3 = .ok (.invokestatic 120, 3) := by decide +kernel
theorem dX9_tell_6 : decode cX9_tell 6 = .ok (.ifCond .ne 12, 3) := by decide +kernel
theorem dX9_tell_9 : decode cX9_tell 9 = .ok (.iload_n 2, 1) := by decide +kernel
theorem dX9_tell_10 : decode cX9_tell 10 = .ok (.bipush 99, 2) := by decide +kernel
theorem dX9_tell_12 : decode cX9_tell 12 = .ok (.invokestatic 120, 3) := by decide +kernel
theorem dX9_tell_15 : decode cX9_tell 15 = .ok (.ifCond .eq 5, 3) := by decide +kernel
theorem dX9_tell_18 : decode cX9_tell 18 = .ok (.iconst (-1), 1) := by decide +kernel
theorem dX9_tell_19 : decode cX9_tell 19 = .ok (.ireturn, 1) := by decide +kernel
theorem dX9_tell_20 : decode cX9_tell 20 = .ok (.aload_n 0, 1) := by decide +kernel
theorem dX9_tell_21 : decode cX9_tell 21 = .ok (.getfield 53, 3) := by decide +kernel
theorem dX9_tell_24 : decode cX9_tell 24 = .ok (.getfield 173, 3) := by decide +kernel
theorem dX9_tell_27 : decode cX9_tell 27 = .ok (.bipush 48, 2) := by decide +kernel
theorem dX9_tell_29 : decode cX9_tell 29 = .ok (.if_icmp .lt 6, 3) := by decide +kernel
theorem dX9_tell_32 : decode cX9_tell 32 = .ok (.bipush (-3), 2) := by decide +kernel
theorem dX9_tell_34 : decode cX9_tell 34 = .ok (.ireturn, 1) := by decide +kernel
theorem dX9_tell_35 : decode cX9_tell 35 = .ok (.aload_n 0, 1) := by decide +kernel
theorem dX9_tell_36 : decode cX9_tell 36 = .ok (.getfield 53, 3) := by decide +kernel
theorem dX9_tell_39 : decode cX9_tell 39 = .ok (.iconst 4, 1) := by decide +kernel
theorem dX9_tell_40 : decode cX9_tell 40 = .ok (.iload_n 1, 1) := by decide +kernel
theorem dX9_tell_41 : decode cX9_tell 41 = .ok (.iload_n 2, 1) := by decide +kernel
theorem dX9_tell_42 : decode cX9_tell 42 = .ok (.invokevirtual 177, 3) := by decide +kernel
theorem dX9_tell_45 : decode cX9_tell 45 = .ok (.aload_n 0, 1) := by decide +kernel
theorem dX9_tell_46 : decode cX9_tell 46 = .ok (.getfield 53, 3) := by decide +kernel
theorem dX9_tell_49 : decode cX9_tell 49 = .ok (.invokevirtual 192, 3) := by decide +kernel
theorem dX9_tell_52 : decode cX9_tell 52 = .ok (.aload_n 0, 1) := by decide +kernel
theorem dX9_tell_53 : decode cX9_tell 53 = .ok (.getfield 53, 3) := by decide +kernel
theorem dX9_tell_56 : decode cX9_tell 56 = .ok (.getfield 173, 3) := by decide +kernel
theorem dX9_tell_59 : decode cX9_tell 59 = .ok (.iconst 1, 1) := by decide +kernel
theorem dX9_tell_60 : decode cX9_tell 60 = .ok (.isub, 1) := by decide +kernel
theorem dX9_tell_61 : decode cX9_tell 61 = .ok (.ireturn, 1) := by decide +kernel
theorem dX9_line_0 : decode cX9_line 0 = .ok (.aload_n 0, 1) := by decide +kernel
theorem dX9_line_1 : decode cX9_line 1 = .ok (.iload_n 1, 1) := by decide +kernel
theorem dX9_line_2 : decode cX9_line 2 = .ok (.invokevirtual 195, 3) := by decide +kernel
theorem dX9_line_5 : decode cX9_line 5 = .ok (.ifCond .ne 11, 3) := by decide +kernel
theorem dX9_line_8 : decode cX9_line 8 = .ok (.iload_n 2, 1) := by decide +kernel
theorem dX9_line_9 : decode cX9_line 9 = .ok (.iconst 4, 1) := by decide +kernel
theorem dX9_line_10 : decode cX9_line 10 = .ok (.invokestatic 120, 3) := by decide +kernel
theorem dX9_line_13 : decode cX9_line 13 = .ok (.ifCond .eq 5, 3) := by decide +kernel
theorem dX9_line_16 : decode cX9_line 16 = .ok (.iconst (-1), 1) := by decide +kernel
theorem dX9_line_17 : decode cX9_line 17 = .ok (.ireturn, 1) := by decide +kernel
theorem dX9_line_18 : decode cX9_line 18 = .ok (.iload_n 2, 1) := by decide +kernel
theorem dX9_line_19 : decode cX9_line 19 = .ok (.iconst 2, 1) := by decide +kernel
theorem dX9_line_20 : decode cX9_line 20 = .ok (.if_icmp .ne 21, 3) := by decide +kernel
theorem dX9_line_23 : decode cX9_line 23 = .ok (.aload_n 0, 1) := by decide +kernel
theorem dX9_line_24 : decode cX9_line 24 = .ok (.getfield 53, 3) := by decide +kernel
theorem dX9_line_27 : decode cX9_line 27 = .ok (.getfield 198, 3) := by decide +kernel
theorem dX9_line_30 : decode cX9_line 30 = .ok (.iconst 0, 1) := by decide +kernel
theorem dX9_line_31 : decode cX9_line 31 = .ok (.aaload, 1) := by decide +kernel
theorem dX9_line_32 : decode cX9_line 32 = .ok (.iload_n 1, 1) := by decide +kernel
theorem dX9_line_33 : decode cX9_line 33 = .ok (.iaload, 1) := by decide +kernel
theorem dX9_line_34 : decode cX9_line 34 = .ok (.iconst 5, 1) := by decide +kernel
theorem dX9_line_35 : decode cX9_line 35 = .ok (.if_icmp .ne 6, 3) := by decide +kernel
theorem dX9_line_38 : decode cX9_line 38 = .ok (.bipush (-12), 2) := by decide +kernel
theorem dX9_line_40 : decode cX9_line 40 = .ok (.ireturn, 1) := by decide +kernel
theorem dX9_line_41 : decode cX9_line 41 = .ok (.iload_n 2, 1) := by decide +kernel
theorem dX9_line_42 : decode cX9_line 42 = .ok (.iconst 4, 1) := by decide +kernel
theorem dX9_line_43 : decode cX9_line 43 = .ok (.if_icmp .ne 21, 3) := by decide +kernel
theorem dX9_line_46 : decode cX9_line 46 = .ok (.aload_n 0, 1) := by decide +kernel
theorem dX9_line_47 : decode cX9_line 47 = .ok (.iload_n 1, 1) := by decide +kernel
theorem dX9_line_48 : decode cX9_line 48 = .ok (.aload_n 0, 1) := by decide +kernel
theorem dX9_line_49 : decode cX9_line 49 = .ok (.invokevirtual 201, 3) := by decide +kernel
theorem dX9_line_52 : decode cX9_line 52 = .ok (.invokevirtual 205, 3) := by decide +kernel
theorem dX9_line_55 : decode cX9_line 55 = .ok (.ifCond .eq 7, 3) := by decide +kernel
theorem dX9_line_58 : decode cX9_line 58 = .ok (.iconst 1, 1) := by decide +kernel
theorem dX9_line_59 : decode cX9_line 59 = .ok (.goto 4, 3) := by decide +kernel
theorem dX9_line_62 : decode cX9_line 62 = .ok (.iconst 0, 1) := by decide +kernel
theorem dX9_line_63 : decode cX9_line 63 = .ok (.ireturn, 1) := by decide +kernel
theorem dX9_line_64 : decode cX9_line 64 = .ok (.aload_n 0, 1) := by decide +kernel
theorem dX9_line_65 : decode cX9_line 65 = .ok (.getfield 53, 3) := by decide +kernel
theorem dX9_line_68 : decode cX9_line 68 = .ok (.getfield 198, 3) := by decide +kernel
theorem dX9_line_71 : decode cX9_line 71 = .ok (.iload_n 2, 1) := by decide +kernel
theorem dX9_line_72 : decode cX9_line 72 = .ok (.aaload, 1) := by decide +kernel
theorem dX9_line_73 : decode cX9_line 73 = .ok (.iload_n 1, 1) := by decide +kernel
theorem dX9_line_74 : decode cX9_line 74 = .ok (.iaload, 1) := by decide +kernel
theorem dX9_line_75 : decode cX9_line 75 = .ok (.ireturn, 1) := by decide +kernel
theorem dX9_forge_0 : decode cX9_forge 0 = .ok (.aload_n 0, 1) := by decide +kernel
theorem dX9_forge_1 : decode cX9_forge 1 = .ok (.iload_n 1, 1) := by decide +kernel
theorem dX9_forge_2 : decode cX9_forge 2 = .ok (.invokevirtual 195, 3) := by decide +kernel
theorem dX9_forge_5 : decode cX9_forge 5 = .ok (.ifCond .ne 25, 3) := by decide +kernel
theorem dX9_forge_8 : decode cX9_forge 8 = .ok (.iload_n 2, 1) := by decide +kernel
theorem dX9_forge_9 : decode cX9_forge 9 = .ok (.getstatic 208, 3) := by decide +kernel
theorem dX9_forge_12 : decode cX9_forge 12 = .ok (.aload_n 0, 1) := by decide +kernel
theorem dX9_forge_13 : decode cX9_forge 13 = .ok (.getfield 53, 3) := by decide +kernel
theorem dX9_forge_16 : decode cX9_forge 16 = .ok (.getfield 198, 3) := by decide +kernel
theorem dX9_forge_19 : decode cX9_forge 19 = .ok (.iconst 0, 1) := by decide +kernel
theorem dX9_forge_20 : decode cX9_forge 20 = .ok (.aaload, 1) := by decide +kernel
theorem dX9_forge_21 : decode cX9_forge 21 = .ok (.iload_n 1, 1) := by decide +kernel
theorem dX9_forge_22 : decode cX9_forge 22 = .ok (.iaload, 1) := by decide +kernel
theorem dX9_forge_23 : decode cX9_forge 23 = .ok (.iaload, 1) := by decide +kernel
theorem dX9_forge_24 : decode cX9_forge 24 = .ok (.invokestatic 120, 3) := by decide +kernel
theorem dX9_forge_27 : decode cX9_forge 27 = .ok (.ifCond .eq 5, 3) := by decide +kernel
theorem dX9_forge_30 : decode cX9_forge 30 = .ok (.iconst (-1), 1) := by decide +kernel
theorem dX9_forge_31 : decode cX9_forge 31 = .ok (.ireturn, 1) := by decide +kernel
theorem dX9_forge_32 : decode cX9_forge 32 = .ok (.aload_n 0, 1) := by decide +kernel
theorem dX9_forge_33 : decode cX9_forge 33 = .ok (.getfield 53, 3) := by decide +kernel
theorem dX9_forge_36 : decode cX9_forge 36 = .ok (.getfield 198, 3) := by decide +kernel
theorem dX9_forge_39 : decode cX9_forge 39 = .ok (.iconst 0, 1) := by decide +kernel
theorem dX9_forge_40 : decode cX9_forge 40 = .ok (.aaload, 1) := by decide +kernel
theorem dX9_forge_41 : decode cX9_forge 41 = .ok (.iload_n 1, 1) := by decide +kernel
theorem dX9_forge_42 : decode cX9_forge 42 = .ok (.iaload, 1) := by decide +kernel
theorem dX9_forge_43 : decode cX9_forge 43 = .ok (.iconst 5, 1) := by decide +kernel
theorem dX9_forge_44 : decode cX9_forge 44 = .ok (.if_icmp .ne 6, 3) := by decide +kernel
theorem dX9_forge_47 : decode cX9_forge 47 = .ok (.bipush (-12), 2) := by decide +kernel
theorem dX9_forge_49 : decode cX9_forge 49 = .ok (.ireturn, 1) := by decide +kernel
theorem dX9_forge_50 : decode cX9_forge 50 = .ok (.aload_n 0, 1) := by decide +kernel
theorem dX9_forge_51 : decode cX9_forge 51 = .ok (.getfield 53, 3) := by decide +kernel
theorem dX9_forge_54 : decode cX9_forge 54 = .ok (.getfield 198, 3) := by decide +kernel
theorem dX9_forge_57 : decode cX9_forge 57 = .ok (.iconst 2, 1) := by decide +kernel
theorem dX9_forge_58 : decode cX9_forge 58 = .ok (.aaload, 1) := by decide +kernel
theorem dX9_forge_59 : decode cX9_forge 59 = .ok (.iload_n 1, 1) := by decide +kernel
theorem dX9_forge_60 : decode cX9_forge 60 = .ok (.iaload, 1) := by decide +kernel
theorem dX9_forge_61 : decode cX9_forge 61 = .ok (.istore_n 3, 1) := by decide +kernel
theorem dX9_forge_62 : decode cX9_forge 62 = .ok (.aload_n 0, 1) := by decide +kernel
theorem dX9_forge_63 : decode cX9_forge 63 = .ok (.getfield 53, 3) := by decide +kernel
theorem dX9_forge_66 : decode cX9_forge 66 = .ok (.getfield 198, 3) := by decide +kernel
theorem dX9_forge_69 : decode cX9_forge 69 = .ok (.iconst 2, 1) := by decide +kernel
theorem dX9_forge_70 : decode cX9_forge 70 = .ok (.aaload, 1) := by decide +kernel
theorem dX9_forge_71 : decode cX9_forge 71 = .ok (.iload_n 1, 1) := by decide +kernel
theorem dX9_forge_72 : decode cX9_forge 72 = .ok (.iload_n 2, 1) := by decide +kernel
theorem dX9_forge_73 : decode cX9_forge 73 = .ok (.iastore, 1) := by decide +kernel
theorem dX9_forge_74 : decode cX9_forge 74 = .ok (.aload_n 0, 1) := by decide +kernel
theorem dX9_forge_75 : decode cX9_forge 75 = .ok (.getfield 53, 3) := by decide +kernel
theorem dX9_forge_78 : decode cX9_forge 78 = .ok (.invokevirtual 192, 3) := by decide +kernel
theorem dX9_forge_81 : decode cX9_forge 81 = .ok (.iload_n 3, 1) := by decide +kernel
theorem dX9_forge_82 : decode cX9_forge 82 = .ok (.ireturn, 1) := by decide +kernel
theorem dX9_swap_0 : decode cX9_swap 0 = .ok (.aload_n 0, 1) := by decide +kernel
theorem dX9_swap_1 : decode cX9_swap 1 = .ok (.iload_n 1, 1) := by decide +kernel
theorem dX9_swap_2 : decode cX9_swap 2 = .ok (.invokevirtual 195, 3) := by decide +kernel
theorem dX9_swap_5 : decode cX9_swap 5 = .ok (.ifCond .ne 16, 3) := by decide +kernel
theorem dX9_swap_8 : decode cX9_swap 8 = .ok (.aload_n 0, 1) := by decide +kernel
theorem dX9_swap_9 : decode cX9_swap 9 = .ok (.iload_n 2, 1) := by decide +kernel
theorem dX9_swap_10 : decode cX9_swap 10 = .ok (.invokevirtual 195, 3) := by decide +kernel
theorem dX9_swap_13 : decode cX9_swap 13 = .ok (.ifCond .ne 8, 3) := by decide +kernel
theorem dX9_swap_16 : decode cX9_swap 16 = .ok (.iload_n 1, 1) := by decide +kernel
theorem dX9_swap_17 : decode cX9_swap 17 = .ok (.iload_n 2, 1) := by decide +kernel
theorem dX9_swap_18 : decode cX9_swap 18 = .ok (.if_icmp .ne 5, 3) := by decide +kernel
theorem dX9_swap_21 : decode cX9_swap 21 = .ok (.iconst (-1), 1) := by decide +kernel
theorem dX9_swap_22 : decode cX9_swap 22 = .ok (.ireturn, 1) := by decide +kernel
theorem dX9_swap_23 : decode cX9_swap 23 = .ok (.aload_n 0, 1) := by decide +kernel
theorem dX9_swap_24 : decode cX9_swap 24 = .ok (.getfield 53, 3) := by decide +kernel
theorem dX9_swap_27 : decode cX9_swap 27 = .ok (.iload_n 1, 1) := by decide +kernel
theorem dX9_swap_28 : decode cX9_swap 28 = .ok (.iload_n 2, 1) := by decide +kernel
theorem dX9_swap_29 : decode cX9_swap 29 = .ok (.invokevirtual 211, 3) := by decide +kernel
theorem dX9_swap_32 : decode cX9_swap 32 = .ok (.aload_n 0, 1) := by decide +kernel
theorem dX9_swap_33 : decode cX9_swap 33 = .ok (.getfield 53, 3) := by decide +kernel
theorem dX9_swap_36 : decode cX9_swap 36 = .ok (.invokevirtual 192, 3) := by decide +kernel
theorem dX9_swap_39 : decode cX9_swap 39 = .ok (.iconst 1, 1) := by decide +kernel
theorem dX9_swap_40 : decode cX9_swap 40 = .ok (.ireturn, 1) := by decide +kernel
theorem dX9_tear_0 : decode cX9_tear 0 = .ok (.aload_n 0, 1) := by decide +kernel
theorem dX9_tear_1 : decode cX9_tear 1 = .ok (.iload_n 1, 1) := by decide +kernel
theorem dX9_tear_2 : decode cX9_tear 2 = .ok (.invokevirtual 195, 3) := by decide +kernel
theorem dX9_tear_5 : decode cX9_tear 5 = .ok (.ifCond .eq 5, 3) := by decide +kernel
theorem dX9_tear_8 : decode cX9_tear 8 = .ok (.iconst (-1), 1) := by decide +kernel
theorem dX9_tear_9 : decode cX9_tear 9 = .ok (.ireturn, 1) := by decide +kernel
theorem dX9_tear_10 : decode cX9_tear 10 = .ok (.aload_n 0, 1) := by decide +kernel
theorem dX9_tear_11 : decode cX9_tear 11 = .ok (.getfield 53, 3) := by decide +kernel
theorem dX9_tear_14 : decode cX9_tear 14 = .ok (.iload_n 1, 1) := by decide +kernel
theorem dX9_tear_15 : decode cX9_tear 15 = .ok (.invokevirtual 215, 3) := by decide +kernel
theorem dX9_tear_18 : decode cX9_tear 18 = .ok (.aload_n 0, 1) := by decide +kernel

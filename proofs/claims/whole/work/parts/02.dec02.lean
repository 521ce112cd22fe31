theorem dX9_tear_19 : decode cX9_tear 19 = .ok (.getfield 53, 3) := by decide +kernel
theorem dX9_tear_22 : decode cX9_tear 22 = .ok (.invokevirtual 192, 3) := by decide +kernel
theorem dX9_tear_25 : decode cX9_tear 25 = .ok (.aload_n 0, 1) := by decide +kernel
theorem dX9_tear_26 : decode cX9_tear 26 = .ok (.getfield 53, 3) := by decide +kernel
theorem dX9_tear_29 : decode cX9_tear 29 = .ok (.getfield 173, 3) := by decide +kernel
theorem dX9_tear_32 : decode cX9_tear 32 = .ok (.ireturn, 1) := by decide +kernel
theorem dX9_give_0 : decode cX9_give 0 = .ok (.aload_n 0, 1) := by decide +kernel
theorem dX9_give_1 : decode cX9_give 1 = .ok (.iload_n 1, 1) := by decide +kernel
theorem dX9_give_2 : decode cX9_give 2 = .ok (.invokevirtual 218, 3) := by decide +kernel
theorem dX9_give_5 : decode cX9_give 5 = .ok (.ifCond .eq 5, 3) := by decide +kernel
theorem dX9_give_8 : decode cX9_give 8 = .ok (.iconst (-1), 1) := by decide +kernel
theorem dX9_give_9 : decode cX9_give 9 = .ok (.ireturn, 1) := by decide +kernel
theorem dX9_give_10 : decode cX9_give 10 = .ok (.aload_n 0, 1) := by decide +kernel
theorem dX9_give_11 : decode cX9_give 11 = .ok (.getfield 60, 3) := by decide +kernel
theorem dX9_give_14 : decode cX9_give 14 = .ok (.iload_n 1, 1) := by decide +kernel
theorem dX9_give_15 : decode cX9_give 15 = .ok (.aaload, 1) := by decide +kernel
theorem dX9_give_16 : decode cX9_give 16 = .ok (.aload_n 0, 1) := by decide +kernel
theorem dX9_give_17 : decode cX9_give 17 = .ok (.getfield 53, 3) := by decide +kernel
theorem dX9_give_20 : decode cX9_give 20 = .ok (.invokevirtual 221, 3) := by decide +kernel
theorem dX9_give_23 : decode cX9_give 23 = .ok (.aload_n 0, 1) := by decide +kernel
theorem dX9_give_24 : decode cX9_give 24 = .ok (.getfield 53, 3) := by decide +kernel
theorem dX9_give_27 : decode cX9_give 27 = .ok (.getfield 173, 3) := by decide +kernel
theorem dX9_give_30 : decode cX9_give 30 = .ok (.ireturn, 1) := by decide +kernel
theorem dX9_kept_0 : decode cX9_kept 0 = .ok (.aload_n 0, 1) := by decide +kernel
theorem dX9_kept_1 : decode cX9_kept 1 = .ok (.iload_n 1, 1) := by decide +kernel
theorem dX9_kept_2 : decode cX9_kept 2 = .ok (.invokevirtual 218, 3) := by decide +kernel
theorem dX9_kept_5 : decode cX9_kept 5 = .ok (.ifCond .ne 12, 3) := by decide +kernel
theorem dX9_kept_8 : decode cX9_kept 8 = .ok (.iload_n 2, 1) := by decide +kernel
theorem dX9_kept_9 : decode cX9_kept 9 = .ok (.bipush 47, 2) := by decide +kernel
theorem dX9_kept_11 : decode cX9_kept 11 = .ok (.invokestatic 120, 3) := by decide +kernel
theorem dX9_kept_14 : decode cX9_kept 14 = .ok (.ifCond .eq 5, 3) := by decide +kernel
theorem dX9_kept_17 : decode cX9_kept 17 = .ok (.iconst (-1), 1) := by decide +kernel
theorem dX9_kept_18 : decode cX9_kept 18 = .ok (.ireturn, 1) := by decide +kernel
theorem dX9_kept_19 : decode cX9_kept 19 = .ok (.iload_n 2, 1) := by decide +kernel
theorem dX9_kept_20 : decode cX9_kept 20 = .ok (.aload_n 0, 1) := by decide +kernel
theorem dX9_kept_21 : decode cX9_kept 21 = .ok (.getfield 60, 3) := by decide +kernel
theorem dX9_kept_24 : decode cX9_kept 24 = .ok (.iload_n 1, 1) := by decide +kernel
theorem dX9_kept_25 : decode cX9_kept 25 = .ok (.aaload, 1) := by decide +kernel
theorem dX9_kept_26 : decode cX9_kept 26 = .ok (.getfield 225, 3) := by decide +kernel
theorem dX9_kept_29 : decode cX9_kept 29 = .ok (.if_icmp .ge 17, 3) := by decide +kernel
theorem dX9_kept_32 : decode cX9_kept 32 = .ok (.aload_n 0, 1) := by decide +kernel
theorem dX9_kept_33 : decode cX9_kept 33 = .ok (.getfield 60, 3) := by decide +kernel
theorem dX9_kept_36 : decode cX9_kept 36 = .ok (.iload_n 1, 1) := by decide +kernel
theorem dX9_kept_37 : decode cX9_kept 37 = .ok (.aaload, 1) := by decide +kernel
theorem dX9_kept_38 : decode cX9_kept 38 = .ok (.getfield 226, 3) := by decide +kernel
theorem dX9_kept_41 : decode cX9_kept 41 = .ok (.iload_n 2, 1) := by decide +kernel
theorem dX9_kept_42 : decode cX9_kept 42 = .ok (.iaload, 1) := by decide +kernel
theorem dX9_kept_43 : decode cX9_kept 43 = .ok (.goto 5, 3) := by decide +kernel
theorem dX9_kept_46 : decode cX9_kept 46 = .ok (.bipush (-4), 2) := by decide +kernel
theorem dX9_kept_48 : decode cX9_kept 48 = .ok (.ireturn, 1) := by decide +kernel
theorem dX9_torn_0 : decode cX9_torn 0 = .ok (.aload_n 0, 1) := by decide +kernel
theorem dX9_torn_1 : decode cX9_torn 1 = .ok (.invokevirtual 201, 3) := by decide +kernel
theorem dX9_torn_4 : decode cX9_torn 4 = .ok (.istore_n 1, 1) := by decide +kernel
theorem dX9_torn_5 : decode cX9_torn 5 = .ok (.iload_n 1, 1) := by decide +kernel
theorem dX9_torn_6 : decode cX9_torn 6 = .ok (.ifCond .ne 6, 3) := by decide +kernel
theorem dX9_torn_9 : decode cX9_torn 9 = .ok (.bipush (-2), 2) := by decide +kernel
theorem dX9_torn_11 : decode cX9_torn 11 = .ok (.ireturn, 1) := by decide +kernel
theorem dX9_torn_12 : decode cX9_torn 12 = .ok (.iconst 0, 1) := by decide +kernel
theorem dX9_torn_13 : decode cX9_torn 13 = .ok (.istore_n 2, 1) := by decide +kernel
theorem dX9_torn_14 : decode cX9_torn 14 = .ok (.iload_n 2, 1) := by decide +kernel
theorem dX9_torn_15 : decode cX9_torn 15 = .ok (.aload_n 0, 1) := by decide +kernel
theorem dX9_torn_16 : decode cX9_torn 16 = .ok (.getfield 53, 3) := by decide +kernel
theorem dX9_torn_19 : decode cX9_torn 19 = .ok (.getfield 173, 3) := by decide +kernel
theorem dX9_torn_22 : decode cX9_torn 22 = .ok (.if_icmp .ge 20, 3) := by decide +kernel
theorem dX9_torn_25 : decode cX9_torn 25 = .ok (.aload_n 0, 1) := by decide +kernel
theorem dX9_torn_26 : decode cX9_torn 26 = .ok (.iload_n 2, 1) := by decide +kernel
theorem dX9_torn_27 : decode cX9_torn 27 = .ok (.iload_n 1, 1) := by decide +kernel
theorem dX9_torn_28 : decode cX9_torn 28 = .ok (.invokevirtual 205, 3) := by decide +kernel
theorem dX9_torn_31 : decode cX9_torn 31 = .ok (.ifCond .ne 5, 3) := by decide +kernel
theorem dX9_torn_34 : decode cX9_torn 34 = .ok (.iload_n 2, 1) := by decide +kernel
theorem dX9_torn_35 : decode cX9_torn 35 = .ok (.ireturn, 1) := by decide +kernel
theorem dX9_torn_36 : decode cX9_torn 36 = .ok (.iinc 2 1, 3) := by decide +kernel
theorem dX9_torn_39 : decode cX9_torn 39 = .ok (.goto (-25), 3) := by decide +kernel
theorem dX9_torn_42 : decode cX9_torn 42 = .ok (.bipush (-4), 2) := by decide +kernel
theorem dX9_torn_44 : decode cX9_torn 44 = .ok (.ireturn, 1) := by decide +kernel
theorem dX9_differs_0 : decode cX9_differs 0 = .ok (.aload_n 0, 1) := by decide +kernel
theorem dX9_differs_1 : decode cX9_differs 1 = .ok (.getfield 46, 3) := by decide +kernel
theorem dX9_differs_4 : decode cX9_differs 4 = .ok (.aload_n 0, 1) := by decide +kernel
theorem dX9_differs_5 : decode cX9_differs 5 = .ok (.getfield 39, 3) := by decide +kernel
theorem dX9_differs_8 : decode cX9_differs 8 = .ok (.invokevirtual 229, 3) := by decide +kernel
theorem dX9_differs_11 : decode cX9_differs 11 = .ok (.aload_n 0, 1) := by decide +kernel
theorem dX9_differs_12 : decode cX9_differs 12 = .ok (.invokevirtual 233, 3) := by decide +kernel
theorem dX9_differs_15 : decode cX9_differs 15 = .ok (.aload_n 0, 1) := by decide +kernel
theorem dX9_differs_16 : decode cX9_differs 16 = .ok (.getfield 46, 3) := by decide +kernel
theorem dX9_differs_19 : decode cX9_differs 19 = .ok (.aload_n 0, 1) := by decide +kernel
theorem dX9_differs_20 : decode cX9_differs 20 = .ok (.getfield 28, 3) := by decide +kernel
theorem dX9_differs_23 : decode cX9_differs 23 = .ok (.iconst 0, 1) := by decide +kernel
theorem dX9_differs_24 : decode cX9_differs 24 = .ok (.aaload, 1) := by decide +kernel
theorem dX9_differs_25 : decode cX9_differs 25 = .ok (.sipush 255, 3) := by decide +kernel
theorem dX9_differs_28 : decode cX9_differs 28 = .ok (.aload_n 0, 1) := by decide +kernel
theorem dX9_differs_29 : decode cX9_differs 29 = .ok (.getfield 39, 3) := by decide +kernel
theorem dX9_differs_32 : decode cX9_differs 32 = .ok (.getfield 133, 3) := by decide +kernel
theorem dX9_differs_35 : decode cX9_differs 35 = .ok (.invokevirtual 236, 3) := by decide +kernel
theorem dX9_differs_38 : decode cX9_differs 38 = .ok (.iconst 0, 1) := by decide +kernel
theorem dX9_differs_39 : decode cX9_differs 39 = .ok (.istore_n 1, 1) := by decide +kernel
theorem dX9_differs_40 : decode cX9_differs 40 = .ok (.iload_n 1, 1) := by decide +kernel
theorem dX9_differs_41 : decode cX9_differs 41 = .ok (.aload_n 0, 1) := by decide +kernel
theorem dX9_differs_42 : decode cX9_differs 42 = .ok (.getfield 53, 3) := by decide +kernel
theorem dX9_differs_45 : decode cX9_differs 45 = .ok (.getfield 173, 3) := by decide +kernel
theorem dX9_differs_48 : decode cX9_differs 48 = .ok (.if_icmp .ge 64, 3) := by decide +kernel
theorem dX9_differs_51 : decode cX9_differs 51 = .ok (.aload_n 0, 1) := by decide +kernel
theorem dX9_differs_52 : decode cX9_differs 52 = .ok (.getfield 53, 3) := by decide +kernel
theorem dX9_differs_55 : decode cX9_differs 55 = .ok (.getfield 198, 3) := by decide +kernel
theorem dX9_differs_58 : decode cX9_differs 58 = .ok (.iconst 1, 1) := by decide +kernel
theorem dX9_differs_59 : decode cX9_differs 59 = .ok (.aaload, 1) := by decide +kernel
theorem dX9_differs_60 : decode cX9_differs 60 = .ok (.iload_n 1, 1) := by decide +kernel
theorem dX9_differs_61 : decode cX9_differs 61 = .ok (.iaload, 1) := by decide +kernel
theorem dX9_differs_62 : decode cX9_differs 62 = .ok (.istore_n 2, 1) := by decide +kernel
theorem dX9_differs_63 : decode cX9_differs 63 = .ok (.iload_n 2, 1) := by decide +kernel
theorem dX9_differs_64 : decode cX9_differs 64 = .ok (.aload_n 0, 1) := by decide +kernel
theorem dX9_differs_65 : decode cX9_differs 65 = .ok (.getfield 39, 3) := by decide +kernel
theorem dX9_differs_68 : decode cX9_differs 68 = .ok (.getfield 133, 3) := by decide +kernel
theorem dX9_differs_71 : decode cX9_differs 71 = .ok (.if_icmp .ge 35, 3) := by decide +kernel
theorem dX9_differs_74 : decode cX9_differs 74 = .ok (.aload_n 0, 1) := by decide +kernel
theorem dX9_differs_75 : decode cX9_differs 75 = .ok (.aload_n 0, 1) := by decide +kernel
theorem dX9_differs_76 : decode cX9_differs 76 = .ok (.getfield 53, 3) := by decide +kernel
theorem dX9_differs_79 : decode cX9_differs 79 = .ok (.getfield 198, 3) := by decide +kernel
theorem dX9_differs_82 : decode cX9_differs 82 = .ok (.iconst 0, 1) := by decide +kernel
theorem dX9_differs_83 : decode cX9_differs 83 = .ok (.aaload, 1) := by decide +kernel
theorem dX9_differs_84 : decode cX9_differs 84 = .ok (.iload_n 1, 1) := by decide +kernel
theorem dX9_differs_85 : decode cX9_differs 85 = .ok (.iaload, 1) := by decide +kernel
theorem dX9_differs_86 : decode cX9_differs 86 = .ok (.iload_n 2, 1) := by decide +kernel
theorem dX9_differs_87 : decode cX9_differs 87 = .ok (.aload_n 0, 1) := by decide +kernel
theorem dX9_differs_88 : decode cX9_differs 88 = .ok (.getfield 53, 3) := by decide +kernel
theorem dX9_differs_91 : decode cX9_differs 91 = .ok (.getfield 198, 3) := by decide +kernel
theorem dX9_differs_94 : decode cX9_differs 94 = .ok (.iconst 2, 1) := by decide +kernel
theorem dX9_differs_95 : decode cX9_differs 95 = .ok (.aaload, 1) := by decide +kernel
theorem dX9_differs_96 : decode cX9_differs 96 = .ok (.iload_n 1, 1) := by decide +kernel
theorem dX9_differs_97 : decode cX9_differs 97 = .ok (.iaload, 1) := by decide +kernel
theorem dX9_differs_98 : decode cX9_differs 98 = .ok (.invokevirtual 240, 3) := by decide +kernel
theorem dX9_differs_101 : decode cX9_differs 101 = .ok (.ifCond .eq 5, 3) := by decide +kernel
theorem dX9_differs_104 : decode cX9_differs 104 = .ok (.iload_n 1, 1) := by decide +kernel
theorem dX9_differs_105 : decode cX9_differs 105 = .ok (.ireturn, 1) := by decide +kernel
theorem dX9_differs_106 : decode cX9_differs 106 = .ok (.iinc 1 1, 3) := by decide +kernel
theorem dX9_differs_109 : decode cX9_differs 109 = .ok (.goto (-69), 3) := by decide +kernel
theorem dX9_differs_112 : decode cX9_differs 112 = .ok (.bipush (-4), 2) := by decide +kernel
theorem dX9_differs_114 : decode cX9_differs 114 = .ok (.ireturn, 1) := by decide +kernel
theorem dX9_count_0 : decode cX9_count 0 = .ok (.iload_n 1, 1) := by decide +kernel
theorem dX9_count_1 : decode cX9_count 1 = .ok (.tableswitch 91 0 5 #[39, 47, 57, 67, 75, 83], 39) := by decide +kernel
theorem dX9_count_40 : decode cX9_count 40 = .ok (.aload_n 0, 1) := by decide +kernel
theorem dX9_count_41 : decode cX9_count 41 = .ok (.getfield 39, 3) := by decide +kernel
theorem dX9_count_44 : decode cX9_count 44 = .ok (.getfield 133, 3) := by decide +kernel
theorem dX9_count_47 : decode cX9_count 47 = .ok (.ireturn, 1) := by decide +kernel
theorem dX9_count_48 : decode cX9_count 48 = .ok (.aload_n 0, 1) := by decide +kernel
theorem dX9_count_49 : decode cX9_count 49 = .ok (.getfield 28, 3) := by decide +kernel
theorem dX9_count_52 : decode cX9_count 52 = .ok (.iconst 0, 1) := by decide +kernel
theorem dX9_count_53 : decode cX9_count 53 = .ok (.aaload, 1) := by decide +kernel
theorem dX9_count_54 : decode cX9_count 54 = .ok (.getfield 119, 3) := by decide +kernel
theorem dX9_count_57 : decode cX9_count 57 = .ok (.ireturn, 1) := by decide +kernel
theorem dX9_count_58 : decode cX9_count 58 = .ok (.aload_n 0, 1) := by decide +kernel
theorem dX9_count_59 : decode cX9_count 59 = .ok (.getfield 28, 3) := by decide +kernel
theorem dX9_count_62 : decode cX9_count 62 = .ok (.iconst 1, 1) := by decide +kernel
theorem dX9_count_63 : decode cX9_count 63 = .ok (.aaload, 1) := by decide +kernel
theorem dX9_count_64 : decode cX9_count 64 = .ok (.getfield 119, 3) := by decide +kernel
theorem dX9_count_67 : decode cX9_count 67 = .ok (.ireturn, 1) := by decide +kernel
theorem dX9_count_68 : decode cX9_count 68 = .ok (.aload_n 0, 1) := by decide +kernel
theorem dX9_count_69 : decode cX9_count 69 = .ok (.getfield 53, 3) := by decide +kernel
theorem dX9_count_72 : decode cX9_count 72 = .ok (.getfield 173, 3) := by decide +kernel
theorem dX9_count_75 : decode cX9_count 75 = .ok (.ireturn, 1) := by decide +kernel
theorem dX9_count_76 : decode cX9_count 76 = .ok (.aload_n 0, 1) := by decide +kernel
theorem dX9_count_77 : decode cX9_count 77 = .ok (.getfield 53, 3) := by decide +kernel
theorem dX9_count_80 : decode cX9_count 80 = .ok (.invokevirtual 244, 3) := by decide +kernel
theorem dX9_count_83 : decode cX9_count 83 = .ok (.ireturn, 1) := by decide +kernel
theorem dX9_count_84 : decode cX9_count 84 = .ok (.aload_n 0, 1) := by decide +kernel
theorem dX9_count_85 : decode cX9_count 85 = .ok (.getfield 67, 3) := by decide +kernel
theorem dX9_count_88 : decode cX9_count 88 = .ok (.getfield 247, 3) := by decide +kernel
theorem dX9_count_91 : decode cX9_count 91 = .ok (.ireturn, 1) := by decide +kernel
theorem dX9_count_92 : decode cX9_count 92 = .ok (.iconst (-1), 1) := by decide +kernel
theorem dX9_count_93 : decode cX9_count 93 = .ok (.ireturn, 1) := by decide +kernel
theorem dX9_doing_0 : decode cX9_doing 0 = .ok (.iload_n 1, 1) := by decide +kernel
theorem dX9_doing_1 : decode cX9_doing 1 = .ok (.iconst 3, 1) := by decide +kernel
theorem dX9_doing_2 : decode cX9_doing 2 = .ok (.invokestatic 120, 3) := by decide +kernel
theorem dX9_doing_5 : decode cX9_doing 5 = .ok (.ifCond .ne 11, 3) := by decide +kernel
theorem dX9_doing_8 : decode cX9_doing 8 = .ok (.aload_n 0, 1) := by decide +kernel
theorem dX9_doing_9 : decode cX9_doing 9 = .ok (.iload_n 2, 1) := by decide +kernel
theorem dX9_doing_10 : decode cX9_doing 10 = .ok (.invokevirtual 137, 3) := by decide +kernel
theorem dX9_doing_13 : decode cX9_doing 13 = .ok (.ifCond .eq 5, 3) := by decide +kernel
theorem dX9_doing_16 : decode cX9_doing 16 = .ok (.iconst (-1), 1) := by decide +kernel
theorem dX9_doing_17 : decode cX9_doing 17 = .ok (.ireturn, 1) := by decide +kernel
theorem dX9_doing_18 : decode cX9_doing 18 = .ok (.aload_n 0, 1) := by decide +kernel
theorem dX9_doing_19 : decode cX9_doing 19 = .ok (.iload_n 1, 1) := by decide +kernel
theorem dX9_doing_20 : decode cX9_doing 20 = .ok (.putfield 93, 3) := by decide +kernel
theorem dX9_doing_23 : decode cX9_doing 23 = .ok (.aload_n 0, 1) := by decide +kernel
theorem dX9_doing_24 : decode cX9_doing 24 = .ok (.iload_n 2, 1) := by decide +kernel
theorem dX9_doing_25 : decode cX9_doing 25 = .ok (.putfield 97, 3) := by decide +kernel
theorem dX9_doing_28 : decode cX9_doing 28 = .ok (.aload_n 0, 1) := by decide +kernel
theorem dX9_doing_29 : decode cX9_doing 29 = .ok (.iconst 0, 1) := by decide +kernel
theorem dX9_doing_30 : decode cX9_doing 30 = .ok (.invokevirtual 248, 3) := by decide +kernel
theorem dX9_doing_33 : decode cX9_doing 33 = .ok (.ifCond .eq 7, 3) := by decide +kernel
theorem dX9_doing_36 : decode cX9_doing 36 = .ok (.iconst 1, 1) := by decide +kernel
theorem dX9_doing_37 : decode cX9_doing 37 = .ok (.goto 4, 3) := by decide +kernel
theorem dX9_doing_40 : decode cX9_doing 40 = .ok (.iconst 0, 1) := by decide +kernel
theorem dX9_doing_41 : decode cX9_doing 41 = .ok (.ireturn, 1) := by decide +kernel
theorem dX9_thing_0 : decode cX9_thing 0 = .ok (.iload_n 1, 1) := by decide +kernel
theorem dX9_thing_1 : decode cX9_thing 1 = .ok (.iconst 2, 1) := by decide +kernel
theorem dX9_thing_2 : decode cX9_thing 2 = .ok (.invokestatic 120, 3) := by decide +kernel
theorem dX9_thing_5 : decode cX9_thing 5 = .ok (.ifCond .ne 32, 3) := by decide +kernel
theorem dX9_thing_8 : decode cX9_thing 8 = .ok (.iload_n 2, 1) := by decide +kernel
theorem dX9_thing_9 : decode cX9_thing 9 = .ok (.iload_n 1, 1) := by decide +kernel
theorem dX9_thing_10 : decode cX9_thing 10 = .ok (.iconst 2, 1) := by decide +kernel
theorem dX9_thing_11 : decode cX9_thing 11 = .ok (.if_icmp .ne 7, 3) := by decide +kernel
theorem dX9_thing_14 : decode cX9_thing 14 = .ok (.iconst 0, 1) := by decide +kernel
theorem dX9_thing_15 : decode cX9_thing 15 = .ok (.goto 5, 3) := by decide +kernel
theorem dX9_thing_18 : decode cX9_thing 18 = .ok (.bipush 11, 2) := by decide +kernel
theorem dX9_thing_20 : decode cX9_thing 20 = .ok (.invokestatic 120, 3) := by decide +kernel
theorem dX9_thing_23 : decode cX9_thing 23 = .ok (.ifCond .ne 14, 3) := by decide +kernel
theorem dX9_thing_26 : decode cX9_thing 26 = .ok (.iload_n 3, 1) := by decide +kernel
theorem dX9_thing_27 : decode cX9_thing 27 = .ok (.iload_n 1, 1) := by decide +kernel
theorem dX9_thing_28 : decode cX9_thing 28 = .ok (.invokestatic 251, 3) := by decide +kernel
theorem dX9_thing_31 : decode cX9_thing 31 = .ok (.invokestatic 120, 3) := by decide +kernel
theorem dX9_thing_34 : decode cX9_thing 34 = .ok (.ifCond .eq 5, 3) := by decide +kernel
theorem dX9_thing_37 : decode cX9_thing 37 = .ok (.iconst (-1), 1) := by decide +kernel
theorem dX9_thing_38 : decode cX9_thing 38 = .ok (.ireturn, 1) := by decide +kernel
theorem dX9_thing_39 : decode cX9_thing 39 = .ok (.aload_n 0, 1) := by decide +kernel
theorem dX9_thing_40 : decode cX9_thing 40 = .ok (.getfield 67, 3) := by decide +kernel
theorem dX9_thing_43 : decode cX9_thing 43 = .ok (.iload_n 1, 1) := by decide +kernel
theorem dX9_thing_44 : decode cX9_thing 44 = .ok (.iload_n 2, 1) := by decide +kernel
theorem dX9_thing_45 : decode cX9_thing 45 = .ok (.iload_n 3, 1) := by decide +kernel
theorem dX9_thing_46 : decode cX9_thing 46 = .ok (.invokevirtual 255, 3) := by decide +kernel
theorem dX9_thing_49 : decode cX9_thing 49 = .ok (.ifCond .eq 6, 3) := by decide +kernel
theorem dX9_thing_52 : decode cX9_thing 52 = .ok (.bipush (-2), 2) := by decide +kernel
theorem dX9_thing_54 : decode cX9_thing 54 = .ok (.ireturn, 1) := by decide +kernel
theorem dX9_thing_55 : decode cX9_thing 55 = .ok (.aload_n 0, 1) := by decide +kernel
theorem dX9_thing_56 : decode cX9_thing 56 = .ok (.getfield 67, 3) := by decide +kernel
theorem dX9_thing_59 : decode cX9_thing 59 = .ok (.getfield 247, 3) := by decide +kernel
theorem dX9_thing_62 : decode cX9_thing 62 = .ok (.bipush 6, 2) := by decide +kernel
theorem dX9_thing_64 : decode cX9_thing 64 = .ok (.if_icmp .lt 6, 3) := by decide +kernel
theorem dX9_thing_67 : decode cX9_thing 67 = .ok (.bipush (-3), 2) := by decide +kernel
theorem dX9_thing_69 : decode cX9_thing 69 = .ok (.ireturn, 1) := by decide +kernel
theorem dX9_thing_70 : decode cX9_thing 70 = .ok (.aload_n 0, 1) := by decide +kernel
theorem dX9_thing_71 : decode cX9_thing 71 = .ok (.getfield 67, 3) := by decide +kernel
theorem dX9_thing_74 : decode cX9_thing 74 = .ok (.iload_n 1, 1) := by decide +kernel
theorem dX9_thing_75 : decode cX9_thing 75 = .ok (.iload_n 2, 1) := by decide +kernel
theorem dX9_thing_76 : decode cX9_thing 76 = .ok (.iload_n 3, 1) := by decide +kernel
theorem dX9_thing_77 : decode cX9_thing 77 = .ok (.invokevirtual 258, 3) := by decide +kernel
theorem dX9_thing_80 : decode cX9_thing 80 = .ok (.aload_n 0, 1) := by decide +kernel
theorem dX9_thing_81 : decode cX9_thing 81 = .ok (.getfield 67, 3) := by decide +kernel
theorem dX9_thing_84 : decode cX9_thing 84 = .ok (.getfield 247, 3) := by decide +kernel
theorem dX9_thing_87 : decode cX9_thing 87 = .ok (.iconst 1, 1) := by decide +kernel
theorem dX9_thing_88 : decode cX9_thing 88 = .ok (.isub, 1) := by decide +kernel
theorem dX9_thing_89 : decode cX9_thing 89 = .ok (.ireturn, 1) := by decide +kernel
theorem dX9_clear_0 : decode cX9_clear 0 = .ok (.aload_n 0, 1) := by decide +kernel
theorem dX9_clear_1 : decode cX9_clear 1 = .ok (.getfield 67, 3) := by decide +kernel
theorem dX9_clear_4 : decode cX9_clear 4 = .ok (.getfield 247, 3) := by decide +kernel
theorem dX9_clear_7 : decode cX9_clear 7 = .ok (.istore_n 1, 1) := by decide +kernel
theorem dX9_clear_8 : decode cX9_clear 8 = .ok (.aload_n 0, 1) := by decide +kernel
theorem dX9_clear_9 : decode cX9_clear 9 = .ok (.getfield 67, 3) := by decide +kernel
theorem dX9_clear_12 : decode cX9_clear 12 = .ok (.iconst 0, 1) := by decide +kernel
theorem dX9_clear_13 : decode cX9_clear 13 = .ok (.putfield 247, 3) := by decide +kernel
theorem dX9_clear_16 : decode cX9_clear 16 = .ok (.iload_n 1, 1) := by decide +kernel
theorem dX9_clear_17 : decode cX9_clear 17 = .ok (.ireturn, 1) := by decide +kernel
theorem dX9_otherwise_0 : decode cX9_otherwise 0 = .ok (.iload_n 1, 1) := by decide +kernel
theorem dX9_otherwise_1 : decode cX9_otherwise 1 = .ok (.aload_n 0, 1) := by decide +kernel
theorem dX9_otherwise_2 : decode cX9_otherwise 2 = .ok (.getfield 67, 3) := by decide +kernel
theorem dX9_otherwise_5 : decode cX9_otherwise 5 = .ok (.invokevirtual 259, 3) := by decide +kernel
theorem dX9_otherwise_8 : decode cX9_otherwise 8 = .ok (.invokestatic 120, 3) := by decide +kernel
theorem dX9_otherwise_11 : decode cX9_otherwise 11 = .ok (.ifCond .eq 5, 3) := by decide +kernel
theorem dX9_otherwise_14 : decode cX9_otherwise 14 = .ok (.iconst (-1), 1) := by decide +kernel
theorem dX9_otherwise_15 : decode cX9_otherwise 15 = .ok (.ireturn, 1) := by decide +kernel
theorem dX9_otherwise_16 : decode cX9_otherwise 16 = .ok (.aload_n 0, 1) := by decide +kernel
theorem dX9_otherwise_17 : decode cX9_otherwise 17 = .ok (.invokevirtual 262, 3) := by decide +kernel
theorem dX9_otherwise_20 : decode cX9_otherwise 20 = .ok (.ifCond .eq 6, 3) := by decide +kernel
theorem dX9_otherwise_23 : decode cX9_otherwise 23 = .ok (.bipush (-2), 2) := by decide +kernel
theorem dX9_otherwise_25 : decode cX9_otherwise 25 = .ok (.ireturn, 1) := by decide +kernel
theorem dX9_otherwise_26 : decode cX9_otherwise 26 = .ok (.aload_n 0, 1) := by decide +kernel
theorem dX9_otherwise_27 : decode cX9_otherwise 27 = .ok (.iload_n 1, 1) := by decide +kernel
theorem dX9_otherwise_28 : decode cX9_otherwise 28 = .ok (.invokevirtual 248, 3) := by decide +kernel
theorem dX9_otherwise_31 : decode cX9_otherwise 31 = .ok (.ifCond .eq 7, 3) := by decide +kernel
theorem dX9_otherwise_34 : decode cX9_otherwise 34 = .ok (.iconst 1, 1) := by decide +kernel
theorem dX9_otherwise_35 : decode cX9_otherwise 35 = .ok (.goto 4, 3) := by decide +kernel
theorem dX9_otherwise_38 : decode cX9_otherwise 38 = .ok (.iconst 0, 1) := by decide +kernel
theorem dX9_otherwise_39 : decode cX9_otherwise 39 = .ok (.ireturn, 1) := by decide +kernel
theorem dX9_because_0 : decode cX9_because 0 = .ok (.aload_n 0, 1) := by decide +kernel
theorem dX9_because_1 : decode cX9_because 1 = .ok (.invokevirtual 262, 3) := by decide +kernel
theorem dX9_because_4 : decode cX9_because 4 = .ok (.ifCond .eq 8, 3) := by decide +kernel
theorem dX9_because_7 : decode cX9_because 7 = .ok (.bipush (-2), 2) := by decide +kernel
theorem dX9_because_9 : decode cX9_because 9 = .ok (.goto 8, 3) := by decide +kernel
theorem dX9_because_12 : decode cX9_because 12 = .ok (.aload_n 0, 1) := by decide +kernel
theorem dX9_because_13 : decode cX9_because 13 = .ok (.iconst 0, 1) := by decide +kernel
theorem dX9_because_14 : decode cX9_because 14 = .ok (.invokevirtual 266, 3) := by decide +kernel
theorem dX9_because_17 : decode cX9_because 17 = .ok (.ireturn, 1) := by decide +kernel
theorem dX9_enough_0 : decode cX9_enough 0 = .ok (.aload_n 0, 1) := by decide +kernel
theorem dX9_enough_1 : decode cX9_enough 1 = .ok (.invokevirtual 262, 3) := by decide +kernel
theorem dX9_enough_4 : decode cX9_enough 4 = .ok (.ifCond .eq 8, 3) := by decide +kernel
theorem dX9_enough_7 : decode cX9_enough 7 = .ok (.bipush (-2), 2) := by decide +kernel
theorem dX9_enough_9 : decode cX9_enough 9 = .ok (.goto 8, 3) := by decide +kernel
theorem dX9_enough_12 : decode cX9_enough 12 = .ok (.aload_n 0, 1) := by decide +kernel
theorem dX9_enough_13 : decode cX9_enough 13 = .ok (.iconst 1, 1) := by decide +kernel
theorem dX9_enough_14 : decode cX9_enough 14 = .ok (.invokevirtual 266, 3) := by decide +kernel
theorem dX9_enough_17 : decode cX9_enough 17 = .ok (.ireturn, 1) := by decide +kernel
theorem dX9_sets_0 : decode cX9_sets 0 = .ok (.iload_n 1, 1) := by decide +kernel
theorem dX9_sets_1 : decode cX9_sets 1 = .ok (.iconst 1, 1) := by decide +kernel
theorem dX9_sets_2 : decode cX9_sets 2 = .ok (.invokestatic 120, 3) := by decide +kernel
theorem dX9_sets_5 : decode cX9_sets 5 = .ok (.ifCond .eq 5, 3) := by decide +kernel
theorem dX9_sets_8 : decode cX9_sets 8 = .ok (.iconst (-1), 1) := by decide +kernel
theorem dX9_sets_9 : decode cX9_sets 9 = .ok (.ireturn, 1) := by decide +kernel
theorem dX9_sets_10 : decode cX9_sets 10 = .ok (.aload_n 0, 1) := by decide +kernel
theorem dX9_sets_11 : decode cX9_sets 11 = .ok (.invokevirtual 262, 3) := by decide +kernel
theorem dX9_sets_14 : decode cX9_sets 14 = .ok (.ifCond .eq 6, 3) := by decide +kernel
theorem dX9_sets_17 : decode cX9_sets 17 = .ok (.bipush (-2), 2) := by decide +kernel
theorem dX9_sets_19 : decode cX9_sets 19 = .ok (.ireturn, 1) := by decide +kernel
theorem dX9_sets_20 : decode cX9_sets 20 = .ok (.aload_n 0, 1) := by decide +kernel
theorem dX9_sets_21 : decode cX9_sets 21 = .ok (.invokevirtual 270, 3) := by decide +kernel
theorem dX9_sets_24 : decode cX9_sets 24 = .ok (.iconst 0, 1) := by decide +kernel
theorem dX9_sets_25 : decode cX9_sets 25 = .ok (.istore_n 2, 1) := by decide +kernel
theorem dX9_sets_26 : decode cX9_sets 26 = .ok (.iconst 0, 1) := by decide +kernel
theorem dX9_sets_27 : decode cX9_sets 27 = .ok (.istore_n 3, 1) := by decide +kernel
theorem dX9_sets_28 : decode cX9_sets 28 = .ok (.iload_n 3, 1) := by decide +kernel
theorem dX9_sets_29 : decode cX9_sets 29 = .ok (.aload_n 0, 1) := by decide +kernel
theorem dX9_sets_30 : decode cX9_sets 30 = .ok (.getfield 67, 3) := by decide +kernel
theorem dX9_sets_33 : decode cX9_sets 33 = .ok (.invokevirtual 259, 3) := by decide +kernel
theorem dX9_sets_36 : decode cX9_sets 36 = .ok (.if_icmp .gt 35, 3) := by decide +kernel
theorem dX9_sets_39 : decode cX9_sets 39 = .ok (.iload_n 1, 1) := by decide +kernel
theorem dX9_sets_40 : decode cX9_sets 40 = .ok (.ifCond .ne 14, 3) := by decide +kernel
theorem dX9_sets_43 : decode cX9_sets 43 = .ok (.aload_n 0, 1) := by decide +kernel
theorem dX9_sets_44 : decode cX9_sets 44 = .ok (.iload_n 3, 1) := by decide +kernel
theorem dX9_sets_45 : decode cX9_sets 45 = .ok (.invokevirtual 273, 3) := by decide +kernel
theorem dX9_sets_48 : decode cX9_sets 48 = .ok (.ifCond .eq 17, 3) := by decide +kernel
theorem dX9_sets_51 : decode cX9_sets 51 = .ok (.goto 11, 3) := by decide +kernel
theorem dX9_sets_54 : decode cX9_sets 54 = .ok (.aload_n 0, 1) := by decide +kernel
theorem dX9_sets_55 : decode cX9_sets 55 = .ok (.iload_n 3, 1) := by decide +kernel
theorem dX9_sets_56 : decode cX9_sets 56 = .ok (.invokevirtual 276, 3) := by decide +kernel
theorem dX9_sets_59 : decode cX9_sets 59 = .ok (.ifCond .eq 6, 3) := by decide +kernel
theorem dX9_sets_62 : decode cX9_sets 62 = .ok (.iinc 2 1, 3) := by decide +kernel
theorem dX9_sets_65 : decode cX9_sets 65 = .ok (.iinc 3 1, 3) := by decide +kernel
theorem dX9_sets_68 : decode cX9_sets 68 = .ok (.goto (-40), 3) := by decide +kernel
theorem dX9_sets_71 : decode cX9_sets 71 = .ok (.iload_n 2, 1) := by decide +kernel
theorem dX9_sets_72 : decode cX9_sets 72 = .ok (.ireturn, 1) := by decide +kernel
theorem dX9_part_0 : decode cX9_part 0 = .ok (.iload_n 1, 1) := by decide +kernel
theorem dX9_part_1 : decode cX9_part 1 = .ok (.iconst 3, 1) := by decide +kernel
theorem dX9_part_2 : decode cX9_part 2 = .ok (.invokestatic 120, 3) := by decide +kernel
theorem dX9_part_5 : decode cX9_part 5 = .ok (.ifCond .eq 5, 3) := by decide +kernel
theorem dX9_part_8 : decode cX9_part 8 = .ok (.iconst (-1), 1) := by decide +kernel
theorem dX9_part_9 : decode cX9_part 9 = .ok (.ireturn, 1) := by decide +kernel
theorem dX9_part_10 : decode cX9_part 10 = .ok (.aload_n 0, 1) := by decide +kernel
theorem dX9_part_11 : decode cX9_part 11 = .ok (.invokevirtual 262, 3) := by decide +kernel
theorem dX9_part_14 : decode cX9_part 14 = .ok (.ifCond .eq 6, 3) := by decide +kernel
theorem dX9_part_17 : decode cX9_part 17 = .ok (.bipush (-2), 2) := by decide +kernel
theorem dX9_part_19 : decode cX9_part 19 = .ok (.ireturn, 1) := by decide +kernel
theorem dX9_part_20 : decode cX9_part 20 = .ok (.iconst 1, 1) := by decide +kernel
theorem dX9_part_21 : decode cX9_part 21 = .ok (.iload_n 1, 1) := by decide +kernel
theorem dX9_part_22 : decode cX9_part 22 = .ok (.ishl, 1) := by decide +kernel
theorem dX9_part_23 : decode cX9_part 23 = .ok (.istore_n 2, 1) := by decide +kernel
theorem dX9_part_24 : decode cX9_part 24 = .ok (.iconst 0, 1) := by decide +kernel
theorem dX9_part_25 : decode cX9_part 25 = .ok (.istore_n 3, 1) := by decide +kernel
theorem dX9_part_26 : decode cX9_part 26 = .ok (.iconst 0, 1) := by decide +kernel
theorem dX9_part_27 : decode cX9_part 27 = .ok (.istore 4, 2) := by decide +kernel
theorem dX9_part_29 : decode cX9_part 29 = .ok (.iload 4, 2) := by decide +kernel
theorem dX9_part_31 : decode cX9_part 31 = .ok (.bipush 16, 2) := by decide +kernel
theorem dX9_part_33 : decode cX9_part 33 = .ok (.if_icmp .ge 48, 3) := by decide +kernel
theorem dX9_part_36 : decode cX9_part 36 = .ok (.iload 4, 2) := by decide +kernel
theorem dX9_part_38 : decode cX9_part 38 = .ok (.iload_n 2, 1) := by decide +kernel
theorem dX9_part_39 : decode cX9_part 39 = .ok (.iand, 1) := by decide +kernel
theorem dX9_part_40 : decode cX9_part 40 = .ok (.ifCond .ne 35, 3) := by decide +kernel
theorem dX9_part_43 : decode cX9_part 43 = .ok (.aload_n 0, 1) := by decide +kernel
theorem dX9_part_44 : decode cX9_part 44 = .ok (.iload 4, 2) := by decide +kernel
theorem dX9_part_46 : decode cX9_part 46 = .ok (.invokevirtual 279, 3) := by decide +kernel
theorem dX9_part_49 : decode cX9_part 49 = .ok (.ifCond .ne 26, 3) := by decide +kernel
theorem dX9_part_52 : decode cX9_part 52 = .ok (.aload_n 0, 1) := by decide +kernel
theorem dX9_part_53 : decode cX9_part 53 = .ok (.iload 4, 2) := by decide +kernel
theorem dX9_part_55 : decode cX9_part 55 = .ok (.iload_n 2, 1) := by decide +kernel
theorem dX9_part_56 : decode cX9_part 56 = .ok (.ior, 1) := by decide +kernel
theorem dX9_part_57 : decode cX9_part 57 = .ok (.invokevirtual 279, 3) := by decide +kernel
theorem dX9_part_60 : decode cX9_part 60 = .ok (.ifCond .eq 15, 3) := by decide +kernel
theorem dX9_part_63 : decode cX9_part 63 = .ok (.iload_n 3, 1) := by decide +kernel
theorem dX9_part_64 : decode cX9_part 64 = .ok (.getstatic 282, 3) := by decide +kernel
theorem dX9_part_67 : decode cX9_part 67 = .ok (.iload 4, 2) := by decide +kernel
theorem dX9_part_69 : decode cX9_part 69 = .ok (.invokestatic 285, 3) := by decide +kernel
theorem dX9_part_72 : decode cX9_part 72 = .ok (.iaload, 1) := by decide +kernel
theorem dX9_part_73 : decode cX9_part 73 = .ok (.iadd, 1) := by decide +kernel
theorem dX9_part_74 : decode cX9_part 74 = .ok (.istore_n 3, 1) := by decide +kernel
theorem dX9_part_75 : decode cX9_part 75 = .ok (.iinc 4 1, 3) := by decide +kernel
theorem dX9_part_78 : decode cX9_part 78 = .ok (.goto (-49), 3) := by decide +kernel
theorem dX9_part_81 : decode cX9_part 81 = .ok (.iload_n 3, 1) := by decide +kernel
theorem dX9_part_82 : decode cX9_part 82 = .ok (.ireturn, 1) := by decide +kernel
theorem dX9_careful_0 : decode cX9_careful 0 = .ok (.aload_n 0, 1) := by decide +kernel
theorem dX9_careful_1 : decode cX9_careful 1 = .ok (.iload_n 1, 1) := by decide +kernel
theorem dX9_careful_2 : decode cX9_careful 2 = .ok (.invokevirtual 137, 3) := by decide +kernel
theorem dX9_careful_5 : decode cX9_careful 5 = .ok (.ifCond .ne 11, 3) := by decide +kernel
theorem dX9_careful_8 : decode cX9_careful 8 = .ok (.iload_n 2, 1) := by decide +kernel
theorem dX9_careful_9 : decode cX9_careful 9 = .ok (.iconst 1, 1) := by decide +kernel
theorem dX9_careful_10 : decode cX9_careful 10 = .ok (.invokestatic 120, 3) := by decide +kernel
theorem dX9_careful_13 : decode cX9_careful 13 = .ok (.ifCond .eq 5, 3) := by decide +kernel
theorem dX9_careful_16 : decode cX9_careful 16 = .ok (.iconst (-1), 1) := by decide +kernel
theorem dX9_careful_17 : decode cX9_careful 17 = .ok (.ireturn, 1) := by decide +kernel
theorem dX9_careful_18 : decode cX9_careful 18 = .ok (.aload_n 0, 1) := by decide +kernel
theorem dX9_careful_19 : decode cX9_careful 19 = .ok (.getfield 46, 3) := by decide +kernel
theorem dX9_careful_22 : decode cX9_careful 22 = .ok (.aload_n 0, 1) := by decide +kernel
theorem dX9_careful_23 : decode cX9_careful 23 = .ok (.getfield 39, 3) := by decide +kernel
theorem dX9_careful_26 : decode cX9_careful 26 = .ok (.invokevirtual 229, 3) := by decide +kernel
theorem dX9_careful_29 : decode cX9_careful 29 = .ok (.iload_n 2, 1) := by decide +kernel
theorem dX9_careful_30 : decode cX9_careful 30 = .ok (.ifCond .ne 14, 3) := by decide +kernel
theorem dX9_careful_33 : decode cX9_careful 33 = .ok (.aload_n 0, 1) := by decide +kernel
theorem dX9_careful_34 : decode cX9_careful 34 = .ok (.getfield 46, 3) := by decide +kernel
theorem dX9_careful_37 : decode cX9_careful 37 = .ok (.aload_n 0, 1) := by decide +kernel
theorem dX9_careful_38 : decode cX9_careful 38 = .ok (.getfield 39, 3) := by decide +kernel
theorem dX9_careful_41 : decode cX9_careful 41 = .ok (.invokevirtual 290, 3) := by decide +kernel
theorem dX9_careful_44 : decode cX9_careful 44 = .ok (.aload_n 0, 1) := by decide +kernel
theorem dX9_careful_45 : decode cX9_careful 45 = .ok (.getfield 46, 3) := by decide +kernel
theorem dX9_careful_48 : decode cX9_careful 48 = .ok (.aload_n 0, 1) := by decide +kernel
theorem dX9_careful_49 : decode cX9_careful 49 = .ok (.getfield 28, 3) := by decide +kernel
theorem dX9_careful_52 : decode cX9_careful 52 = .ok (.iconst 1, 1) := by decide +kernel
theorem dX9_careful_53 : decode cX9_careful 53 = .ok (.aaload, 1) := by decide +kernel
theorem dX9_careful_54 : decode cX9_careful 54 = .ok (.sipush 255, 3) := by decide +kernel
theorem dX9_careful_57 : decode cX9_careful 57 = .ok (.iload_n 1, 1) := by decide +kernel
theorem dX9_careful_58 : decode cX9_careful 58 = .ok (.iconst 1, 1) := by decide +kernel
theorem dX9_careful_59 : decode cX9_careful 59 = .ok (.iadd, 1) := by decide +kernel
theorem dX9_careful_60 : decode cX9_careful 60 = .ok (.invokevirtual 236, 3) := by decide +kernel
theorem dX9_careful_63 : decode cX9_careful 63 = .ok (.aload_n 0, 1) := by decide +kernel
theorem dX9_careful_64 : decode cX9_careful 64 = .ok (.getfield 46, 3) := by decide +kernel
theorem dX9_careful_67 : decode cX9_careful 67 = .ok (.getfield 169, 3) := by decide +kernel
theorem dX9_careful_70 : decode cX9_careful 70 = .ok (.iload_n 1, 1) := by decide +kernel
theorem dX9_careful_71 : decode cX9_careful 71 = .ok (.iaload, 1) := by decide +kernel
theorem dX9_careful_72 : decode cX9_careful 72 = .ok (.ireturn, 1) := by decide +kernel
theorem dX9_saying_0 : decode cX9_saying 0 = .ok (.iload_n 1, 1) := by decide +kernel
theorem dX9_saying_1 : decode cX9_saying 1 = .ok (.bipush 15, 2) := by decide +kernel
theorem dX9_saying_3 : decode cX9_saying 3 = .ok (.invokestatic 120, 3) := by decide +kernel
theorem dX9_saying_6 : decode cX9_saying 6 = .ok (.ifCond .eq 5, 3) := by decide +kernel
theorem dX9_saying_9 : decode cX9_saying 9 = .ok (.iconst (-1), 1) := by decide +kernel
theorem dX9_saying_10 : decode cX9_saying 10 = .ok (.ireturn, 1) := by decide +kernel
theorem dX9_saying_11 : decode cX9_saying 11 = .ok (.iconst 2, 1) := by decide +kernel
theorem dX9_saying_12 : decode cX9_saying 12 = .ok (.iload_n 1, 1) := by decide +kernel
theorem dX9_saying_13 : decode cX9_saying 13 = .ok (.imul, 1) := by decide +kernel
theorem dX9_saying_14 : decode cX9_saying 14 = .ok (.iload_n 2, 1) := by decide +kernel
theorem dX9_saying_15 : decode cX9_saying 15 = .ok (.ifCond .eq 8, 3) := by decide +kernel
theorem dX9_saying_18 : decode cX9_saying 18 = .ok (.bipush 96, 2) := by decide +kernel
theorem dX9_saying_20 : decode cX9_saying 20 = .ok (.goto 4, 3) := by decide +kernel
theorem dX9_saying_23 : decode cX9_saying 23 = .ok (.iconst 0, 1) := by decide +kernel
theorem dX9_saying_24 : decode cX9_saying 24 = .ok (.iadd, 1) := by decide +kernel
theorem dX9_saying_25 : decode cX9_saying 25 = .ok (.iload_n 3, 1) := by decide +kernel
theorem dX9_saying_26 : decode cX9_saying 26 = .ok (.ifCond .eq 7, 3) := by decide +kernel
theorem dX9_saying_29 : decode cX9_saying 29 = .ok (.iconst 1, 1) := by decide +kernel
theorem dX9_saying_30 : decode cX9_saying 30 = .ok (.goto 4, 3) := by decide +kernel
theorem dX9_saying_33 : decode cX9_saying 33 = .ok (.iconst 0, 1) := by decide +kernel
theorem dX9_saying_34 : decode cX9_saying 34 = .ok (.iadd, 1) := by decide +kernel
theorem dX9_saying_35 : decode cX9_saying 35 = .ok (.istore 4, 2) := by decide +kernel
theorem dX9_saying_37 : decode cX9_saying 37 = .ok (.iconst 0, 1) := by decide +kernel
theorem dX9_saying_38 : decode cX9_saying 38 = .ok (.istore 5, 2) := by decide +kernel
theorem dX9_saying_40 : decode cX9_saying 40 = .ok (.iload 5, 2) := by decide +kernel
theorem dX9_saying_42 : decode cX9_saying 42 = .ok (.sipush 128, 3) := by decide +kernel
theorem dX9_saying_45 : decode cX9_saying 45 = .ok (.if_icmp .ge 46, 3) := by decide +kernel
theorem dX9_saying_48 : decode cX9_saying 48 = .ok (.aload_n 0, 1) := by decide +kernel
theorem dX9_saying_49 : decode cX9_saying 49 = .ok (.getfield 75, 3) := by decide +kernel
theorem dX9_saying_52 : decode cX9_saying 52 = .ok (.iload 5, 2) := by decide +kernel
theorem dX9_saying_54 : decode cX9_saying 54 = .ok (.aload_n 0, 1) := by decide +kernel
theorem dX9_saying_55 : decode cX9_saying 55 = .ok (.getfield 28, 3) := by decide +kernel
theorem dX9_saying_58 : decode cX9_saying 58 = .ok (.iconst 0, 1) := by decide +kernel
theorem dX9_saying_59 : decode cX9_saying 59 = .ok (.aaload, 1) := by decide +kernel
theorem dX9_saying_60 : decode cX9_saying 60 = .ok (.aload_n 0, 1) := by decide +kernel
theorem dX9_saying_61 : decode cX9_saying 61 = .ok (.getfield 28, 3) := by decide +kernel
theorem dX9_saying_64 : decode cX9_saying 64 = .ok (.iconst 0, 1) := by decide +kernel
theorem dX9_saying_65 : decode cX9_saying 65 = .ok (.aaload, 1) := by decide +kernel
theorem dX9_saying_66 : decode cX9_saying 66 = .ok (.sipush 255, 3) := by decide +kernel
theorem dX9_saying_69 : decode cX9_saying 69 = .ok (.iload 5, 2) := by decide +kernel
theorem dX9_saying_71 : decode cX9_saying 71 = .ok (.iconst 5, 1) := by decide +kernel
theorem dX9_saying_72 : decode cX9_saying 72 = .ok (.ishr, 1) := by decide +kernel
theorem dX9_saying_73 : decode cX9_saying 73 = .ok (.iload 5, 2) := by decide +kernel
theorem dX9_saying_75 : decode cX9_saying 75 = .ok (.bipush 31, 2) := by decide +kernel
theorem dX9_saying_77 : decode cX9_saying 77 = .ok (.iand, 1) := by decide +kernel
theorem dX9_saying_78 : decode cX9_saying 78 = .ok (.invokevirtual 170, 3) := by decide +kernel
theorem dX9_saying_81 : decode cX9_saying 81 = .ok (.invokevirtual 293, 3) := by decide +kernel
theorem dX9_saying_84 : decode cX9_saying 84 = .ok (.iastore, 1) := by decide +kernel
theorem dX9_saying_85 : decode cX9_saying 85 = .ok (.iinc 5 1, 3) := by decide +kernel
theorem dX9_saying_88 : decode cX9_saying 88 = .ok (.goto (-48), 3) := by decide +kernel
theorem dX9_saying_91 : decode cX9_saying 91 = .ok (.iconst 0, 1) := by decide +kernel
theorem dX9_saying_92 : decode cX9_saying 92 = .ok (.istore 5, 2) := by decide +kernel
theorem dX9_saying_94 : decode cX9_saying 94 = .ok (.iload 5, 2) := by decide +kernel
theorem dX9_saying_96 : decode cX9_saying 96 = .ok (.sipush 128, 3) := by decide +kernel
theorem dX9_saying_99 : decode cX9_saying 99 = .ok (.if_icmp .ge 67, 3) := by decide +kernel
theorem dX9_saying_102 : decode cX9_saying 102 = .ok (.iload 5, 2) := by decide +kernel
theorem dX9_saying_104 : decode cX9_saying 104 = .ok (.iconst 1, 1) := by decide +kernel
theorem dX9_saying_105 : decode cX9_saying 105 = .ok (.iadd, 1) := by decide +kernel
theorem dX9_saying_106 : decode cX9_saying 106 = .ok (.istore 6, 2) := by decide +kernel
theorem dX9_saying_108 : decode cX9_saying 108 = .ok (.iload 6, 2) := by decide +kernel
theorem dX9_saying_110 : decode cX9_saying 110 = .ok (.sipush 128, 3) := by decide +kernel
theorem dX9_saying_113 : decode cX9_saying 113 = .ok (.if_icmp .ge 47, 3) := by decide +kernel
theorem dX9_saying_116 : decode cX9_saying 116 = .ok (.iload 5, 2) := by decide +kernel
theorem dX9_saying_118 : decode cX9_saying 118 = .ok (.iload 6, 2) := by decide +kernel
theorem dX9_saying_120 : decode cX9_saying 120 = .ok (.ixor, 1) := by decide +kernel
theorem dX9_saying_121 : decode cX9_saying 121 = .ok (.iload 4, 2) := by decide +kernel
theorem dX9_saying_123 : decode cX9_saying 123 = .ok (.iand, 1) := by decide +kernel
theorem dX9_saying_124 : decode cX9_saying 124 = .ok (.ifCond .ne 30, 3) := by decide +kernel
theorem dX9_saying_127 : decode cX9_saying 127 = .ok (.aload_n 0, 1) := by decide +kernel
theorem dX9_saying_128 : decode cX9_saying 128 = .ok (.getfield 75, 3) := by decide +kernel
theorem dX9_saying_131 : decode cX9_saying 131 = .ok (.iload 5, 2) := by decide +kernel
theorem dX9_saying_133 : decode cX9_saying 133 = .ok (.iaload, 1) := by decide +kernel
theorem dX9_saying_134 : decode cX9_saying 134 = .ok (.aload_n 0, 1) := by decide +kernel
theorem dX9_saying_135 : decode cX9_saying 135 = .ok (.getfield 75, 3) := by decide +kernel
theorem dX9_saying_138 : decode cX9_saying 138 = .ok (.iload 6, 2) := by decide +kernel
theorem dX9_saying_140 : decode cX9_saying 140 = .ok (.iaload, 1) := by decide +kernel
theorem dX9_saying_141 : decode cX9_saying 141 = .ok (.if_icmp .eq 13, 3) := by decide +kernel
theorem dX9_saying_144 : decode cX9_saying 144 = .ok (.sipush 128, 3) := by decide +kernel
theorem dX9_saying_147 : decode cX9_saying 147 = .ok (.iload 5, 2) := by decide +kernel
theorem dX9_saying_149 : decode cX9_saying 149 = .ok (.imul, 1) := by decide +kernel
theorem dX9_saying_150 : decode cX9_saying 150 = .ok (.iload 6, 2) := by decide +kernel
theorem dX9_saying_152 : decode cX9_saying 152 = .ok (.iadd, 1) := by decide +kernel
theorem dX9_saying_153 : decode cX9_saying 153 = .ok (.ireturn, 1) := by decide +kernel
theorem dX9_saying_154 : decode cX9_saying 154 = .ok (.iinc 6 1, 3) := by decide +kernel
theorem dX9_saying_157 : decode cX9_saying 157 = .ok (.goto (-49), 3) := by decide +kernel
theorem dX9_saying_160 : decode cX9_saying 160 = .ok (.iinc 5 1, 3) := by decide +kernel
theorem dX9_saying_163 : decode cX9_saying 163 = .ok (.goto (-69), 3) := by decide +kernel
theorem dX9_saying_166 : decode cX9_saying 166 = .ok (.bipush (-4), 2) := by decide +kernel
theorem dX9_saying_168 : decode cX9_saying 168 = .ok (.ireturn, 1) := by decide +kernel
theorem dX9_duty_0 : decode cX9_duty 0 = .ok (.aload_n 0, 1) := by decide +kernel
theorem dX9_duty_1 : decode cX9_duty 1 = .ok (.getfield 21, 3) := by decide +kernel
theorem dX9_duty_4 : decode cX9_duty 4 = .ok (.aload_n 0, 1) := by decide +kernel
theorem dX9_duty_5 : decode cX9_duty 5 = .ok (.getfield 79, 3) := by decide +kernel
theorem dX9_duty_8 : decode cX9_duty 8 = .ok (.invokevirtual 296, 3) := by decide +kernel
theorem dX9_duty_11 : decode cX9_duty 11 = .ok (.istore_n 1, 1) := by decide +kernel
theorem dX9_duty_12 : decode cX9_duty 12 = .ok (.aload_n 0, 1) := by decide +kernel
theorem dX9_duty_13 : decode cX9_duty 13 = .ok (.getfield 10, 3) := by decide +kernel
theorem dX9_duty_16 : decode cX9_duty 16 = .ok (.iconst 0, 1) := by decide +kernel
theorem dX9_duty_17 : decode cX9_duty 17 = .ok (.putfield 104, 3) := by decide +kernel
theorem dX9_duty_20 : decode cX9_duty 20 = .ok (.iload_n 1, 1) := by decide +kernel
theorem dX9_duty_21 : decode cX9_duty 21 = .ok (.ifCond .ge 5, 3) := by decide +kernel
theorem dX9_duty_24 : decode cX9_duty 24 = .ok (.iload_n 1, 1) := by decide +kernel
theorem dX9_duty_25 : decode cX9_duty 25 = .ok (.ireturn, 1) := by decide +kernel
theorem dX9_duty_26 : decode cX9_duty 26 = .ok (.aload_n 0, 1) := by decide +kernel
theorem dX9_duty_27 : decode cX9_duty 27 = .ok (.iconst 1, 1) := by decide +kernel
theorem dX9_duty_28 : decode cX9_duty 28 = .ok (.putfield 89, 3) := by decide +kernel
theorem dX9_duty_31 : decode cX9_duty 31 = .ok (.iload_n 1, 1) := by decide +kernel
theorem dX9_duty_32 : decode cX9_duty 32 = .ok (.ireturn, 1) := by decide +kernel
theorem dX9_broken_0 : decode cX9_broken 0 = .ok (.aload_n 0, 1) := by decide +kernel
theorem dX9_broken_1 : decode cX9_broken 1 = .ok (.getfield 89, 3) := by decide +kernel
theorem dX9_broken_4 : decode cX9_broken 4 = .ok (.ifCond .ne 6, 3) := by decide +kernel
theorem dX9_broken_7 : decode cX9_broken 7 = .ok (.bipush (-2), 2) := by decide +kernel
theorem dX9_broken_9 : decode cX9_broken 9 = .ok (.ireturn, 1) := by decide +kernel
theorem dX9_broken_10 : decode cX9_broken 10 = .ok (.aload_n 0, 1) := by decide +kernel
theorem dX9_broken_11 : decode cX9_broken 11 = .ok (.aload_n 0, 1) := by decide +kernel
theorem dX9_broken_12 : decode cX9_broken 12 = .ok (.getfield 28, 3) := by decide +kernel
theorem dX9_broken_15 : decode cX9_broken 15 = .ok (.iconst 0, 1) := by decide +kernel
theorem dX9_broken_16 : decode cX9_broken 16 = .ok (.aaload, 1) := by decide +kernel
theorem dX9_broken_17 : decode cX9_broken 17 = .ok (.invokevirtual 159, 3) := by decide +kernel
theorem dX9_broken_20 : decode cX9_broken 20 = .ok (.iconst 0, 1) := by decide +kernel
theorem dX9_broken_21 : decode cX9_broken 21 = .ok (.istore_n 1, 1) := by decide +kernel
theorem dX9_broken_22 : decode cX9_broken 22 = .ok (.iload_n 1, 1) := by decide +kernel
theorem dX9_broken_23 : decode cX9_broken 23 = .ok (.aload_n 0, 1) := by decide +kernel
theorem dX9_broken_24 : decode cX9_broken 24 = .ok (.getfield 39, 3) := by decide +kernel
theorem dX9_broken_27 : decode cX9_broken 27 = .ok (.getfield 133, 3) := by decide +kernel
theorem dX9_broken_30 : decode cX9_broken 30 = .ok (.if_icmp .ge 66, 3) := by decide +kernel
theorem dX9_broken_33 : decode cX9_broken 33 = .ok (.aload_n 0, 1) := by decide +kernel
theorem dX9_broken_34 : decode cX9_broken 34 = .ok (.getfield 79, 3) := by decide +kernel
theorem dX9_broken_37 : decode cX9_broken 37 = .ok (.aload_n 0, 1) := by decide +kernel
theorem dX9_broken_38 : decode cX9_broken 38 = .ok (.getfield 46, 3) := by decide +kernel
theorem dX9_broken_41 : decode cX9_broken 41 = .ok (.getfield 169, 3) := by decide +kernel
theorem dX9_broken_44 : decode cX9_broken 44 = .ok (.iload_n 1, 1) := by decide +kernel
theorem dX9_broken_45 : decode cX9_broken 45 = .ok (.iaload, 1) := by decide +kernel
theorem dX9_broken_46 : decode cX9_broken 46 = .ok (.iconst 4, 1) := by decide +kernel
theorem dX9_broken_47 : decode cX9_broken 47 = .ok (.imul, 1) := by decide +kernel
theorem dX9_broken_48 : decode cX9_broken 48 = .ok (.aload_n 0, 1) := by decide +kernel
theorem dX9_broken_49 : decode cX9_broken 49 = .ok (.getfield 46, 3) := by decide +kernel
theorem dX9_broken_52 : decode cX9_broken 52 = .ok (.getfield 163, 3) := by decide +kernel
theorem dX9_broken_55 : decode cX9_broken 55 = .ok (.iload_n 1, 1) := by decide +kernel
theorem dX9_broken_56 : decode cX9_broken 56 = .ok (.iaload, 1) := by decide +kernel
theorem dX9_broken_57 : decode cX9_broken 57 = .ok (.iadd, 1) := by decide +kernel
theorem dX9_broken_58 : decode cX9_broken 58 = .ok (.iaload, 1) := by decide +kernel
theorem dX9_broken_59 : decode cX9_broken 59 = .ok (.istore_n 2, 1) := by decide +kernel
theorem dX9_broken_60 : decode cX9_broken 60 = .ok (.iload_n 2, 1) := by decide +kernel
theorem dX9_broken_61 : decode cX9_broken 61 = .ok (.iconst 2, 1) := by decide +kernel
theorem dX9_broken_62 : decode cX9_broken 62 = .ok (.aload_n 0, 1) := by decide +kernel
theorem dX9_broken_63 : decode cX9_broken 63 = .ok (.getfield 46, 3) := by decide +kernel
theorem dX9_broken_66 : decode cX9_broken 66 = .ok (.getfield 174, 3) := by decide +kernel
theorem dX9_broken_69 : decode cX9_broken 69 = .ok (.iload_n 1, 1) := by decide +kernel
theorem dX9_broken_70 : decode cX9_broken 70 = .ok (.iaload, 1) := by decide +kernel
theorem dX9_broken_71 : decode cX9_broken 71 = .ok (.imul, 1) := by decide +kernel
theorem dX9_broken_72 : decode cX9_broken 72 = .ok (.aload_n 0, 1) := by decide +kernel
theorem dX9_broken_73 : decode cX9_broken 73 = .ok (.getfield 46, 3) := by decide +kernel
theorem dX9_broken_76 : decode cX9_broken 76 = .ok (.getfield 180, 3) := by decide +kernel
theorem dX9_broken_79 : decode cX9_broken 79 = .ok (.iload_n 1, 1) := by decide +kernel
theorem dX9_broken_80 : decode cX9_broken 80 = .ok (.iaload, 1) := by decide +kernel
theorem dX9_broken_81 : decode cX9_broken 81 = .ok (.iadd, 1) := by decide +kernel
theorem dX9_broken_82 : decode cX9_broken 82 = .ok (.iushr, 1) := by decide +kernel
theorem dX9_broken_83 : decode cX9_broken 83 = .ok (.iconst 1, 1) := by decide +kernel
theorem dX9_broken_84 : decode cX9_broken 84 = .ok (.iand, 1) := by decide +kernel
theorem dX9_broken_85 : decode cX9_broken 85 = .ok (.ifCond .ne 5, 3) := by decide +kernel
theorem dX9_broken_88 : decode cX9_broken 88 = .ok (.iload_n 1, 1) := by decide +kernel
theorem dX9_broken_89 : decode cX9_broken 89 = .ok (.ireturn, 1) := by decide +kernel
theorem dX9_broken_90 : decode cX9_broken 90 = .ok (.iinc 1 1, 3) := by decide +kernel
theorem dX9_broken_93 : decode cX9_broken 93 = .ok (.goto (-71), 3) := by decide +kernel
theorem dX9_broken_96 : decode cX9_broken 96 = .ok (.bipush (-4), 2) := by decide +kernel
theorem dX9_broken_98 : decode cX9_broken 98 = .ok (.ireturn, 1) := by decide +kernel
theorem dX9_sheet_0 : decode cX9_sheet 0 = .ok (.aload_n 0, 1) := by decide +kernel
theorem dX9_sheet_1 : decode cX9_sheet 1 = .ok (.iload_n 1, 1) := by decide +kernel
theorem dX9_sheet_2 : decode cX9_sheet 2 = .ok (.invokevirtual 144, 3) := by decide +kernel
theorem dX9_sheet_5 : decode cX9_sheet 5 = .ok (.ifCond .ne 17, 3) := by decide +kernel
theorem dX9_sheet_8 : decode cX9_sheet 8 = .ok (.iload_n 2, 1) := by decide +kernel
theorem dX9_sheet_9 : decode cX9_sheet 9 = .ok (.iconst 2, 1) := by decide +kernel
theorem dX9_sheet_10 : decode cX9_sheet 10 = .ok (.invokestatic 120, 3) := by decide +kernel
theorem dX9_sheet_13 : decode cX9_sheet 13 = .ok (.ifCond .ne 9, 3) := by decide +kernel
theorem dX9_sheet_16 : decode cX9_sheet 16 = .ok (.iload_n 3, 1) := by decide +kernel
theorem dX9_sheet_17 : decode cX9_sheet 17 = .ok (.bipush 48, 2) := by decide +kernel
theorem dX9_sheet_19 : decode cX9_sheet 19 = .ok (.if_icmp .le 5, 3) := by decide +kernel
theorem dX9_sheet_22 : decode cX9_sheet 22 = .ok (.iconst (-1), 1) := by decide +kernel
theorem dX9_sheet_23 : decode cX9_sheet 23 = .ok (.ireturn, 1) := by decide +kernel
theorem dX9_sheet_24 : decode cX9_sheet 24 = .ok (.iload_n 3, 1) := by decide +kernel
theorem dX9_sheet_25 : decode cX9_sheet 25 = .ok (.ifCond .ge 6, 3) := by decide +kernel
theorem dX9_sheet_28 : decode cX9_sheet 28 = .ok (.bipush (-14), 2) := by decide +kernel
theorem dX9_sheet_30 : decode cX9_sheet 30 = .ok (.ireturn, 1) := by decide +kernel
theorem dX9_sheet_31 : decode cX9_sheet 31 = .ok (.aload_n 0, 1) := by decide +kernel
theorem dX9_sheet_32 : decode cX9_sheet 32 = .ok (.getfield 85, 3) := by decide +kernel
theorem dX9_sheet_35 : decode cX9_sheet 35 = .ok (.iload_n 1, 1) := by decide +kernel
theorem dX9_sheet_36 : decode cX9_sheet 36 = .ok (.aaload, 1) := by decide +kernel
theorem dX9_sheet_37 : decode cX9_sheet 37 = .ok (.iload_n 2, 1) := by decide +kernel
theorem dX9_sheet_38 : decode cX9_sheet 38 = .ok (.iload_n 3, 1) := by decide +kernel
theorem dX9_sheet_39 : decode cX9_sheet 39 = .ok (.invokevirtual 300, 3) := by decide +kernel
theorem dX9_sheet_42 : decode cX9_sheet 42 = .ok (.iload_n 3, 1) := by decide +kernel
theorem dX9_sheet_43 : decode cX9_sheet 43 = .ok (.ireturn, 1) := by decide +kernel
theorem dX9_drop_0 : decode cX9_drop 0 = .ok (.aload_n 0, 1) := by decide +kernel
theorem dX9_drop_1 : decode cX9_drop 1 = .ok (.iload_n 1, 1) := by decide +kernel
theorem dX9_drop_2 : decode cX9_drop 2 = .ok (.invokevirtual 144, 3) := by decide +kernel
theorem dX9_drop_5 : decode cX9_drop 5 = .ok (.ifCond .eq 5, 3) := by decide +kernel
theorem dX9_drop_8 : decode cX9_drop 8 = .ok (.iconst (-1), 1) := by decide +kernel
theorem dX9_drop_9 : decode cX9_drop 9 = .ok (.ireturn, 1) := by decide +kernel
theorem dX9_drop_10 : decode cX9_drop 10 = .ok (.aload_n 0, 1) := by decide +kernel
theorem dX9_drop_11 : decode cX9_drop 11 = .ok (.getfield 85, 3) := by decide +kernel
theorem dX9_drop_14 : decode cX9_drop 14 = .ok (.iload_n 1, 1) := by decide +kernel
theorem dX9_drop_15 : decode cX9_drop 15 = .ok (.aaload, 1) := by decide +kernel
theorem dX9_drop_16 : decode cX9_drop 16 = .ok (.astore_n 2, 1) := by decide +kernel
theorem dX9_drop_17 : decode cX9_drop 17 = .ok (.aload_n 2, 1) := by decide +kernel
theorem dX9_drop_18 : decode cX9_drop 18 = .ok (.getfield 303, 3) := by decide +kernel
theorem dX9_drop_21 : decode cX9_drop 21 = .ok (.bipush (-4), 2) := by decide +kernel
theorem dX9_drop_23 : decode cX9_drop 23 = .ok (.if_icmp .ne 6, 3) := by decide +kernel
theorem dX9_drop_26 : decode cX9_drop 26 = .ok (.bipush (-11), 2) := by decide +kernel
theorem dX9_drop_28 : decode cX9_drop 28 = .ok (.ireturn, 1) := by decide +kernel
theorem dX9_drop_29 : decode cX9_drop 29 = .ok (.aload_n 2, 1) := by decide +kernel
theorem dX9_drop_30 : decode cX9_drop 30 = .ok (.bipush (-4), 2) := by decide +kernel
theorem dX9_drop_32 : decode cX9_drop 32 = .ok (.putfield 303, 3) := by decide +kernel
theorem dX9_drop_35 : decode cX9_drop 35 = .ok (.aload_n 2, 1) := by decide +kernel
theorem dX9_drop_36 : decode cX9_drop 36 = .ok (.getfield 306, 3) := by decide +kernel
theorem dX9_drop_39 : decode cX9_drop 39 = .ok (.ireturn, 1) := by decide +kernel
theorem dX9_item_0 : decode cX9_item 0 = .ok (.aload_n 0, 1) := by decide +kernel
theorem dX9_item_1 : decode cX9_item 1 = .ok (.iload_n 1, 1) := by decide +kernel
theorem dX9_item_2 : decode cX9_item 2 = .ok (.invokevirtual 144, 3) := by decide +kernel
theorem dX9_item_5 : decode cX9_item 5 = .ok (.ifCond .ne 11, 3) := by decide +kernel
theorem dX9_item_8 : decode cX9_item 8 = .ok (.iload_n 2, 1) := by decide +kernel
theorem dX9_item_9 : decode cX9_item 9 = .ok (.iconst 2, 1) := by decide +kernel
theorem dX9_item_10 : decode cX9_item 10 = .ok (.invokestatic 120, 3) := by decide +kernel
theorem dX9_item_13 : decode cX9_item 13 = .ok (.ifCond .eq 5, 3) := by decide +kernel
theorem dX9_item_16 : decode cX9_item 16 = .ok (.iconst (-1), 1) := by decide +kernel
theorem dX9_item_17 : decode cX9_item 17 = .ok (.ireturn, 1) := by decide +kernel
theorem dX9_item_18 : decode cX9_item 18 = .ok (.aload_n 0, 1) := by decide +kernel
theorem dX9_item_19 : decode cX9_item 19 = .ok (.getfield 85, 3) := by decide +kernel
theorem dX9_item_22 : decode cX9_item 22 = .ok (.iload_n 1, 1) := by decide +kernel
theorem dX9_item_23 : decode cX9_item 23 = .ok (.aaload, 1) := by decide +kernel
theorem dX9_item_24 : decode cX9_item 24 = .ok (.astore 5, 2) := by decide +kernel
theorem dX9_item_26 : decode cX9_item 26 = .ok (.aload 5, 2) := by decide +kernel
theorem dX9_item_28 : decode cX9_item 28 = .ok (.iload_n 2, 1) := by decide +kernel
theorem dX9_item_29 : decode cX9_item 29 = .ok (.iload_n 3, 1) := by decide +kernel
theorem dX9_item_30 : decode cX9_item 30 = .ok (.iconst 1, 1) := by decide +kernel
theorem dX9_item_31 : decode cX9_item 31 = .ok (.invokevirtual 147, 3) := by decide +kernel
theorem dX9_item_34 : decode cX9_item 34 = .ok (.istore 6, 2) := by decide +kernel
theorem dX9_item_36 : decode cX9_item 36 = .ok (.iload 6, 2) := by decide +kernel
theorem dX9_item_38 : decode cX9_item 38 = .ok (.ifCond .ge 6, 3) := by decide +kernel
theorem dX9_item_41 : decode cX9_item 41 = .ok (.iload 6, 2) := by decide +kernel
theorem dX9_item_43 : decode cX9_item 43 = .ok (.ireturn, 1) := by decide +kernel
theorem dX9_item_44 : decode cX9_item 44 = .ok (.aload 5, 2) := by decide +kernel
theorem dX9_item_46 : decode cX9_item 46 = .ok (.getfield 151, 3) := by decide +kernel
theorem dX9_item_49 : decode cX9_item 49 = .ok (.iload_n 3, 1) := by decide +kernel
theorem dX9_item_50 : decode cX9_item 50 = .ok (.iload_n 2, 1) := by decide +kernel
theorem dX9_item_51 : decode cX9_item 51 = .ok (.ifCond .ne 16, 3) := by decide +kernel
theorem dX9_item_54 : decode cX9_item 54 = .ok (.iload 4, 2) := by decide +kernel
theorem dX9_item_56 : decode cX9_item 56 = .ok (.ifCond .eq 7, 3) := by decide +kernel
theorem dX9_item_59 : decode cX9_item 59 = .ok (.iconst 1, 1) := by decide +kernel
theorem dX9_item_60 : decode cX9_item 60 = .ok (.goto 20, 3) := by decide +kernel
theorem dX9_item_63 : decode cX9_item 63 = .ok (.iconst 0, 1) := by decide +kernel
theorem dX9_item_64 : decode cX9_item 64 = .ok (.goto 16, 3) := by decide +kernel
theorem dX9_item_67 : decode cX9_item 67 = .ok (.iload_n 2, 1) := by decide +kernel
theorem dX9_item_68 : decode cX9_item 68 = .ok (.iconst 1, 1) := by decide +kernel
theorem dX9_item_69 : decode cX9_item 69 = .ok (.if_icmp .ne 9, 3) := by decide +kernel
theorem dX9_item_72 : decode cX9_item 72 = .ok (.iload 4, 2) := by decide +kernel
theorem dX9_item_74 : decode cX9_item 74 = .ok (.i2b, 1) := by decide +kernel
theorem dX9_item_75 : decode cX9_item 75 = .ok (.goto 5, 3) := by decide +kernel
theorem dX9_item_78 : decode cX9_item 78 = .ok (.iload 4, 2) := by decide +kernel
theorem dX9_item_80 : decode cX9_item 80 = .ok (.iastore, 1) := by decide +kernel
theorem dX9_item_81 : decode cX9_item 81 = .ok (.iconst 1, 1) := by decide +kernel
theorem dX9_item_82 : decode cX9_item 82 = .ok (.ireturn, 1) := by decide +kernel
theorem dX9_copy_0 : decode cX9_copy 0 = .ok (.aload_n 0, 1) := by decide +kernel
theorem dX9_copy_1 : decode cX9_copy 1 = .ok (.iload_n 1, 1) := by decide +kernel
theorem dX9_copy_2 : decode cX9_copy 2 = .ok (.invokevirtual 144, 3) := by decide +kernel
theorem dX9_copy_5 : decode cX9_copy 5 = .ok (.ifCond .ne 11, 3) := by decide +kernel
theorem dX9_copy_8 : decode cX9_copy 8 = .ok (.aload_n 0, 1) := by decide +kernel
theorem dX9_copy_9 : decode cX9_copy 9 = .ok (.iload_n 3, 1) := by decide +kernel
theorem dX9_copy_10 : decode cX9_copy 10 = .ok (.invokevirtual 144, 3) := by decide +kernel
theorem dX9_copy_13 : decode cX9_copy 13 = .ok (.ifCond .eq 5, 3) := by decide +kernel
theorem dX9_copy_16 : decode cX9_copy 16 = .ok (.iconst (-1), 1) := by decide +kernel
theorem dX9_copy_17 : decode cX9_copy 17 = .ok (.ireturn, 1) := by decide +kernel
theorem dX9_copy_18 : decode cX9_copy 18 = .ok (.aload_n 0, 1) := by decide +kernel
theorem dX9_copy_19 : decode cX9_copy 19 = .ok (.getfield 85, 3) := by decide +kernel
theorem dX9_copy_22 : decode cX9_copy 22 = .ok (.iload_n 1, 1) := by decide +kernel
theorem dX9_copy_23 : decode cX9_copy 23 = .ok (.aaload, 1) := by decide +kernel
theorem dX9_copy_24 : decode cX9_copy 24 = .ok (.astore 6, 2) := by decide +kernel
theorem dX9_copy_26 : decode cX9_copy 26 = .ok (.aload_n 0, 1) := by decide +kernel
theorem dX9_copy_27 : decode cX9_copy 27 = .ok (.getfield 85, 3) := by decide +kernel
theorem dX9_copy_30 : decode cX9_copy 30 = .ok (.iload_n 3, 1) := by decide +kernel
theorem dX9_copy_31 : decode cX9_copy 31 = .ok (.aaload, 1) := by decide +kernel
theorem dX9_copy_32 : decode cX9_copy 32 = .ok (.astore 7, 2) := by decide +kernel
theorem dX9_copy_34 : decode cX9_copy 34 = .ok (.aload 6, 2) := by decide +kernel
theorem dX9_copy_36 : decode cX9_copy 36 = .ok (.getfield 303, 3) := by decide +kernel
theorem dX9_copy_39 : decode cX9_copy 39 = .ok (.bipush (-4), 2) := by decide +kernel
theorem dX9_copy_41 : decode cX9_copy 41 = .ok (.if_icmp .eq 13, 3) := by decide +kernel
theorem dX9_copy_44 : decode cX9_copy 44 = .ok (.aload 7, 2) := by decide +kernel
theorem dX9_copy_46 : decode cX9_copy 46 = .ok (.getfield 303, 3) := by decide +kernel
theorem dX9_copy_49 : decode cX9_copy 49 = .ok (.bipush (-4), 2) := by decide +kernel
theorem dX9_copy_51 : decode cX9_copy 51 = .ok (.if_icmp .ne 6, 3) := by decide +kernel
theorem dX9_copy_54 : decode cX9_copy 54 = .ok (.bipush (-11), 2) := by decide +kernel
theorem dX9_copy_56 : decode cX9_copy 56 = .ok (.ireturn, 1) := by decide +kernel
theorem dX9_copy_57 : decode cX9_copy 57 = .ok (.aload 6, 2) := by decide +kernel
theorem dX9_copy_59 : decode cX9_copy 59 = .ok (.getfield 303, 3) := by decide +kernel
theorem dX9_copy_62 : decode cX9_copy 62 = .ok (.aload 7, 2) := by decide +kernel
theorem dX9_copy_64 : decode cX9_copy 64 = .ok (.getfield 303, 3) := by decide +kernel
theorem dX9_copy_67 : decode cX9_copy 67 = .ok (.if_icmp .eq 6, 3) := by decide +kernel
theorem dX9_copy_70 : decode cX9_copy 70 = .ok (.bipush (-12), 2) := by decide +kernel
theorem dX9_copy_72 : decode cX9_copy 72 = .ok (.ireturn, 1) := by decide +kernel
theorem dX9_copy_73 : decode cX9_copy 73 = .ok (.aload 6, 2) := by decide +kernel
theorem dX9_copy_75 : decode cX9_copy 75 = .ok (.iload_n 2, 1) := by decide +kernel
theorem dX9_copy_76 : decode cX9_copy 76 = .ok (.iload 5, 2) := by decide +kernel
theorem dX9_copy_78 : decode cX9_copy 78 = .ok (.invokevirtual 307, 3) := by decide +kernel
theorem dX9_copy_81 : decode cX9_copy 81 = .ok (.ifCond .ne 15, 3) := by decide +kernel
theorem dX9_copy_84 : decode cX9_copy 84 = .ok (.aload 7, 2) := by decide +kernel
theorem dX9_copy_86 : decode cX9_copy 86 = .ok (.iload 4, 2) := by decide +kernel
theorem dX9_copy_88 : decode cX9_copy 88 = .ok (.iload 5, 2) := by decide +kernel
theorem dX9_copy_90 : decode cX9_copy 90 = .ok (.invokevirtual 307, 3) := by decide +kernel
theorem dX9_copy_93 : decode cX9_copy 93 = .ok (.ifCond .eq 6, 3) := by decide +kernel
theorem dX9_copy_96 : decode cX9_copy 96 = .ok (.bipush (-13), 2) := by decide +kernel
theorem dX9_copy_98 : decode cX9_copy 98 = .ok (.ireturn, 1) := by decide +kernel
theorem dX9_copy_99 : decode cX9_copy 99 = .ok (.aload 6, 2) := by decide +kernel
theorem dX9_copy_101 : decode cX9_copy 101 = .ok (.getfield 151, 3) := by decide +kernel
theorem dX9_copy_104 : decode cX9_copy 104 = .ok (.iload_n 2, 1) := by decide +kernel
theorem dX9_copy_105 : decode cX9_copy 105 = .ok (.aload 7, 2) := by decide +kernel
theorem dX9_copy_107 : decode cX9_copy 107 = .ok (.getfield 151, 3) := by decide +kernel
theorem dX9_copy_110 : decode cX9_copy 110 = .ok (.iload 4, 2) := by decide +kernel
theorem dX9_copy_112 : decode cX9_copy 112 = .ok (.iload 5, 2) := by decide +kernel
theorem dX9_copy_114 : decode cX9_copy 114 = .ok (.invokestatic 153, 3) := by decide +kernel
theorem dX9_copy_117 : decode cX9_copy 117 = .ok (.iload 5, 2) := by decide +kernel
theorem dX9_copy_119 : decode cX9_copy 119 = .ok (.ireturn, 1) := by decide +kernel
theorem dX9_beyond_0 : decode cX9_beyond 0 = .ok (.iload_n 0, 1) := by decide +kernel
theorem dX9_beyond_1 : decode cX9_beyond 1 = .ok (.ifCond .lt 8, 3) := by decide +kernel
theorem dX9_beyond_4 : decode cX9_beyond 4 = .ok (.iload_n 0, 1) := by decide +kernel
theorem dX9_beyond_5 : decode cX9_beyond 5 = .ok (.iload_n 1, 1) := by decide +kernel
theorem dX9_beyond_6 : decode cX9_beyond 6 = .ok (.if_icmp .le 7, 3) := by decide +kernel
theorem dX9_beyond_9 : decode cX9_beyond 9 = .ok (.iconst 1, 1) := by decide +kernel
theorem dX9_beyond_10 : decode cX9_beyond 10 = .ok (.goto 4, 3) := by decide +kernel
theorem dX9_beyond_13 : decode cX9_beyond 13 = .ok (.iconst 0, 1) := by decide +kernel
theorem dX9_beyond_14 : decode cX9_beyond 14 = .ok (.ireturn, 1) := by decide +kernel
theorem dX9_byteOf_0 : decode cX9_byteOf 0 = .ok (.lload_n 0, 1) := by decide +kernel
theorem dX9_byteOf_1 : decode cX9_byteOf 1 = .ok (.bipush 8, 2) := by decide +kernel
theorem dX9_byteOf_3 : decode cX9_byteOf 3 = .ok (.iload_n 2, 1) := by decide +kernel
theorem dX9_byteOf_4 : decode cX9_byteOf 4 = .ok (.imul, 1) := by decide +kernel
theorem dX9_byteOf_5 : decode cX9_byteOf 5 = .ok (.lushr, 1) := by decide +kernel
theorem dX9_byteOf_6 : decode cX9_byteOf 6 = .ok (.l2i, 1) := by decide +kernel
theorem dX9_byteOf_7 : decode cX9_byteOf 7 = .ok (.sipush 255, 3) := by decide +kernel
theorem dX9_byteOf_10 : decode cX9_byteOf 10 = .ok (.iand, 1) := by decide +kernel
theorem dX9_byteOf_11 : decode cX9_byteOf 11 = .ok (.ireturn, 1) := by decide +kernel
theorem dX9_noMachine_0 : decode cX9_noMachine 0 = .ok (.iload_n 1, 1) := by decide +kernel
theorem dX9_noMachine_1 : decode cX9_noMachine 1 = .ok (.aload_n 0, 1) := by decide +kernel
theorem dX9_noMachine_2 : decode cX9_noMachine 2 = .ok (.getfield 28, 3) := by decide +kernel
theorem dX9_noMachine_5 : decode cX9_noMachine 5 = .ok (.arraylength, 1) := by decide +kernel
theorem dX9_noMachine_6 : decode cX9_noMachine 6 = .ok (.iconst 1, 1) := by decide +kernel
theorem dX9_noMachine_7 : decode cX9_noMachine 7 = .ok (.isub, 1) := by decide +kernel
theorem dX9_noMachine_8 : decode cX9_noMachine 8 = .ok (.invokestatic 120, 3) := by decide +kernel
theorem dX9_noMachine_11 : decode cX9_noMachine 11 = .ok (.ireturn, 1) := by decide +kernel
theorem dX9_noTick_0 : decode cX9_noTick 0 = .ok (.iload_n 1, 1) := by decide +kernel
theorem dX9_noTick_1 : decode cX9_noTick 1 = .ok (.aload_n 0, 1) := by decide +kernel
theorem dX9_noTick_2 : decode cX9_noTick 2 = .ok (.getfield 39, 3) := by decide +kernel
theorem dX9_noTick_5 : decode cX9_noTick 5 = .ok (.getfield 133, 3) := by decide +kernel
theorem dX9_noTick_8 : decode cX9_noTick 8 = .ok (.iconst 1, 1) := by decide +kernel
theorem dX9_noTick_9 : decode cX9_noTick 9 = .ok (.isub, 1) := by decide +kernel
theorem dX9_noTick_10 : decode cX9_noTick 10 = .ok (.invokestatic 120, 3) := by decide +kernel
theorem dX9_noTick_13 : decode cX9_noTick 13 = .ok (.ireturn, 1) := by decide +kernel
theorem dX9_noSheet_0 : decode cX9_noSheet 0 = .ok (.iload_n 1, 1) := by decide +kernel
theorem dX9_noSheet_1 : decode cX9_noSheet 1 = .ok (.aload_n 0, 1) := by decide +kernel
theorem dX9_noSheet_2 : decode cX9_noSheet 2 = .ok (.getfield 85, 3) := by decide +kernel
theorem dX9_noSheet_5 : decode cX9_noSheet 5 = .ok (.arraylength, 1) := by decide +kernel
theorem dX9_noSheet_6 : decode cX9_noSheet 6 = .ok (.iconst 1, 1) := by decide +kernel
theorem dX9_noSheet_7 : decode cX9_noSheet 7 = .ok (.isub, 1) := by decide +kernel
theorem dX9_noSheet_8 : decode cX9_noSheet 8 = .ok (.invokestatic 120, 3) := by decide +kernel
theorem dX9_noSheet_11 : decode cX9_noSheet 11 = .ok (.ireturn, 1) := by decide +kernel
theorem dX9_noLine_0 : decode cX9_noLine 0 = .ok (.iload_n 1, 1) := by decide +kernel
theorem dX9_noLine_1 : decode cX9_noLine 1 = .ok (.aload_n 0, 1) := by decide +kernel
theorem dX9_noLine_2 : decode cX9_noLine 2 = .ok (.getfield 53, 3) := by decide +kernel
theorem dX9_noLine_5 : decode cX9_noLine 5 = .ok (.getfield 173, 3) := by decide +kernel
theorem dX9_noLine_8 : decode cX9_noLine 8 = .ok (.iconst 1, 1) := by decide +kernel
theorem dX9_noLine_9 : decode cX9_noLine 9 = .ok (.isub, 1) := by decide +kernel
theorem dX9_noLine_10 : decode cX9_noLine 10 = .ok (.invokestatic 120, 3) := by decide +kernel
theorem dX9_noLine_13 : decode cX9_noLine 13 = .ok (.ireturn, 1) := by decide +kernel
theorem dX9_noKeeper_0 : decode cX9_noKeeper 0 = .ok (.iload_n 1, 1) := by decide +kernel
theorem dX9_noKeeper_1 : decode cX9_noKeeper 1 = .ok (.aload_n 0, 1) := by decide +kernel
theorem dX9_noKeeper_2 : decode cX9_noKeeper 2 = .ok (.getfield 60, 3) := by decide +kernel
theorem dX9_noKeeper_5 : decode cX9_noKeeper 5 = .ok (.arraylength, 1) := by decide +kernel
theorem dX9_noKeeper_6 : decode cX9_noKeeper 6 = .ok (.iconst 1, 1) := by decide +kernel
theorem dX9_noKeeper_7 : decode cX9_noKeeper 7 = .ok (.isub, 1) := by decide +kernel
theorem dX9_noKeeper_8 : decode cX9_noKeeper 8 = .ok (.invokestatic 120, 3) := by decide +kernel
theorem dX9_noKeeper_11 : decode cX9_noKeeper 11 = .ok (.ireturn, 1) := by decide +kernel
theorem dX9_playAsIs_0 : decode cX9_playAsIs 0 = .ok (.aload_n 0, 1) := by decide +kernel
theorem dX9_playAsIs_1 : decode cX9_playAsIs 1 = .ok (.getfield 46, 3) := by decide +kernel
theorem dX9_playAsIs_4 : decode cX9_playAsIs 4 = .ok (.aload_n 0, 1) := by decide +kernel
theorem dX9_playAsIs_5 : decode cX9_playAsIs 5 = .ok (.getfield 39, 3) := by decide +kernel
theorem dX9_playAsIs_8 : decode cX9_playAsIs 8 = .ok (.invokevirtual 229, 3) := by decide +kernel
theorem dX9_playAsIs_11 : decode cX9_playAsIs 11 = .ok (.aload_n 0, 1) := by decide +kernel
theorem dX9_playAsIs_12 : decode cX9_playAsIs 12 = .ok (.getfield 46, 3) := by decide +kernel
theorem dX9_playAsIs_15 : decode cX9_playAsIs 15 = .ok (.aload_n 1, 1) := by decide +kernel
theorem dX9_playAsIs_16 : decode cX9_playAsIs 16 = .ok (.sipush 255, 3) := by decide +kernel
theorem dX9_playAsIs_19 : decode cX9_playAsIs 19 = .ok (.aload_n 0, 1) := by decide +kernel
theorem dX9_playAsIs_20 : decode cX9_playAsIs 20 = .ok (.getfield 39, 3) := by decide +kernel
theorem dX9_playAsIs_23 : decode cX9_playAsIs 23 = .ok (.getfield 133, 3) := by decide +kernel
theorem dX9_playAsIs_26 : decode cX9_playAsIs 26 = .ok (.invokevirtual 236, 3) := by decide +kernel
theorem dX9_playAsIs_29 : decode cX9_playAsIs 29 = .ok (.return_, 1) := by decide +kernel
theorem dX9_countHolders_0 : decode cX9_countHolders 0 = .ok (.iconst 0, 1) := by decide +kernel
theorem dX9_countHolders_1 : decode cX9_countHolders 1 = .ok (.istore_n 1, 1) := by decide +kernel
theorem dX9_countHolders_2 : decode cX9_countHolders 2 = .ok (.iconst 0, 1) := by decide +kernel
theorem dX9_countHolders_3 : decode cX9_countHolders 3 = .ok (.istore_n 2, 1) := by decide +kernel
theorem dX9_countHolders_4 : decode cX9_countHolders 4 = .ok (.iload_n 2, 1) := by decide +kernel
theorem dX9_countHolders_5 : decode cX9_countHolders 5 = .ok (.aload_n 0, 1) := by decide +kernel
theorem dX9_countHolders_6 : decode cX9_countHolders 6 = .ok (.getfield 60, 3) := by decide +kernel
theorem dX9_countHolders_9 : decode cX9_countHolders 9 = .ok (.arraylength, 1) := by decide +kernel
theorem dX9_countHolders_10 : decode cX9_countHolders 10 = .ok (.if_icmp .ge 24, 3) := by decide +kernel
theorem dX9_countHolders_13 : decode cX9_countHolders 13 = .ok (.aload_n 0, 1) := by decide +kernel
theorem dX9_countHolders_14 : decode cX9_countHolders 14 = .ok (.getfield 60, 3) := by decide +kernel
theorem dX9_countHolders_17 : decode cX9_countHolders 17 = .ok (.iload_n 2, 1) := by decide +kernel
theorem dX9_countHolders_18 : decode cX9_countHolders 18 = .ok (.aaload, 1) := by decide +kernel
theorem dX9_countHolders_19 : decode cX9_countHolders 19 = .ok (.getfield 225, 3) := by decide +kernel
theorem dX9_countHolders_22 : decode cX9_countHolders 22 = .ok (.ifCond .le 6, 3) := by decide +kernel
theorem dX9_countHolders_25 : decode cX9_countHolders 25 = .ok (.iinc 1 1, 3) := by decide +kernel
theorem dX9_countHolders_28 : decode cX9_countHolders 28 = .ok (.iinc 2 1, 3) := by decide +kernel
theorem dX9_countHolders_31 : decode cX9_countHolders 31 = .ok (.goto (-27), 3) := by decide +kernel
theorem dX9_countHolders_34 : decode cX9_countHolders 34 = .ok (.iload_n 1, 1) := by decide +kernel
theorem dX9_countHolders_35 : decode cX9_countHolders 35 = .ok (.ireturn, 1) := by decide +kernel
theorem dX9_isHeld_0 : decode cX9_isHeld 0 = .ok (.iconst 0, 1) := by decide +kernel
theorem dX9_isHeld_1 : decode cX9_isHeld 1 = .ok (.istore_n 3, 1) := by decide +kernel
theorem dX9_isHeld_2 : decode cX9_isHeld 2 = .ok (.iconst 0, 1) := by decide +kernel
theorem dX9_isHeld_3 : decode cX9_isHeld 3 = .ok (.istore 4, 2) := by decide +kernel
theorem dX9_isHeld_5 : decode cX9_isHeld 5 = .ok (.iload 4, 2) := by decide +kernel
theorem dX9_isHeld_7 : decode cX9_isHeld 7 = .ok (.aload_n 0, 1) := by decide +kernel
theorem dX9_isHeld_8 : decode cX9_isHeld 8 = .ok (.getfield 60, 3) := by decide +kernel
theorem dX9_isHeld_11 : decode cX9_isHeld 11 = .ok (.arraylength, 1) := by decide +kernel
theorem dX9_isHeld_12 : decode cX9_isHeld 12 = .ok (.if_icmp .ge 52, 3) := by decide +kernel
theorem dX9_isHeld_15 : decode cX9_isHeld 15 = .ok (.iload_n 1, 1) := by decide +kernel
theorem dX9_isHeld_16 : decode cX9_isHeld 16 = .ok (.aload_n 0, 1) := by decide +kernel
theorem dX9_isHeld_17 : decode cX9_isHeld 17 = .ok (.getfield 60, 3) := by decide +kernel
theorem dX9_isHeld_20 : decode cX9_isHeld 20 = .ok (.iload 4, 2) := by decide +kernel
theorem dX9_isHeld_22 : decode cX9_isHeld 22 = .ok (.aaload, 1) := by decide +kernel
theorem dX9_isHeld_23 : decode cX9_isHeld 23 = .ok (.getfield 225, 3) := by decide +kernel
theorem dX9_isHeld_26 : decode cX9_isHeld 26 = .ok (.if_icmp .ge 32, 3) := by decide +kernel
theorem dX9_isHeld_29 : decode cX9_isHeld 29 = .ok (.aload_n 0, 1) := by decide +kernel
theorem dX9_isHeld_30 : decode cX9_isHeld 30 = .ok (.getfield 60, 3) := by decide +kernel
theorem dX9_isHeld_33 : decode cX9_isHeld 33 = .ok (.iload 4, 2) := by decide +kernel
theorem dX9_isHeld_35 : decode cX9_isHeld 35 = .ok (.aaload, 1) := by decide +kernel
theorem dX9_isHeld_36 : decode cX9_isHeld 36 = .ok (.getfield 226, 3) := by decide +kernel
theorem dX9_isHeld_39 : decode cX9_isHeld 39 = .ok (.iload_n 1, 1) := by decide +kernel
theorem dX9_isHeld_40 : decode cX9_isHeld 40 = .ok (.iaload, 1) := by decide +kernel
theorem dX9_isHeld_41 : decode cX9_isHeld 41 = .ok (.aload_n 0, 1) := by decide +kernel
theorem dX9_isHeld_42 : decode cX9_isHeld 42 = .ok (.getfield 53, 3) := by decide +kernel
theorem dX9_isHeld_45 : decode cX9_isHeld 45 = .ok (.getfield 198, 3) := by decide +kernel
theorem dX9_isHeld_48 : decode cX9_isHeld 48 = .ok (.iconst 3, 1) := by decide +kernel
theorem dX9_isHeld_49 : decode cX9_isHeld 49 = .ok (.aaload, 1) := by decide +kernel
theorem dX9_isHeld_50 : decode cX9_isHeld 50 = .ok (.iload_n 1, 1) := by decide +kernel
theorem dX9_isHeld_51 : decode cX9_isHeld 51 = .ok (.iaload, 1) := by decide +kernel
theorem dX9_isHeld_52 : decode cX9_isHeld 52 = .ok (.if_icmp .ne 6, 3) := by decide +kernel
theorem dX9_isHeld_55 : decode cX9_isHeld 55 = .ok (.iinc 3 1, 3) := by decide +kernel
theorem dX9_isHeld_58 : decode cX9_isHeld 58 = .ok (.iinc 4 1, 3) := by decide +kernel
theorem dX9_isHeld_61 : decode cX9_isHeld 61 = .ok (.goto (-56), 3) := by decide +kernel
theorem dX9_isHeld_64 : decode cX9_isHeld 64 = .ok (.iload_n 3, 1) := by decide +kernel
theorem dX9_isHeld_65 : decode cX9_isHeld 65 = .ok (.iload_n 2, 1) := by decide +kernel
theorem dX9_isHeld_66 : decode cX9_isHeld 66 = .ok (.iconst 1, 1) := by decide +kernel
theorem dX9_isHeld_67 : decode cX9_isHeld 67 = .ok (.if_icmp .ne 7, 3) := by decide +kernel
theorem dX9_isHeld_70 : decode cX9_isHeld 70 = .ok (.iconst 1, 1) := by decide +kernel
theorem dX9_isHeld_71 : decode cX9_isHeld 71 = .ok (.goto 4, 3) := by decide +kernel
theorem dX9_isHeld_74 : decode cX9_isHeld 74 = .ok (.iconst 2, 1) := by decide +kernel
theorem dX9_isHeld_75 : decode cX9_isHeld 75 = .ok (.if_icmp .lt 7, 3) := by decide +kernel
theorem dX9_isHeld_78 : decode cX9_isHeld 78 = .ok (.iconst 1, 1) := by decide +kernel
theorem dX9_isHeld_79 : decode cX9_isHeld 79 = .ok (.goto 4, 3) := by decide +kernel
theorem dX9_isHeld_82 : decode cX9_isHeld 82 = .ok (.iconst 0, 1) := by decide +kernel
theorem dX9_isHeld_83 : decode cX9_isHeld 83 = .ok (.ireturn, 1) := by decide +kernel
theorem dX9_seeByBook_0 : decode cX9_seeByBook 0 = .ok (.aload_n 0, 1) := by decide +kernel
theorem dX9_seeByBook_1 : decode cX9_seeByBook 1 = .ok (.getfield 53, 3) := by decide +kernel
theorem dX9_seeByBook_4 : decode cX9_seeByBook 4 = .ok (.getfield 173, 3) := by decide +kernel
theorem dX9_seeByBook_7 : decode cX9_seeByBook 7 = .ok (.iconst 1, 1) := by decide +kernel
theorem dX9_seeByBook_8 : decode cX9_seeByBook 8 = .ok (.isub, 1) := by decide +kernel
theorem dX9_seeByBook_9 : decode cX9_seeByBook 9 = .ok (.istore_n 1, 1) := by decide +kernel
theorem dX9_seeByBook_10 : decode cX9_seeByBook 10 = .ok (.iload_n 1, 1) := by decide +kernel
theorem dX9_seeByBook_11 : decode cX9_seeByBook 11 = .ok (.ifCond .lt 93, 3) := by decide +kernel
theorem dX9_seeByBook_14 : decode cX9_seeByBook 14 = .ok (.aload_n 0, 1) := by decide +kernel
theorem dX9_seeByBook_15 : decode cX9_seeByBook 15 = .ok (.getfield 53, 3) := by decide +kernel
theorem dX9_seeByBook_18 : decode cX9_seeByBook 18 = .ok (.getfield 198, 3) := by decide +kernel
theorem dX9_seeByBook_21 : decode cX9_seeByBook 21 = .ok (.iconst 1, 1) := by decide +kernel
theorem dX9_seeByBook_22 : decode cX9_seeByBook 22 = .ok (.aaload, 1) := by decide +kernel
theorem dX9_seeByBook_23 : decode cX9_seeByBook 23 = .ok (.iload_n 1, 1) := by decide +kernel
theorem dX9_seeByBook_24 : decode cX9_seeByBook 24 = .ok (.iaload, 1) := by decide +kernel
theorem dX9_seeByBook_25 : decode cX9_seeByBook 25 = .ok (.istore_n 2, 1) := by decide +kernel
theorem dX9_seeByBook_26 : decode cX9_seeByBook 26 = .ok (.aload_n 0, 1) := by decide +kernel
theorem dX9_seeByBook_27 : decode cX9_seeByBook 27 = .ok (.getfield 53, 3) := by decide +kernel
theorem dX9_seeByBook_30 : decode cX9_seeByBook 30 = .ok (.getfield 198, 3) := by decide +kernel
theorem dX9_seeByBook_33 : decode cX9_seeByBook 33 = .ok (.iconst 0, 1) := by decide +kernel
theorem dX9_seeByBook_34 : decode cX9_seeByBook 34 = .ok (.aaload, 1) := by decide +kernel
theorem dX9_seeByBook_35 : decode cX9_seeByBook 35 = .ok (.iload_n 1, 1) := by decide +kernel
theorem dX9_seeByBook_36 : decode cX9_seeByBook 36 = .ok (.iaload, 1) := by decide +kernel
theorem dX9_seeByBook_37 : decode cX9_seeByBook 37 = .ok (.ifCond .ne 26, 3) := by decide +kernel
theorem dX9_seeByBook_40 : decode cX9_seeByBook 40 = .ok (.aload_n 0, 1) := by decide +kernel
theorem dX9_seeByBook_41 : decode cX9_seeByBook 41 = .ok (.getfield 46, 3) := by decide +kernel
theorem dX9_seeByBook_44 : decode cX9_seeByBook 44 = .ok (.getfield 174, 3) := by decide +kernel
theorem dX9_seeByBook_47 : decode cX9_seeByBook 47 = .ok (.iload_n 2, 1) := by decide +kernel
theorem dX9_seeByBook_48 : decode cX9_seeByBook 48 = .ok (.aload_n 0, 1) := by decide +kernel
theorem dX9_seeByBook_49 : decode cX9_seeByBook 49 = .ok (.getfield 53, 3) := by decide +kernel
theorem dX9_seeByBook_52 : decode cX9_seeByBook 52 = .ok (.getfield 198, 3) := by decide +kernel
theorem dX9_seeByBook_55 : decode cX9_seeByBook 55 = .ok (.iconst 2, 1) := by decide +kernel
theorem dX9_seeByBook_56 : decode cX9_seeByBook 56 = .ok (.aaload, 1) := by decide +kernel
theorem dX9_seeByBook_57 : decode cX9_seeByBook 57 = .ok (.iload_n 1, 1) := by decide +kernel
theorem dX9_seeByBook_58 : decode cX9_seeByBook 58 = .ok (.iaload, 1) := by decide +kernel
theorem dX9_seeByBook_59 : decode cX9_seeByBook 59 = .ok (.iastore, 1) := by decide +kernel
theorem dX9_seeByBook_60 : decode cX9_seeByBook 60 = .ok (.goto 38, 3) := by decide +kernel
theorem dX9_seeByBook_63 : decode cX9_seeByBook 63 = .ok (.aload_n 0, 1) := by decide +kernel
theorem dX9_seeByBook_64 : decode cX9_seeByBook 64 = .ok (.getfield 53, 3) := by decide +kernel
theorem dX9_seeByBook_67 : decode cX9_seeByBook 67 = .ok (.getfield 198, 3) := by decide +kernel
theorem dX9_seeByBook_70 : decode cX9_seeByBook 70 = .ok (.iconst 0, 1) := by decide +kernel
theorem dX9_seeByBook_71 : decode cX9_seeByBook 71 = .ok (.aaload, 1) := by decide +kernel
theorem dX9_seeByBook_72 : decode cX9_seeByBook 72 = .ok (.iload_n 1, 1) := by decide +kernel
theorem dX9_seeByBook_73 : decode cX9_seeByBook 73 = .ok (.iaload, 1) := by decide +kernel
theorem dX9_seeByBook_74 : decode cX9_seeByBook 74 = .ok (.iconst 3, 1) := by decide +kernel
theorem dX9_seeByBook_75 : decode cX9_seeByBook 75 = .ok (.if_icmp .ne 23, 3) := by decide +kernel
theorem dX9_seeByBook_78 : decode cX9_seeByBook 78 = .ok (.aload_n 0, 1) := by decide +kernel
theorem dX9_seeByBook_79 : decode cX9_seeByBook 79 = .ok (.getfield 46, 3) := by decide +kernel
theorem dX9_seeByBook_82 : decode cX9_seeByBook 82 = .ok (.getfield 180, 3) := by decide +kernel
theorem dX9_seeByBook_85 : decode cX9_seeByBook 85 = .ok (.iload_n 2, 1) := by decide +kernel
theorem dX9_seeByBook_86 : decode cX9_seeByBook 86 = .ok (.aload_n 0, 1) := by decide +kernel
theorem dX9_seeByBook_87 : decode cX9_seeByBook 87 = .ok (.getfield 53, 3) := by decide +kernel
theorem dX9_seeByBook_90 : decode cX9_seeByBook 90 = .ok (.getfield 198, 3) := by decide +kernel
theorem dX9_seeByBook_93 : decode cX9_seeByBook 93 = .ok (.iconst 2, 1) := by decide +kernel
theorem dX9_seeByBook_94 : decode cX9_seeByBook 94 = .ok (.aaload, 1) := by decide +kernel
theorem dX9_seeByBook_95 : decode cX9_seeByBook 95 = .ok (.iload_n 1, 1) := by decide +kernel
theorem dX9_seeByBook_96 : decode cX9_seeByBook 96 = .ok (.iaload, 1) := by decide +kernel
theorem dX9_seeByBook_97 : decode cX9_seeByBook 97 = .ok (.iastore, 1) := by decide +kernel
theorem dX9_seeByBook_98 : decode cX9_seeByBook 98 = .ok (.iinc 1 (-1), 3) := by decide +kernel
theorem dX9_seeByBook_101 : decode cX9_seeByBook 101 = .ok (.goto (-91), 3) := by decide +kernel
theorem dX9_seeByBook_104 : decode cX9_seeByBook 104 = .ok (.return_, 1) := by decide +kernel
theorem dX9_isUnlikePlayed_0 : decode cX9_isUnlikePlayed 0 = .ok (.iload_n 1, 1) := by decide +kernel
theorem dX9_isUnlikePlayed_1 : decode cX9_isUnlikePlayed 1 = .ok (.iconst 1, 1) := by decide +kernel
theorem dX9_isUnlikePlayed_2 : decode cX9_isUnlikePlayed 2 = .ok (.if_icmp .ne 16, 3) := by decide +kernel
theorem dX9_isUnlikePlayed_5 : decode cX9_isUnlikePlayed 5 = .ok (.iload_n 3, 1) := by decide +kernel
theorem dX9_isUnlikePlayed_6 : decode cX9_isUnlikePlayed 6 = .ok (.aload_n 0, 1) := by decide +kernel
theorem dX9_isUnlikePlayed_7 : decode cX9_isUnlikePlayed 7 = .ok (.getfield 46, 3) := by decide +kernel
theorem dX9_isUnlikePlayed_10 : decode cX9_isUnlikePlayed 10 = .ok (.getfield 166, 3) := by decide +kernel
theorem dX9_isUnlikePlayed_13 : decode cX9_isUnlikePlayed 13 = .ok (.iload_n 2, 1) := by decide +kernel
theorem dX9_isUnlikePlayed_14 : decode cX9_isUnlikePlayed 14 = .ok (.iaload, 1) := by decide +kernel
theorem dX9_isUnlikePlayed_15 : decode cX9_isUnlikePlayed 15 = .ok (.if_icmp .ne 21, 3) := by decide +kernel
theorem dX9_isUnlikePlayed_18 : decode cX9_isUnlikePlayed 18 = .ok (.iload_n 1, 1) := by decide +kernel
theorem dX9_isUnlikePlayed_19 : decode cX9_isUnlikePlayed 19 = .ok (.iconst 2, 1) := by decide +kernel
theorem dX9_isUnlikePlayed_20 : decode cX9_isUnlikePlayed 20 = .ok (.if_icmp .ne 20, 3) := by decide +kernel
theorem dX9_isUnlikePlayed_23 : decode cX9_isUnlikePlayed 23 = .ok (.iload_n 3, 1) := by decide +kernel
theorem dX9_isUnlikePlayed_24 : decode cX9_isUnlikePlayed 24 = .ok (.aload_n 0, 1) := by decide +kernel
theorem dX9_isUnlikePlayed_25 : decode cX9_isUnlikePlayed 25 = .ok (.getfield 46, 3) := by decide +kernel
theorem dX9_isUnlikePlayed_28 : decode cX9_isUnlikePlayed 28 = .ok (.getfield 169, 3) := by decide +kernel
theorem dX9_isUnlikePlayed_31 : decode cX9_isUnlikePlayed 31 = .ok (.iload_n 2, 1) := by decide +kernel
theorem dX9_isUnlikePlayed_32 : decode cX9_isUnlikePlayed 32 = .ok (.iaload, 1) := by decide +kernel
theorem dX9_isUnlikePlayed_33 : decode cX9_isUnlikePlayed 33 = .ok (.if_icmp .eq 7, 3) := by decide +kernel
theorem dX9_isUnlikePlayed_36 : decode cX9_isUnlikePlayed 36 = .ok (.iconst 1, 1) := by decide +kernel
theorem dX9_isUnlikePlayed_37 : decode cX9_isUnlikePlayed 37 = .ok (.goto 4, 3) := by decide +kernel
theorem dX9_isUnlikePlayed_40 : decode cX9_isUnlikePlayed 40 = .ok (.iconst 0, 1) := by decide +kernel
theorem dX9_isUnlikePlayed_41 : decode cX9_isUnlikePlayed 41 = .ok (.ireturn, 1) := by decide +kernel
theorem dX9_lastOfThing_0 : decode cX9_lastOfThing 0 = .ok (.iload_n 0, 1) := by decide +kernel
theorem dX9_lastOfThing_1 : decode cX9_lastOfThing 1 = .ok (.ifCond .ne 7, 3) := by decide +kernel
theorem dX9_lastOfThing_4 : decode cX9_lastOfThing 4 = .ok (.iconst 3, 1) := by decide +kernel
theorem dX9_lastOfThing_5 : decode cX9_lastOfThing 5 = .ok (.goto 14, 3) := by decide +kernel
theorem dX9_lastOfThing_8 : decode cX9_lastOfThing 8 = .ok (.iload_n 0, 1) := by decide +kernel
theorem dX9_lastOfThing_9 : decode cX9_lastOfThing 9 = .ok (.iconst 1, 1) := by decide +kernel
theorem dX9_lastOfThing_10 : decode cX9_lastOfThing 10 = .ok (.if_icmp .ne 7, 3) := by decide +kernel
theorem dX9_lastOfThing_13 : decode cX9_lastOfThing 13 = .ok (.iconst 0, 1) := by decide +kernel
theorem dX9_lastOfThing_14 : decode cX9_lastOfThing 14 = .ok (.goto 5, 3) := by decide +kernel
theorem dX9_lastOfThing_17 : decode cX9_lastOfThing 17 = .ok (.bipush 7, 2) := by decide +kernel
theorem dX9_lastOfThing_19 : decode cX9_lastOfThing 19 = .ok (.ireturn, 1) := by decide +kernel
theorem dX9_noDoing_0 : decode cX9_noDoing 0 = .ok (.aload_n 0, 1) := by decide +kernel
theorem dX9_noDoing_1 : decode cX9_noDoing 1 = .ok (.getfield 93, 3) := by decide +kernel
theorem dX9_noDoing_4 : decode cX9_noDoing 4 = .ok (.bipush (-4), 2) := by decide +kernel
theorem dX9_noDoing_6 : decode cX9_noDoing 6 = .ok (.if_icmp .eq 14, 3) := by decide +kernel
theorem dX9_noDoing_9 : decode cX9_noDoing 9 = .ok (.aload_n 0, 1) := by decide +kernel
theorem dX9_noDoing_10 : decode cX9_noDoing 10 = .ok (.aload_n 0, 1) := by decide +kernel
theorem dX9_noDoing_11 : decode cX9_noDoing 11 = .ok (.getfield 97, 3) := by decide +kernel
theorem dX9_noDoing_14 : decode cX9_noDoing 14 = .ok (.invokevirtual 137, 3) := by decide +kernel
theorem dX9_noDoing_17 : decode cX9_noDoing 17 = .ok (.ifCond .eq 7, 3) := by decide +kernel
theorem dX9_noDoing_20 : decode cX9_noDoing 20 = .ok (.iconst 1, 1) := by decide +kernel
theorem dX9_noDoing_21 : decode cX9_noDoing 21 = .ok (.goto 4, 3) := by decide +kernel
theorem dX9_noDoing_24 : decode cX9_noDoing 24 = .ok (.iconst 0, 1) := by decide +kernel
theorem dX9_noDoing_25 : decode cX9_noDoing 25 = .ok (.ireturn, 1) := by decide +kernel
theorem dX9_comesOtherwise_0 : decode cX9_comesOtherwise 0 = .ok (.aload_n 0, 1) := by decide +kernel
theorem dX9_comesOtherwise_1 : decode cX9_comesOtherwise 1 = .ok (.getfield 46, 3) := by decide +kernel
theorem dX9_comesOtherwise_4 : decode cX9_comesOtherwise 4 = .ok (.aload_n 0, 1) := by decide +kernel
theorem dX9_comesOtherwise_5 : decode cX9_comesOtherwise 5 = .ok (.getfield 39, 3) := by decide +kernel
theorem dX9_comesOtherwise_8 : decode cX9_comesOtherwise 8 = .ok (.invokevirtual 229, 3) := by decide +kernel
theorem dX9_comesOtherwise_11 : decode cX9_comesOtherwise 11 = .ok (.aload_n 0, 1) := by decide +kernel
theorem dX9_comesOtherwise_12 : decode cX9_comesOtherwise 12 = .ok (.getfield 67, 3) := by decide +kernel
theorem dX9_comesOtherwise_15 : decode cX9_comesOtherwise 15 = .ok (.iload_n 1, 1) := by decide +kernel
theorem dX9_comesOtherwise_16 : decode cX9_comesOtherwise 16 = .ok (.aload_n 0, 1) := by decide +kernel
theorem dX9_comesOtherwise_17 : decode cX9_comesOtherwise 17 = .ok (.getfield 46, 3) := by decide +kernel
theorem dX9_comesOtherwise_20 : decode cX9_comesOtherwise 20 = .ok (.invokevirtual 310, 3) := by decide +kernel
theorem dX9_comesOtherwise_23 : decode cX9_comesOtherwise 23 = .ok (.istore_n 2, 1) := by decide +kernel
theorem dX9_comesOtherwise_24 : decode cX9_comesOtherwise 24 = .ok (.aload_n 0, 1) := by decide +kernel
theorem dX9_comesOtherwise_25 : decode cX9_comesOtherwise 25 = .ok (.iload_n 2, 1) := by decide +kernel
theorem dX9_comesOtherwise_26 : decode cX9_comesOtherwise 26 = .ok (.invokevirtual 314, 3) := by decide +kernel
theorem dX9_comesOtherwise_29 : decode cX9_comesOtherwise 29 = .ok (.ireturn, 1) := by decide +kernel
theorem dX9_comesWithMakers_0 : decode cX9_comesWithMakers 0 = .ok (.aload_n 0, 1) := by decide +kernel
theorem dX9_comesWithMakers_1 : decode cX9_comesWithMakers 1 = .ok (.getfield 46, 3) := by decide +kernel

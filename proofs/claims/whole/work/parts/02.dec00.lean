theorem dX0_init_0 : decode cX0_init 0 = .ok (.aload_n 0, 1) := by decide +kernel
theorem dX0_init_1 : decode cX0_init 1 = .ok (.invokespecial 3, 3) := by decide +kernel
theorem dX0_init_4 : decode cX0_init 4 = .ok (.aload_n 0, 1) := by decide +kernel
theorem dX0_init_5 : decode cX0_init 5 = .ok (.iconst 4, 1) := by decide +kernel
theorem dX0_init_6 : decode cX0_init 6 = .ok (.bipush 48, 2) := by decide +kernel
theorem dX0_init_8 : decode cX0_init 8 = .ok (.multianewarray 9 2, 4) := by decide +kernel
theorem dX0_init_12 : decode cX0_init 12 = .ok (.putfield 11, 3) := by decide +kernel
theorem dX0_init_15 : decode cX0_init 15 = .ok (.aload_n 0, 1) := by decide +kernel
theorem dX0_init_16 : decode cX0_init 16 = .ok (.iconst 0, 1) := by decide +kernel
theorem dX0_init_17 : decode cX0_init 17 = .ok (.putfield 16, 3) := by decide +kernel
theorem dX0_init_20 : decode cX0_init 20 = .ok (.return_, 1) := by decide +kernel
theorem dX0_add_0 : decode cX0_add 0 = .ok (.aload_n 0, 1) := by decide +kernel
theorem dX0_add_1 : decode cX0_add 1 = .ok (.getfield 16, 3) := by decide +kernel
theorem dX0_add_4 : decode cX0_add 4 = .ok (.bipush 48, 2) := by decide +kernel
theorem dX0_add_6 : decode cX0_add 6 = .ok (.if_icmp .ge 49, 3) := by decide +kernel
theorem dX0_add_9 : decode cX0_add 9 = .ok (.aload_n 0, 1) := by decide +kernel
theorem dX0_add_10 : decode cX0_add 10 = .ok (.getfield 11, 3) := by decide +kernel
theorem dX0_add_13 : decode cX0_add 13 = .ok (.iconst 0, 1) := by decide +kernel
theorem dX0_add_14 : decode cX0_add 14 = .ok (.aaload, 1) := by decide +kernel
theorem dX0_add_15 : decode cX0_add 15 = .ok (.aload_n 0, 1) := by decide +kernel
theorem dX0_add_16 : decode cX0_add 16 = .ok (.getfield 16, 3) := by decide +kernel
theorem dX0_add_19 : decode cX0_add 19 = .ok (.iload_n 1, 1) := by decide +kernel
theorem dX0_add_20 : decode cX0_add 20 = .ok (.iastore, 1) := by decide +kernel
theorem dX0_add_21 : decode cX0_add 21 = .ok (.aload_n 0, 1) := by decide +kernel
theorem dX0_add_22 : decode cX0_add 22 = .ok (.getfield 11, 3) := by decide +kernel
theorem dX0_add_25 : decode cX0_add 25 = .ok (.iconst 1, 1) := by decide +kernel
theorem dX0_add_26 : decode cX0_add 26 = .ok (.aaload, 1) := by decide +kernel
theorem dX0_add_27 : decode cX0_add 27 = .ok (.aload_n 0, 1) := by decide +kernel
theorem dX0_add_28 : decode cX0_add 28 = .ok (.getfield 16, 3) := by decide +kernel
theorem dX0_add_31 : decode cX0_add 31 = .ok (.iload_n 2, 1) := by decide +kernel
theorem dX0_add_32 : decode cX0_add 32 = .ok (.iastore, 1) := by decide +kernel
theorem dX0_add_33 : decode cX0_add 33 = .ok (.aload_n 0, 1) := by decide +kernel
theorem dX0_add_34 : decode cX0_add 34 = .ok (.getfield 11, 3) := by decide +kernel
theorem dX0_add_37 : decode cX0_add 37 = .ok (.iconst 2, 1) := by decide +kernel
theorem dX0_add_38 : decode cX0_add 38 = .ok (.aaload, 1) := by decide +kernel
theorem dX0_add_39 : decode cX0_add 39 = .ok (.aload_n 0, 1) := by decide +kernel
theorem dX0_add_40 : decode cX0_add 40 = .ok (.getfield 16, 3) := by decide +kernel
theorem dX0_add_43 : decode cX0_add 43 = .ok (.iload_n 3, 1) := by decide +kernel
theorem dX0_add_44 : decode cX0_add 44 = .ok (.iastore, 1) := by decide +kernel
theorem dX0_add_45 : decode cX0_add 45 = .ok (.aload_n 0, 1) := by decide +kernel
theorem dX0_add_46 : decode cX0_add 46 = .ok (.dup, 1) := by decide +kernel
theorem dX0_add_47 : decode cX0_add 47 = .ok (.getfield 16, 3) := by decide +kernel
theorem dX0_add_50 : decode cX0_add 50 = .ok (.iconst 1, 1) := by decide +kernel
theorem dX0_add_51 : decode cX0_add 51 = .ok (.iadd, 1) := by decide +kernel
theorem dX0_add_52 : decode cX0_add 52 = .ok (.putfield 16, 3) := by decide +kernel
theorem dX0_add_55 : decode cX0_add 55 = .ok (.return_, 1) := by decide +kernel
theorem dX0_lose_0 : decode cX0_lose 0 = .ok (.iload_n 1, 1) := by decide +kernel
theorem dX0_lose_1 : decode cX0_lose 1 = .ok (.istore_n 2, 1) := by decide +kernel
theorem dX0_lose_2 : decode cX0_lose 2 = .ok (.iconst 0, 1) := by decide +kernel
theorem dX0_lose_3 : decode cX0_lose 3 = .ok (.istore_n 3, 1) := by decide +kernel
theorem dX0_lose_4 : decode cX0_lose 4 = .ok (.iload_n 3, 1) := by decide +kernel
theorem dX0_lose_5 : decode cX0_lose 5 = .ok (.getstatic 20, 3) := by decide +kernel
theorem dX0_lose_8 : decode cX0_lose 8 = .ok (.arraylength, 1) := by decide +kernel
theorem dX0_lose_9 : decode cX0_lose 9 = .ok (.if_icmp .ge 61, 3) := by decide +kernel
theorem dX0_lose_12 : decode cX0_lose 12 = .ok (.aload_n 0, 1) := by decide +kernel
theorem dX0_lose_13 : decode cX0_lose 13 = .ok (.getfield 16, 3) := by decide +kernel
theorem dX0_lose_16 : decode cX0_lose 16 = .ok (.iconst 4, 1) := by decide +kernel
theorem dX0_lose_17 : decode cX0_lose 17 = .ok (.isub, 1) := by decide +kernel
theorem dX0_lose_18 : decode cX0_lose 18 = .ok (.getstatic 20, 3) := by decide +kernel
theorem dX0_lose_21 : decode cX0_lose 21 = .ok (.iload_n 3, 1) := by decide +kernel
theorem dX0_lose_22 : decode cX0_lose 22 = .ok (.iaload, 1) := by decide +kernel
theorem dX0_lose_23 : decode cX0_lose 23 = .ok (.iadd, 1) := by decide +kernel
theorem dX0_lose_24 : decode cX0_lose 24 = .ok (.istore 4, 2) := by decide +kernel
theorem dX0_lose_26 : decode cX0_lose 26 = .ok (.iload 4, 2) := by decide +kernel
theorem dX0_lose_28 : decode cX0_lose 28 = .ok (.ifCond .lt 36, 3) := by decide +kernel
theorem dX0_lose_31 : decode cX0_lose 31 = .ok (.iload_n 2, 1) := by decide +kernel
theorem dX0_lose_32 : decode cX0_lose 32 = .ok (.ifCond .le 32, 3) := by decide +kernel
theorem dX0_lose_35 : decode cX0_lose 35 = .ok (.aload_n 0, 1) := by decide +kernel
theorem dX0_lose_36 : decode cX0_lose 36 = .ok (.getfield 11, 3) := by decide +kernel
theorem dX0_lose_39 : decode cX0_lose 39 = .ok (.iconst 0, 1) := by decide +kernel
theorem dX0_lose_40 : decode cX0_lose 40 = .ok (.aaload, 1) := by decide +kernel
theorem dX0_lose_41 : decode cX0_lose 41 = .ok (.iload 4, 2) := by decide +kernel
theorem dX0_lose_43 : decode cX0_lose 43 = .ok (.iconst 5, 1) := by decide +kernel
theorem dX0_lose_44 : decode cX0_lose 44 = .ok (.iastore, 1) := by decide +kernel
theorem dX0_lose_45 : decode cX0_lose 45 = .ok (.aload_n 0, 1) := by decide +kernel
theorem dX0_lose_46 : decode cX0_lose 46 = .ok (.getfield 11, 3) := by decide +kernel
theorem dX0_lose_49 : decode cX0_lose 49 = .ok (.iconst 2, 1) := by decide +kernel
theorem dX0_lose_50 : decode cX0_lose 50 = .ok (.aaload, 1) := by decide +kernel
theorem dX0_lose_51 : decode cX0_lose 51 = .ok (.iload 4, 2) := by decide +kernel
theorem dX0_lose_53 : decode cX0_lose 53 = .ok (.iconst 0, 1) := by decide +kernel
theorem dX0_lose_54 : decode cX0_lose 54 = .ok (.iastore, 1) := by decide +kernel
theorem dX0_lose_55 : decode cX0_lose 55 = .ok (.iinc 2 (-1), 3) := by decide +kernel
theorem dX0_lose_58 : decode cX0_lose 58 = .ok (.iinc 4 (-4), 3) := by decide +kernel
theorem dX0_lose_61 : decode cX0_lose 61 = .ok (.goto (-35), 3) := by decide +kernel
theorem dX0_lose_64 : decode cX0_lose 64 = .ok (.iinc 3 1, 3) := by decide +kernel
theorem dX0_lose_67 : decode cX0_lose 67 = .ok (.goto (-63), 3) := by decide +kernel
theorem dX0_lose_70 : decode cX0_lose 70 = .ok (.return_, 1) := by decide +kernel
theorem dX0_sealAll_0 : decode cX0_sealAll 0 = .ok (.iconst 1, 1) := by decide +kernel
theorem dX0_sealAll_1 : decode cX0_sealAll 1 = .ok (.istore_n 1, 1) := by decide +kernel
theorem dX0_sealAll_2 : decode cX0_sealAll 2 = .ok (.iconst 0, 1) := by decide +kernel
theorem dX0_sealAll_3 : decode cX0_sealAll 3 = .ok (.istore_n 2, 1) := by decide +kernel
theorem dX0_sealAll_4 : decode cX0_sealAll 4 = .ok (.iload_n 2, 1) := by decide +kernel
theorem dX0_sealAll_5 : decode cX0_sealAll 5 = .ok (.aload_n 0, 1) := by decide +kernel
theorem dX0_sealAll_6 : decode cX0_sealAll 6 = .ok (.getfield 16, 3) := by decide +kernel
theorem dX0_sealAll_9 : decode cX0_sealAll 9 = .ok (.if_icmp .ge 68, 3) := by decide +kernel
theorem dX0_sealAll_12 : decode cX0_sealAll 12 = .ok (.sipush 131, 3) := by decide +kernel
theorem dX0_sealAll_15 : decode cX0_sealAll 15 = .ok (.aload_n 0, 1) := by decide +kernel
theorem dX0_sealAll_16 : decode cX0_sealAll 16 = .ok (.getfield 11, 3) := by decide +kernel
theorem dX0_sealAll_19 : decode cX0_sealAll 19 = .ok (.iconst 0, 1) := by decide +kernel
theorem dX0_sealAll_20 : decode cX0_sealAll 20 = .ok (.aaload, 1) := by decide +kernel
theorem dX0_sealAll_21 : decode cX0_sealAll 21 = .ok (.iload_n 2, 1) := by decide +kernel
theorem dX0_sealAll_22 : decode cX0_sealAll 22 = .ok (.iaload, 1) := by decide +kernel
theorem dX0_sealAll_23 : decode cX0_sealAll 23 = .ok (.imul, 1) := by decide +kernel
theorem dX0_sealAll_24 : decode cX0_sealAll 24 = .ok (.bipush 17, 2) := by decide +kernel
theorem dX0_sealAll_26 : decode cX0_sealAll 26 = .ok (.aload_n 0, 1) := by decide +kernel
theorem dX0_sealAll_27 : decode cX0_sealAll 27 = .ok (.getfield 11, 3) := by decide +kernel
theorem dX0_sealAll_30 : decode cX0_sealAll 30 = .ok (.iconst 1, 1) := by decide +kernel
theorem dX0_sealAll_31 : decode cX0_sealAll 31 = .ok (.aaload, 1) := by decide +kernel
theorem dX0_sealAll_32 : decode cX0_sealAll 32 = .ok (.iload_n 2, 1) := by decide +kernel
theorem dX0_sealAll_33 : decode cX0_sealAll 33 = .ok (.iaload, 1) := by decide +kernel
theorem dX0_sealAll_34 : decode cX0_sealAll 34 = .ok (.imul, 1) := by decide +kernel
theorem dX0_sealAll_35 : decode cX0_sealAll 35 = .ok (.iadd, 1) := by decide +kernel
theorem dX0_sealAll_36 : decode cX0_sealAll 36 = .ok (.bipush 7, 2) := by decide +kernel
theorem dX0_sealAll_38 : decode cX0_sealAll 38 = .ok (.aload_n 0, 1) := by decide +kernel
theorem dX0_sealAll_39 : decode cX0_sealAll 39 = .ok (.getfield 11, 3) := by decide +kernel
theorem dX0_sealAll_42 : decode cX0_sealAll 42 = .ok (.iconst 2, 1) := by decide +kernel
theorem dX0_sealAll_43 : decode cX0_sealAll 43 = .ok (.aaload, 1) := by decide +kernel
theorem dX0_sealAll_44 : decode cX0_sealAll 44 = .ok (.iload_n 2, 1) := by decide +kernel
theorem dX0_sealAll_45 : decode cX0_sealAll 45 = .ok (.iaload, 1) := by decide +kernel
theorem dX0_sealAll_46 : decode cX0_sealAll 46 = .ok (.imul, 1) := by decide +kernel
theorem dX0_sealAll_47 : decode cX0_sealAll 47 = .ok (.iadd, 1) := by decide +kernel
theorem dX0_sealAll_48 : decode cX0_sealAll 48 = .ok (.iconst 1, 1) := by decide +kernel
theorem dX0_sealAll_49 : decode cX0_sealAll 49 = .ok (.iadd, 1) := by decide +kernel
theorem dX0_sealAll_50 : decode cX0_sealAll 50 = .ok (.istore_n 3, 1) := by decide +kernel
theorem dX0_sealAll_51 : decode cX0_sealAll 51 = .ok (.bipush 31, 2) := by decide +kernel
theorem dX0_sealAll_53 : decode cX0_sealAll 53 = .ok (.iload_n 1, 1) := by decide +kernel
theorem dX0_sealAll_54 : decode cX0_sealAll 54 = .ok (.imul, 1) := by decide +kernel
theorem dX0_sealAll_55 : decode cX0_sealAll 55 = .ok (.iload_n 3, 1) := by decide +kernel
theorem dX0_sealAll_56 : decode cX0_sealAll 56 = .ok (.iadd, 1) := by decide +kernel
theorem dX0_sealAll_57 : decode cX0_sealAll 57 = .ok (.sipush 9973, 3) := by decide +kernel
theorem dX0_sealAll_60 : decode cX0_sealAll 60 = .ok (.irem, 1) := by decide +kernel
theorem dX0_sealAll_61 : decode cX0_sealAll 61 = .ok (.istore_n 1, 1) := by decide +kernel
theorem dX0_sealAll_62 : decode cX0_sealAll 62 = .ok (.aload_n 0, 1) := by decide +kernel
theorem dX0_sealAll_63 : decode cX0_sealAll 63 = .ok (.getfield 11, 3) := by decide +kernel
theorem dX0_sealAll_66 : decode cX0_sealAll 66 = .ok (.iconst 3, 1) := by decide +kernel
theorem dX0_sealAll_67 : decode cX0_sealAll 67 = .ok (.aaload, 1) := by decide +kernel
theorem dX0_sealAll_68 : decode cX0_sealAll 68 = .ok (.iload_n 2, 1) := by decide +kernel
theorem dX0_sealAll_69 : decode cX0_sealAll 69 = .ok (.iload_n 1, 1) := by decide +kernel
theorem dX0_sealAll_70 : decode cX0_sealAll 70 = .ok (.iastore, 1) := by decide +kernel
theorem dX0_sealAll_71 : decode cX0_sealAll 71 = .ok (.iinc 2 1, 3) := by decide +kernel
theorem dX0_sealAll_74 : decode cX0_sealAll 74 = .ok (.goto (-70), 3) := by decide +kernel
theorem dX0_sealAll_77 : decode cX0_sealAll 77 = .ok (.return_, 1) := by decide +kernel
theorem dX0_exchange_0 : decode cX0_exchange 0 = .ok (.iconst 0, 1) := by decide +kernel
theorem dX0_exchange_1 : decode cX0_exchange 1 = .ok (.istore_n 3, 1) := by decide +kernel
theorem dX0_exchange_2 : decode cX0_exchange 2 = .ok (.iload_n 3, 1) := by decide +kernel
theorem dX0_exchange_3 : decode cX0_exchange 3 = .ok (.iconst 2, 1) := by decide +kernel
theorem dX0_exchange_4 : decode cX0_exchange 4 = .ok (.if_icmp .gt 45, 3) := by decide +kernel
theorem dX0_exchange_7 : decode cX0_exchange 7 = .ok (.aload_n 0, 1) := by decide +kernel
theorem dX0_exchange_8 : decode cX0_exchange 8 = .ok (.getfield 11, 3) := by decide +kernel
theorem dX0_exchange_11 : decode cX0_exchange 11 = .ok (.iload_n 3, 1) := by decide +kernel
theorem dX0_exchange_12 : decode cX0_exchange 12 = .ok (.aaload, 1) := by decide +kernel
theorem dX0_exchange_13 : decode cX0_exchange 13 = .ok (.iload_n 1, 1) := by decide +kernel
theorem dX0_exchange_14 : decode cX0_exchange 14 = .ok (.iaload, 1) := by decide +kernel
theorem dX0_exchange_15 : decode cX0_exchange 15 = .ok (.istore 4, 2) := by decide +kernel
theorem dX0_exchange_17 : decode cX0_exchange 17 = .ok (.aload_n 0, 1) := by decide +kernel
theorem dX0_exchange_18 : decode cX0_exchange 18 = .ok (.getfield 11, 3) := by decide +kernel
theorem dX0_exchange_21 : decode cX0_exchange 21 = .ok (.iload_n 3, 1) := by decide +kernel
theorem dX0_exchange_22 : decode cX0_exchange 22 = .ok (.aaload, 1) := by decide +kernel
theorem dX0_exchange_23 : decode cX0_exchange 23 = .ok (.iload_n 1, 1) := by decide +kernel
theorem dX0_exchange_24 : decode cX0_exchange 24 = .ok (.aload_n 0, 1) := by decide +kernel
theorem dX0_exchange_25 : decode cX0_exchange 25 = .ok (.getfield 11, 3) := by decide +kernel
theorem dX0_exchange_28 : decode cX0_exchange 28 = .ok (.iload_n 3, 1) := by decide +kernel
theorem dX0_exchange_29 : decode cX0_exchange 29 = .ok (.aaload, 1) := by decide +kernel
theorem dX0_exchange_30 : decode cX0_exchange 30 = .ok (.iload_n 2, 1) := by decide +kernel
theorem dX0_exchange_31 : decode cX0_exchange 31 = .ok (.iaload, 1) := by decide +kernel
theorem dX0_exchange_32 : decode cX0_exchange 32 = .ok (.iastore, 1) := by decide +kernel
theorem dX0_exchange_33 : decode cX0_exchange 33 = .ok (.aload_n 0, 1) := by decide +kernel
theorem dX0_exchange_34 : decode cX0_exchange 34 = .ok (.getfield 11, 3) := by decide +kernel
theorem dX0_exchange_37 : decode cX0_exchange 37 = .ok (.iload_n 3, 1) := by decide +kernel
theorem dX0_exchange_38 : decode cX0_exchange 38 = .ok (.aaload, 1) := by decide +kernel
theorem dX0_exchange_39 : decode cX0_exchange 39 = .ok (.iload_n 2, 1) := by decide +kernel
theorem dX0_exchange_40 : decode cX0_exchange 40 = .ok (.iload 4, 2) := by decide +kernel
theorem dX0_exchange_42 : decode cX0_exchange 42 = .ok (.iastore, 1) := by decide +kernel
theorem dX0_exchange_43 : decode cX0_exchange 43 = .ok (.iinc 3 1, 3) := by decide +kernel
theorem dX0_exchange_46 : decode cX0_exchange 46 = .ok (.goto (-44), 3) := by decide +kernel
theorem dX0_exchange_49 : decode cX0_exchange 49 = .ok (.return_, 1) := by decide +kernel
theorem dX0_takeOut_0 : decode cX0_takeOut 0 = .ok (.iconst 0, 1) := by decide +kernel
theorem dX0_takeOut_1 : decode cX0_takeOut 1 = .ok (.istore_n 2, 1) := by decide +kernel
theorem dX0_takeOut_2 : decode cX0_takeOut 2 = .ok (.iload_n 2, 1) := by decide +kernel
theorem dX0_takeOut_3 : decode cX0_takeOut 3 = .ok (.iconst 2, 1) := by decide +kernel
theorem dX0_takeOut_4 : decode cX0_takeOut 4 = .ok (.if_icmp .gt 36, 3) := by decide +kernel
theorem dX0_takeOut_7 : decode cX0_takeOut 7 = .ok (.aload_n 0, 1) := by decide +kernel
theorem dX0_takeOut_8 : decode cX0_takeOut 8 = .ok (.getfield 11, 3) := by decide +kernel
theorem dX0_takeOut_11 : decode cX0_takeOut 11 = .ok (.iload_n 2, 1) := by decide +kernel
theorem dX0_takeOut_12 : decode cX0_takeOut 12 = .ok (.aaload, 1) := by decide +kernel
theorem dX0_takeOut_13 : decode cX0_takeOut 13 = .ok (.iload_n 1, 1) := by decide +kernel
theorem dX0_takeOut_14 : decode cX0_takeOut 14 = .ok (.iconst 1, 1) := by decide +kernel
theorem dX0_takeOut_15 : decode cX0_takeOut 15 = .ok (.iadd, 1) := by decide +kernel
theorem dX0_takeOut_16 : decode cX0_takeOut 16 = .ok (.aload_n 0, 1) := by decide +kernel
theorem dX0_takeOut_17 : decode cX0_takeOut 17 = .ok (.getfield 11, 3) := by decide +kernel
theorem dX0_takeOut_20 : decode cX0_takeOut 20 = .ok (.iload_n 2, 1) := by decide +kernel
theorem dX0_takeOut_21 : decode cX0_takeOut 21 = .ok (.aaload, 1) := by decide +kernel
theorem dX0_takeOut_22 : decode cX0_takeOut 22 = .ok (.iload_n 1, 1) := by decide +kernel
theorem dX0_takeOut_23 : decode cX0_takeOut 23 = .ok (.aload_n 0, 1) := by decide +kernel
theorem dX0_takeOut_24 : decode cX0_takeOut 24 = .ok (.getfield 16, 3) := by decide +kernel
theorem dX0_takeOut_27 : decode cX0_takeOut 27 = .ok (.iload_n 1, 1) := by decide +kernel
theorem dX0_takeOut_28 : decode cX0_takeOut 28 = .ok (.isub, 1) := by decide +kernel
theorem dX0_takeOut_29 : decode cX0_takeOut 29 = .ok (.iconst 1, 1) := by decide +kernel
theorem dX0_takeOut_30 : decode cX0_takeOut 30 = .ok (.isub, 1) := by decide +kernel
theorem dX0_takeOut_31 : decode cX0_takeOut 31 = .ok (.invokestatic 24, 3) := by decide +kernel
theorem dX0_takeOut_34 : decode cX0_takeOut 34 = .ok (.iinc 2 1, 3) := by decide +kernel
theorem dX0_takeOut_37 : decode cX0_takeOut 37 = .ok (.goto (-35), 3) := by decide +kernel
theorem dX0_takeOut_40 : decode cX0_takeOut 40 = .ok (.aload_n 0, 1) := by decide +kernel
theorem dX0_takeOut_41 : decode cX0_takeOut 41 = .ok (.dup, 1) := by decide +kernel
theorem dX0_takeOut_42 : decode cX0_takeOut 42 = .ok (.getfield 16, 3) := by decide +kernel
theorem dX0_takeOut_45 : decode cX0_takeOut 45 = .ok (.iconst 1, 1) := by decide +kernel
theorem dX0_takeOut_46 : decode cX0_takeOut 46 = .ok (.isub, 1) := by decide +kernel
theorem dX0_takeOut_47 : decode cX0_takeOut 47 = .ok (.putfield 16, 3) := by decide +kernel
theorem dX0_takeOut_50 : decode cX0_takeOut 50 = .ok (.return_, 1) := by decide +kernel
theorem dX0_countLost_0 : decode cX0_countLost 0 = .ok (.iconst 0, 1) := by decide +kernel
theorem dX0_countLost_1 : decode cX0_countLost 1 = .ok (.istore_n 1, 1) := by decide +kernel
theorem dX0_countLost_2 : decode cX0_countLost 2 = .ok (.iconst 0, 1) := by decide +kernel
theorem dX0_countLost_3 : decode cX0_countLost 3 = .ok (.istore_n 2, 1) := by decide +kernel
theorem dX0_countLost_4 : decode cX0_countLost 4 = .ok (.iload_n 2, 1) := by decide +kernel
theorem dX0_countLost_5 : decode cX0_countLost 5 = .ok (.aload_n 0, 1) := by decide +kernel
theorem dX0_countLost_6 : decode cX0_countLost 6 = .ok (.getfield 16, 3) := by decide +kernel
theorem dX0_countLost_9 : decode cX0_countLost 9 = .ok (.if_icmp .ge 24, 3) := by decide +kernel
theorem dX0_countLost_12 : decode cX0_countLost 12 = .ok (.aload_n 0, 1) := by decide +kernel
theorem dX0_countLost_13 : decode cX0_countLost 13 = .ok (.getfield 11, 3) := by decide +kernel
theorem dX0_countLost_16 : decode cX0_countLost 16 = .ok (.iconst 0, 1) := by decide +kernel
theorem dX0_countLost_17 : decode cX0_countLost 17 = .ok (.aaload, 1) := by decide +kernel
theorem dX0_countLost_18 : decode cX0_countLost 18 = .ok (.iload_n 2, 1) := by decide +kernel
theorem dX0_countLost_19 : decode cX0_countLost 19 = .ok (.iaload, 1) := by decide +kernel
theorem dX0_countLost_20 : decode cX0_countLost 20 = .ok (.iconst 5, 1) := by decide +kernel
theorem dX0_countLost_21 : decode cX0_countLost 21 = .ok (.if_icmp .ne 6, 3) := by decide +kernel
theorem dX0_countLost_24 : decode cX0_countLost 24 = .ok (.iinc 1 1, 3) := by decide +kernel
theorem dX0_countLost_27 : decode cX0_countLost 27 = .ok (.iinc 2 1, 3) := by decide +kernel
theorem dX0_countLost_30 : decode cX0_countLost 30 = .ok (.goto (-26), 3) := by decide +kernel
theorem dX0_countLost_33 : decode cX0_countLost 33 = .ok (.iload_n 1, 1) := by decide +kernel
theorem dX0_countLost_34 : decode cX0_countLost 34 = .ok (.ireturn, 1) := by decide +kernel
theorem dX1_init_0 : decode cX1_init 0 = .ok (.aload_n 0, 1) := by decide +kernel
theorem dX1_init_1 : decode cX1_init 1 = .ok (.invokespecial 3, 3) := by decide +kernel
theorem dX1_init_4 : decode cX1_init 4 = .ok (.aload_n 0, 1) := by decide +kernel
theorem dX1_init_5 : decode cX1_init 5 = .ok (.bipush 48, 2) := by decide +kernel
theorem dX1_init_7 : decode cX1_init 7 = .ok (.newarray .int, 2) := by decide +kernel
theorem dX1_init_9 : decode cX1_init 9 = .ok (.putfield 9, 3) := by decide +kernel
theorem dX1_init_12 : decode cX1_init 12 = .ok (.aload_n 0, 1) := by decide +kernel
theorem dX1_init_13 : decode cX1_init 13 = .ok (.iconst 0, 1) := by decide +kernel
theorem dX1_init_14 : decode cX1_init 14 = .ok (.putfield 15, 3) := by decide +kernel
theorem dX1_init_17 : decode cX1_init 17 = .ok (.return_, 1) := by decide +kernel
theorem dX1_hold_0 : decode cX1_hold 0 = .ok (.aload_n 0, 1) := by decide +kernel
theorem dX1_hold_1 : decode cX1_hold 1 = .ok (.aload_n 1, 1) := by decide +kernel
theorem dX1_hold_2 : decode cX1_hold 2 = .ok (.getfield 19, 3) := by decide +kernel
theorem dX1_hold_5 : decode cX1_hold 5 = .ok (.putfield 15, 3) := by decide +kernel
theorem dX1_hold_8 : decode cX1_hold 8 = .ok (.aload_n 1, 1) := by decide +kernel
theorem dX1_hold_9 : decode cX1_hold 9 = .ok (.getfield 22, 3) := by decide +kernel
theorem dX1_hold_12 : decode cX1_hold 12 = .ok (.iconst 3, 1) := by decide +kernel
theorem dX1_hold_13 : decode cX1_hold 13 = .ok (.aaload, 1) := by decide +kernel
theorem dX1_hold_14 : decode cX1_hold 14 = .ok (.iconst 0, 1) := by decide +kernel
theorem dX1_hold_15 : decode cX1_hold 15 = .ok (.aload_n 0, 1) := by decide +kernel
theorem dX1_hold_16 : decode cX1_hold 16 = .ok (.getfield 9, 3) := by decide +kernel
theorem dX1_hold_19 : decode cX1_hold 19 = .ok (.iconst 0, 1) := by decide +kernel
theorem dX1_hold_20 : decode cX1_hold 20 = .ok (.aload_n 0, 1) := by decide +kernel
theorem dX1_hold_21 : decode cX1_hold 21 = .ok (.getfield 15, 3) := by decide +kernel
theorem dX1_hold_24 : decode cX1_hold 24 = .ok (.invokestatic 26, 3) := by decide +kernel
theorem dX1_hold_27 : decode cX1_hold 27 = .ok (.return_, 1) := by decide +kernel
theorem dX2_init_0 : decode cX2_init 0 = .ok (.aload_n 0, 1) := by decide +kernel
theorem dX2_init_1 : decode cX2_init 1 = .ok (.invokespecial 3, 3) := by decide +kernel
theorem dX2_init_4 : decode cX2_init 4 = .ok (.aload_n 0, 1) := by decide +kernel
theorem dX2_init_5 : decode cX2_init 5 = .ok (.bipush 8, 2) := by decide +kernel
theorem dX2_init_7 : decode cX2_init 7 = .ok (.newarray .int, 2) := by decide +kernel
theorem dX2_init_9 : decode cX2_init 9 = .ok (.putfield 9, 3) := by decide +kernel
theorem dX2_init_12 : decode cX2_init 12 = .ok (.aload_n 0, 1) := by decide +kernel
theorem dX2_init_13 : decode cX2_init 13 = .ok (.bipush 8, 2) := by decide +kernel
theorem dX2_init_15 : decode cX2_init 15 = .ok (.newarray .int, 2) := by decide +kernel
theorem dX2_init_17 : decode cX2_init 17 = .ok (.putfield 15, 3) := by decide +kernel
theorem dX2_init_20 : decode cX2_init 20 = .ok (.aload_n 0, 1) := by decide +kernel
theorem dX2_init_21 : decode cX2_init 21 = .ok (.bipush 8, 2) := by decide +kernel
theorem dX2_init_23 : decode cX2_init 23 = .ok (.newarray .int, 2) := by decide +kernel
theorem dX2_init_25 : decode cX2_init 25 = .ok (.putfield 18, 3) := by decide +kernel
theorem dX2_init_28 : decode cX2_init 28 = .ok (.aload_n 0, 1) := by decide +kernel
theorem dX2_init_29 : decode cX2_init 29 = .ok (.bipush 8, 2) := by decide +kernel
theorem dX2_init_31 : decode cX2_init 31 = .ok (.iconst 4, 1) := by decide +kernel
theorem dX2_init_32 : decode cX2_init 32 = .ok (.multianewarray 21 2, 4) := by decide +kernel
theorem dX2_init_36 : decode cX2_init 36 = .ok (.putfield 23, 3) := by decide +kernel
theorem dX2_init_39 : decode cX2_init 39 = .ok (.aload_n 0, 1) := by decide +kernel
theorem dX2_init_40 : decode cX2_init 40 = .ok (.iconst 0, 1) := by decide +kernel
theorem dX2_init_41 : decode cX2_init 41 = .ok (.putfield 26, 3) := by decide +kernel
theorem dX2_init_44 : decode cX2_init 44 = .ok (.return_, 1) := by decide +kernel
theorem dX2_choose_0 : decode cX2_choose 0 = .ok (.iconst 0, 1) := by decide +kernel
theorem dX2_choose_1 : decode cX2_choose 1 = .ok (.istore 4, 2) := by decide +kernel
theorem dX2_choose_3 : decode cX2_choose 3 = .ok (.iload 4, 2) := by decide +kernel
theorem dX2_choose_5 : decode cX2_choose 5 = .ok (.aload_n 0, 1) := by decide +kernel
theorem dX2_choose_6 : decode cX2_choose 6 = .ok (.getfield 26, 3) := by decide +kernel
theorem dX2_choose_9 : decode cX2_choose 9 = .ok (.if_icmp .ge 39, 3) := by decide +kernel
theorem dX2_choose_12 : decode cX2_choose 12 = .ok (.iload_n 1, 1) := by decide +kernel
theorem dX2_choose_13 : decode cX2_choose 13 = .ok (.iload 4, 2) := by decide +kernel
theorem dX2_choose_15 : decode cX2_choose 15 = .ok (.ishr, 1) := by decide +kernel
theorem dX2_choose_16 : decode cX2_choose 16 = .ok (.iconst 1, 1) := by decide +kernel
theorem dX2_choose_17 : decode cX2_choose 17 = .ok (.iand, 1) := by decide +kernel
theorem dX2_choose_18 : decode cX2_choose 18 = .ok (.iconst 1, 1) := by decide +kernel
theorem dX2_choose_19 : decode cX2_choose 19 = .ok (.if_icmp .ne 23, 3) := by decide +kernel
theorem dX2_choose_22 : decode cX2_choose 22 = .ok (.aload_n 0, 1) := by decide +kernel
theorem dX2_choose_23 : decode cX2_choose 23 = .ok (.getfield 23, 3) := by decide +kernel
theorem dX2_choose_26 : decode cX2_choose 26 = .ok (.iload 4, 2) := by decide +kernel
theorem dX2_choose_28 : decode cX2_choose 28 = .ok (.aaload, 1) := by decide +kernel
theorem dX2_choose_29 : decode cX2_choose 29 = .ok (.iload_n 2, 1) := by decide +kernel
theorem dX2_choose_30 : decode cX2_choose 30 = .ok (.iaload, 1) := by decide +kernel
theorem dX2_choose_31 : decode cX2_choose 31 = .ok (.iload_n 3, 1) := by decide +kernel
theorem dX2_choose_32 : decode cX2_choose 32 = .ok (.iushr, 1) := by decide +kernel
theorem dX2_choose_33 : decode cX2_choose 33 = .ok (.iconst 1, 1) := by decide +kernel
theorem dX2_choose_34 : decode cX2_choose 34 = .ok (.iand, 1) := by decide +kernel
theorem dX2_choose_35 : decode cX2_choose 35 = .ok (.iconst 1, 1) := by decide +kernel
theorem dX2_choose_36 : decode cX2_choose 36 = .ok (.if_icmp .ne 6, 3) := by decide +kernel
theorem dX2_choose_39 : decode cX2_choose 39 = .ok (.iload 4, 2) := by decide +kernel
theorem dX2_choose_41 : decode cX2_choose 41 = .ok (.ireturn, 1) := by decide +kernel
theorem dX2_choose_42 : decode cX2_choose 42 = .ok (.iinc 4 1, 3) := by decide +kernel
theorem dX2_choose_45 : decode cX2_choose 45 = .ok (.goto (-42), 3) := by decide +kernel
theorem dX2_choose_48 : decode cX2_choose 48 = .ok (.bipush 8, 2) := by decide +kernel
theorem dX2_choose_50 : decode cX2_choose 50 = .ok (.ireturn, 1) := by decide +kernel
theorem dX2_actOf_0 : decode cX2_actOf 0 = .ok (.iload_n 1, 1) := by decide +kernel
theorem dX2_actOf_1 : decode cX2_actOf 1 = .ok (.aload_n 0, 1) := by decide +kernel
theorem dX2_actOf_2 : decode cX2_actOf 2 = .ok (.getfield 26, 3) := by decide +kernel
theorem dX2_actOf_5 : decode cX2_actOf 5 = .ok (.if_icmp .ge 12, 3) := by decide +kernel
theorem dX2_actOf_8 : decode cX2_actOf 8 = .ok (.aload_n 0, 1) := by decide +kernel
theorem dX2_actOf_9 : decode cX2_actOf 9 = .ok (.getfield 15, 3) := by decide +kernel
theorem dX2_actOf_12 : decode cX2_actOf 12 = .ok (.iload_n 1, 1) := by decide +kernel
theorem dX2_actOf_13 : decode cX2_actOf 13 = .ok (.iaload, 1) := by decide +kernel
theorem dX2_actOf_14 : decode cX2_actOf 14 = .ok (.goto 4, 3) := by decide +kernel
theorem dX2_actOf_17 : decode cX2_actOf 17 = .ok (.iconst 0, 1) := by decide +kernel
theorem dX2_actOf_18 : decode cX2_actOf 18 = .ok (.ireturn, 1) := by decide +kernel
theorem dX2_stateAfter_0 : decode cX2_stateAfter 0 = .ok (.iload_n 1, 1) := by decide +kernel
theorem dX2_stateAfter_1 : decode cX2_stateAfter 1 = .ok (.aload_n 0, 1) := by decide +kernel
theorem dX2_stateAfter_2 : decode cX2_stateAfter 2 = .ok (.getfield 26, 3) := by decide +kernel
theorem dX2_stateAfter_5 : decode cX2_stateAfter 5 = .ok (.if_icmp .ge 23, 3) := by decide +kernel
theorem dX2_stateAfter_8 : decode cX2_stateAfter 8 = .ok (.aload_n 0, 1) := by decide +kernel
theorem dX2_stateAfter_9 : decode cX2_stateAfter 9 = .ok (.getfield 18, 3) := by decide +kernel
theorem dX2_stateAfter_12 : decode cX2_stateAfter 12 = .ok (.iload_n 1, 1) := by decide +kernel
theorem dX2_stateAfter_13 : decode cX2_stateAfter 13 = .ok (.iaload, 1) := by decide +kernel
theorem dX2_stateAfter_14 : decode cX2_stateAfter 14 = .ok (.bipush (-4), 2) := by decide +kernel
theorem dX2_stateAfter_16 : decode cX2_stateAfter 16 = .ok (.if_icmp .eq 12, 3) := by decide +kernel
theorem dX2_stateAfter_19 : decode cX2_stateAfter 19 = .ok (.aload_n 0, 1) := by decide +kernel
theorem dX2_stateAfter_20 : decode cX2_stateAfter 20 = .ok (.getfield 18, 3) := by decide +kernel
theorem dX2_stateAfter_23 : decode cX2_stateAfter 23 = .ok (.iload_n 1, 1) := by decide +kernel
theorem dX2_stateAfter_24 : decode cX2_stateAfter 24 = .ok (.iaload, 1) := by decide +kernel
theorem dX2_stateAfter_25 : decode cX2_stateAfter 25 = .ok (.goto 4, 3) := by decide +kernel
theorem dX2_stateAfter_28 : decode cX2_stateAfter 28 = .ok (.iload_n 2, 1) := by decide +kernel
theorem dX2_stateAfter_29 : decode cX2_stateAfter 29 = .ok (.ireturn, 1) := by decide +kernel
theorem dX2_rulesOf_0 : decode cX2_rulesOf 0 = .ok (.iconst 0, 1) := by decide +kernel
theorem dX2_rulesOf_1 : decode cX2_rulesOf 1 = .ok (.istore_n 2, 1) := by decide +kernel
theorem dX2_rulesOf_2 : decode cX2_rulesOf 2 = .ok (.iconst 0, 1) := by decide +kernel
theorem dX2_rulesOf_3 : decode cX2_rulesOf 3 = .ok (.istore_n 3, 1) := by decide +kernel
theorem dX2_rulesOf_4 : decode cX2_rulesOf 4 = .ok (.iload_n 3, 1) := by decide +kernel
theorem dX2_rulesOf_5 : decode cX2_rulesOf 5 = .ok (.aload_n 0, 1) := by decide +kernel
theorem dX2_rulesOf_6 : decode cX2_rulesOf 6 = .ok (.getfield 26, 3) := by decide +kernel
theorem dX2_rulesOf_9 : decode cX2_rulesOf 9 = .ok (.if_icmp .ge 24, 3) := by decide +kernel
theorem dX2_rulesOf_12 : decode cX2_rulesOf 12 = .ok (.iload_n 2, 1) := by decide +kernel
theorem dX2_rulesOf_13 : decode cX2_rulesOf 13 = .ok (.iload_n 1, 1) := by decide +kernel
theorem dX2_rulesOf_14 : decode cX2_rulesOf 14 = .ok (.aload_n 0, 1) := by decide +kernel
theorem dX2_rulesOf_15 : decode cX2_rulesOf 15 = .ok (.getfield 9, 3) := by decide +kernel
theorem dX2_rulesOf_18 : decode cX2_rulesOf 18 = .ok (.iload_n 3, 1) := by decide +kernel
theorem dX2_rulesOf_19 : decode cX2_rulesOf 19 = .ok (.iaload, 1) := by decide +kernel
theorem dX2_rulesOf_20 : decode cX2_rulesOf 20 = .ok (.ishr, 1) := by decide +kernel
theorem dX2_rulesOf_21 : decode cX2_rulesOf 21 = .ok (.iconst 1, 1) := by decide +kernel
theorem dX2_rulesOf_22 : decode cX2_rulesOf 22 = .ok (.iand, 1) := by decide +kernel
theorem dX2_rulesOf_23 : decode cX2_rulesOf 23 = .ok (.iload_n 3, 1) := by decide +kernel
theorem dX2_rulesOf_24 : decode cX2_rulesOf 24 = .ok (.ishl, 1) := by decide +kernel
theorem dX2_rulesOf_25 : decode cX2_rulesOf 25 = .ok (.ior, 1) := by decide +kernel
theorem dX2_rulesOf_26 : decode cX2_rulesOf 26 = .ok (.istore_n 2, 1) := by decide +kernel
theorem dX2_rulesOf_27 : decode cX2_rulesOf 27 = .ok (.iinc 3 1, 3) := by decide +kernel
theorem dX2_rulesOf_30 : decode cX2_rulesOf 30 = .ok (.goto (-26), 3) := by decide +kernel
theorem dX2_rulesOf_33 : decode cX2_rulesOf 33 = .ok (.iload_n 2, 1) := by decide +kernel
theorem dX2_rulesOf_34 : decode cX2_rulesOf 34 = .ok (.ireturn, 1) := by decide +kernel
theorem dX3_init_0 : decode cX3_init 0 = .ok (.aload_n 0, 1) := by decide +kernel
theorem dX3_init_1 : decode cX3_init 1 = .ok (.invokespecial 3, 3) := by decide +kernel
theorem dX3_init_4 : decode cX3_init 4 = .ok (.aload_n 0, 1) := by decide +kernel
theorem dX3_init_5 : decode cX3_init 5 = .ok (.bipush 12, 2) := by decide +kernel
theorem dX3_init_7 : decode cX3_init 7 = .ok (.newarray .int, 2) := by decide +kernel
theorem dX3_init_9 : decode cX3_init 9 = .ok (.putfield 9, 3) := by decide +kernel
theorem dX3_init_12 : decode cX3_init 12 = .ok (.aload_n 0, 1) := by decide +kernel
theorem dX3_init_13 : decode cX3_init 13 = .ok (.bipush 12, 2) := by decide +kernel
theorem dX3_init_15 : decode cX3_init 15 = .ok (.newarray .int, 2) := by decide +kernel
theorem dX3_init_17 : decode cX3_init 17 = .ok (.putfield 15, 3) := by decide +kernel
theorem dX3_init_20 : decode cX3_init 20 = .ok (.aload_n 0, 1) := by decide +kernel
theorem dX3_init_21 : decode cX3_init 21 = .ok (.bipush 12, 2) := by decide +kernel
theorem dX3_init_23 : decode cX3_init 23 = .ok (.newarray .int, 2) := by decide +kernel
theorem dX3_init_25 : decode cX3_init 25 = .ok (.putfield 18, 3) := by decide +kernel
theorem dX3_init_28 : decode cX3_init 28 = .ok (.aload_n 0, 1) := by decide +kernel
theorem dX3_init_29 : decode cX3_init 29 = .ok (.bipush 12, 2) := by decide +kernel
theorem dX3_init_31 : decode cX3_init 31 = .ok (.newarray .int, 2) := by decide +kernel
theorem dX3_init_33 : decode cX3_init 33 = .ok (.putfield 21, 3) := by decide +kernel
theorem dX3_init_36 : decode cX3_init 36 = .ok (.aload_n 0, 1) := by decide +kernel
theorem dX3_init_37 : decode cX3_init 37 = .ok (.bipush 12, 2) := by decide +kernel
theorem dX3_init_39 : decode cX3_init 39 = .ok (.newarray .int, 2) := by decide +kernel
theorem dX3_init_41 : decode cX3_init 41 = .ok (.putfield 24, 3) := by decide +kernel
theorem dX3_init_44 : decode cX3_init 44 = .ok (.return_, 1) := by decide +kernel
theorem dX3_look_0 : decode cX3_look 0 = .ok (.aload_n 1, 1) := by decide +kernel
theorem dX3_look_1 : decode cX3_look 1 = .ok (.getfield 27, 3) := by decide +kernel
theorem dX3_look_4 : decode cX3_look 4 = .ok (.iconst 0, 1) := by decide +kernel
theorem dX3_look_5 : decode cX3_look 5 = .ok (.aaload, 1) := by decide +kernel
theorem dX3_look_6 : decode cX3_look 6 = .ok (.iconst 0, 1) := by decide +kernel
theorem dX3_look_7 : decode cX3_look 7 = .ok (.aload_n 0, 1) := by decide +kernel
theorem dX3_look_8 : decode cX3_look 8 = .ok (.getfield 9, 3) := by decide +kernel
theorem dX3_look_11 : decode cX3_look 11 = .ok (.iconst 0, 1) := by decide +kernel
theorem dX3_look_12 : decode cX3_look 12 = .ok (.bipush 12, 2) := by decide +kernel
theorem dX3_look_14 : decode cX3_look 14 = .ok (.invokestatic 33, 3) := by decide +kernel
theorem dX3_look_17 : decode cX3_look 17 = .ok (.aload_n 1, 1) := by decide +kernel
theorem dX3_look_18 : decode cX3_look 18 = .ok (.getfield 27, 3) := by decide +kernel
theorem dX3_look_21 : decode cX3_look 21 = .ok (.iconst 1, 1) := by decide +kernel
theorem dX3_look_22 : decode cX3_look 22 = .ok (.aaload, 1) := by decide +kernel
theorem dX3_look_23 : decode cX3_look 23 = .ok (.iconst 0, 1) := by decide +kernel
theorem dX3_look_24 : decode cX3_look 24 = .ok (.aload_n 0, 1) := by decide +kernel
theorem dX3_look_25 : decode cX3_look 25 = .ok (.getfield 15, 3) := by decide +kernel
theorem dX3_look_28 : decode cX3_look 28 = .ok (.iconst 0, 1) := by decide +kernel
theorem dX3_look_29 : decode cX3_look 29 = .ok (.bipush 12, 2) := by decide +kernel
theorem dX3_look_31 : decode cX3_look 31 = .ok (.invokestatic 33, 3) := by decide +kernel
theorem dX3_look_34 : decode cX3_look 34 = .ok (.return_, 1) := by decide +kernel
theorem dX3_hide_0 : decode cX3_hide 0 = .ok (.iconst 0, 1) := by decide +kernel
theorem dX3_hide_1 : decode cX3_hide 1 = .ok (.istore_n 2, 1) := by decide +kernel
theorem dX3_hide_2 : decode cX3_hide 2 = .ok (.iload_n 2, 1) := by decide +kernel
theorem dX3_hide_3 : decode cX3_hide 3 = .ok (.bipush 12, 2) := by decide +kernel
theorem dX3_hide_5 : decode cX3_hide 5 = .ok (.if_icmp .ge 26, 3) := by decide +kernel
theorem dX3_hide_8 : decode cX3_hide 8 = .ok (.aload_n 0, 1) := by decide +kernel
theorem dX3_hide_9 : decode cX3_hide 9 = .ok (.getfield 9, 3) := by decide +kernel
theorem dX3_hide_12 : decode cX3_hide 12 = .ok (.iload_n 2, 1) := by decide +kernel
theorem dX3_hide_13 : decode cX3_hide 13 = .ok (.dup2, 1) := by decide +kernel
theorem dX3_hide_14 : decode cX3_hide 14 = .ok (.iaload, 1) := by decide +kernel
theorem dX3_hide_15 : decode cX3_hide 15 = .ok (.aload_n 1, 1) := by decide +kernel
theorem dX3_hide_16 : decode cX3_hide 16 = .ok (.getfield 27, 3) := by decide +kernel
theorem dX3_hide_19 : decode cX3_hide 19 = .ok (.iconst 2, 1) := by decide +kernel
theorem dX3_hide_20 : decode cX3_hide 20 = .ok (.aaload, 1) := by decide +kernel
theorem dX3_hide_21 : decode cX3_hide 21 = .ok (.iload_n 2, 1) := by decide +kernel
theorem dX3_hide_22 : decode cX3_hide 22 = .ok (.iaload, 1) := by decide +kernel
theorem dX3_hide_23 : decode cX3_hide 23 = .ok (.iand, 1) := by decide +kernel
theorem dX3_hide_24 : decode cX3_hide 24 = .ok (.iastore, 1) := by decide +kernel
theorem dX3_hide_25 : decode cX3_hide 25 = .ok (.iinc 2 1, 3) := by decide +kernel
theorem dX3_hide_28 : decode cX3_hide 28 = .ok (.goto (-26), 3) := by decide +kernel
theorem dX3_hide_31 : decode cX3_hide 31 = .ok (.return_, 1) := by decide +kernel
theorem dX3_run_0 : decode cX3_run 0 = .ok (.iconst 0, 1) := by decide +kernel
theorem dX3_run_1 : decode cX3_run 1 = .ok (.istore 4, 2) := by decide +kernel
theorem dX3_run_3 : decode cX3_run 3 = .ok (.iconst 0, 1) := by decide +kernel
theorem dX3_run_4 : decode cX3_run 4 = .ok (.istore 5, 2) := by decide +kernel
theorem dX3_run_6 : decode cX3_run 6 = .ok (.iload 5, 2) := by decide +kernel
theorem dX3_run_8 : decode cX3_run 8 = .ok (.iload_n 3, 1) := by decide +kernel
theorem dX3_run_9 : decode cX3_run 9 = .ok (.if_icmp .ge 76, 3) := by decide +kernel
theorem dX3_run_12 : decode cX3_run 12 = .ok (.aload_n 1, 1) := by decide +kernel
theorem dX3_run_13 : decode cX3_run 13 = .ok (.iload_n 2, 1) := by decide +kernel
theorem dX3_run_14 : decode cX3_run 14 = .ok (.iload 4, 2) := by decide +kernel
theorem dX3_run_16 : decode cX3_run 16 = .ok (.iconst 2, 1) := by decide +kernel
theorem dX3_run_17 : decode cX3_run 17 = .ok (.aload_n 0, 1) := by decide +kernel
theorem dX3_run_18 : decode cX3_run 18 = .ok (.getfield 9, 3) := by decide +kernel
theorem dX3_run_21 : decode cX3_run 21 = .ok (.iload 5, 2) := by decide +kernel
theorem dX3_run_23 : decode cX3_run 23 = .ok (.iaload, 1) := by decide +kernel
theorem dX3_run_24 : decode cX3_run 24 = .ok (.imul, 1) := by decide +kernel
theorem dX3_run_25 : decode cX3_run 25 = .ok (.aload_n 0, 1) := by decide +kernel
theorem dX3_run_26 : decode cX3_run 26 = .ok (.getfield 15, 3) := by decide +kernel
theorem dX3_run_29 : decode cX3_run 29 = .ok (.iload 5, 2) := by decide +kernel
theorem dX3_run_31 : decode cX3_run 31 = .ok (.iaload, 1) := by decide +kernel
theorem dX3_run_32 : decode cX3_run 32 = .ok (.iadd, 1) := by decide +kernel
theorem dX3_run_33 : decode cX3_run 33 = .ok (.invokevirtual 39, 3) := by decide +kernel
theorem dX3_run_36 : decode cX3_run 36 = .ok (.istore 6, 2) := by decide +kernel
theorem dX3_run_38 : decode cX3_run 38 = .ok (.aload_n 0, 1) := by decide +kernel
theorem dX3_run_39 : decode cX3_run 39 = .ok (.getfield 18, 3) := by decide +kernel
theorem dX3_run_42 : decode cX3_run 42 = .ok (.iload 5, 2) := by decide +kernel
theorem dX3_run_44 : decode cX3_run 44 = .ok (.iload 4, 2) := by decide +kernel
theorem dX3_run_46 : decode cX3_run 46 = .ok (.iastore, 1) := by decide +kernel
theorem dX3_run_47 : decode cX3_run 47 = .ok (.aload_n 0, 1) := by decide +kernel
theorem dX3_run_48 : decode cX3_run 48 = .ok (.getfield 21, 3) := by decide +kernel
theorem dX3_run_51 : decode cX3_run 51 = .ok (.iload 5, 2) := by decide +kernel
theorem dX3_run_53 : decode cX3_run 53 = .ok (.iload 6, 2) := by decide +kernel
theorem dX3_run_55 : decode cX3_run 55 = .ok (.iastore, 1) := by decide +kernel
theorem dX3_run_56 : decode cX3_run 56 = .ok (.aload_n 0, 1) := by decide +kernel
theorem dX3_run_57 : decode cX3_run 57 = .ok (.getfield 24, 3) := by decide +kernel
theorem dX3_run_60 : decode cX3_run 60 = .ok (.iload 5, 2) := by decide +kernel
theorem dX3_run_62 : decode cX3_run 62 = .ok (.aload_n 1, 1) := by decide +kernel
theorem dX3_run_63 : decode cX3_run 63 = .ok (.iload 6, 2) := by decide +kernel
theorem dX3_run_65 : decode cX3_run 65 = .ok (.invokevirtual 45, 3) := by decide +kernel
theorem dX3_run_68 : decode cX3_run 68 = .ok (.iastore, 1) := by decide +kernel
theorem dX3_run_69 : decode cX3_run 69 = .ok (.aload_n 1, 1) := by decide +kernel
theorem dX3_run_70 : decode cX3_run 70 = .ok (.iload 6, 2) := by decide +kernel
theorem dX3_run_72 : decode cX3_run 72 = .ok (.iload 4, 2) := by decide +kernel
theorem dX3_run_74 : decode cX3_run 74 = .ok (.invokevirtual 49, 3) := by decide +kernel
theorem dX3_run_77 : decode cX3_run 77 = .ok (.istore 4, 2) := by decide +kernel
theorem dX3_run_79 : decode cX3_run 79 = .ok (.iinc 5 1, 3) := by decide +kernel
theorem dX3_run_82 : decode cX3_run 82 = .ok (.goto (-76), 3) := by decide +kernel
theorem dX3_run_85 : decode cX3_run 85 = .ok (.return_, 1) := by decide +kernel
theorem dX4_init_0 : decode cX4_init 0 = .ok (.aload_n 0, 1) := by decide +kernel
theorem dX4_init_1 : decode cX4_init 1 = .ok (.invokespecial 3, 3) := by decide +kernel
theorem dX4_init_4 : decode cX4_init 4 = .ok (.aload_n 0, 1) := by decide +kernel
theorem dX4_init_5 : decode cX4_init 5 = .ok (.bipush 6, 2) := by decide +kernel
theorem dX4_init_7 : decode cX4_init 7 = .ok (.bipush 16, 2) := by decide +kernel
theorem dX4_init_9 : decode cX4_init 9 = .ok (.multianewarray 9 2, 4) := by decide +kernel
theorem dX4_init_13 : decode cX4_init 13 = .ok (.putfield 11, 3) := by decide +kernel
theorem dX4_init_16 : decode cX4_init 16 = .ok (.aload_n 0, 1) := by decide +kernel
theorem dX4_init_17 : decode cX4_init 17 = .ok (.bipush 6, 2) := by decide +kernel
theorem dX4_init_19 : decode cX4_init 19 = .ok (.bipush 16, 2) := by decide +kernel
theorem dX4_init_21 : decode cX4_init 21 = .ok (.multianewarray 9 2, 4) := by decide +kernel
theorem dX4_init_25 : decode cX4_init 25 = .ok (.putfield 16, 3) := by decide +kernel
theorem dX4_init_28 : decode cX4_init 28 = .ok (.aload_n 0, 1) := by decide +kernel
theorem dX4_init_29 : decode cX4_init 29 = .ok (.bipush 16, 2) := by decide +kernel
theorem dX4_init_31 : decode cX4_init 31 = .ok (.newarray .int, 2) := by decide +kernel
theorem dX4_init_33 : decode cX4_init 33 = .ok (.putfield 19, 3) := by decide +kernel
theorem dX4_init_36 : decode cX4_init 36 = .ok (.aload_n 0, 1) := by decide +kernel
theorem dX4_init_37 : decode cX4_init 37 = .ok (.iconst 0, 1) := by decide +kernel
theorem dX4_init_38 : decode cX4_init 38 = .ok (.putfield 23, 3) := by decide +kernel
theorem dX4_init_41 : decode cX4_init 41 = .ok (.aload_n 0, 1) := by decide +kernel
theorem dX4_init_42 : decode cX4_init 42 = .ok (.iconst 0, 1) := by decide +kernel
theorem dX4_init_43 : decode cX4_init 43 = .ok (.putfield 27, 3) := by decide +kernel
theorem dX4_init_46 : decode cX4_init 46 = .ok (.aload_n 0, 1) := by decide +kernel
theorem dX4_init_47 : decode cX4_init 47 = .ok (.iconst 0, 1) := by decide +kernel
theorem dX4_init_48 : decode cX4_init 48 = .ok (.putfield 30, 3) := by decide +kernel
theorem dX4_init_51 : decode cX4_init 51 = .ok (.aload_n 0, 1) := by decide +kernel
theorem dX4_init_52 : decode cX4_init 52 = .ok (.aload_n 1, 1) := by decide +kernel
theorem dX4_init_53 : decode cX4_init 53 = .ok (.putfield 34, 3) := by decide +kernel
theorem dX4_init_56 : decode cX4_init 56 = .ok (.return_, 1) := by decide +kernel
theorem dX4_readRules_0 : decode cX4_readRules 0 = .ok (.aload_n 0, 1) := by decide +kernel
theorem dX4_readRules_1 : decode cX4_readRules 1 = .ok (.iconst 0, 1) := by decide +kernel
theorem dX4_readRules_2 : decode cX4_readRules 2 = .ok (.invokevirtual 38, 3) := by decide +kernel
theorem dX4_readRules_5 : decode cX4_readRules 5 = .ok (.aload_n 1, 1) := by decide +kernel
theorem dX4_readRules_6 : decode cX4_readRules 6 = .ok (.iconst 0, 1) := by decide +kernel
theorem dX4_readRules_7 : decode cX4_readRules 7 = .ok (.putfield 42, 3) := by decide +kernel
theorem dX4_readRules_10 : decode cX4_readRules 10 = .ok (.iconst 0, 1) := by decide +kernel
theorem dX4_readRules_11 : decode cX4_readRules 11 = .ok (.istore_n 2, 1) := by decide +kernel
theorem dX4_readRules_12 : decode cX4_readRules 12 = .ok (.iload_n 2, 1) := by decide +kernel
theorem dX4_readRules_13 : decode cX4_readRules 13 = .ok (.bipush 8, 2) := by decide +kernel
theorem dX4_readRules_15 : decode cX4_readRules 15 = .ok (.if_icmp .ge 33, 3) := by decide +kernel
theorem dX4_readRules_18 : decode cX4_readRules 18 = .ok (.aload_n 0, 1) := by decide +kernel
theorem dX4_readRules_19 : decode cX4_readRules 19 = .ok (.aload_n 1, 1) := by decide +kernel
theorem dX4_readRules_20 : decode cX4_readRules 20 = .ok (.iload_n 2, 1) := by decide +kernel
theorem dX4_readRules_21 : decode cX4_readRules 21 = .ok (.invokevirtual 47, 3) := by decide +kernel
theorem dX4_readRules_24 : decode cX4_readRules 24 = .ok (.iload_n 2, 1) := by decide +kernel
theorem dX4_readRules_25 : decode cX4_readRules 25 = .ok (.bipush 7, 2) := by decide +kernel
theorem dX4_readRules_27 : decode cX4_readRules 27 = .ok (.if_icmp .eq 21, 3) := by decide +kernel
theorem dX4_readRules_30 : decode cX4_readRules 30 = .ok (.aload_n 0, 1) := by decide +kernel
theorem dX4_readRules_31 : decode cX4_readRules 31 = .ok (.bipush 59, 2) := by decide +kernel
theorem dX4_readRules_33 : decode cX4_readRules 33 = .ok (.invokevirtual 51, 3) := by decide +kernel
theorem dX4_readRules_36 : decode cX4_readRules 36 = .ok (.ifCond .ne 6, 3) := by decide +kernel
theorem dX4_readRules_39 : decode cX4_readRules 39 = .ok (.goto 9, 3) := by decide +kernel
theorem dX4_readRules_42 : decode cX4_readRules 42 = .ok (.iinc 2 1, 3) := by decide +kernel
theorem dX4_readRules_45 : decode cX4_readRules 45 = .ok (.goto (-33), 3) := by decide +kernel
theorem dX4_readRules_48 : decode cX4_readRules 48 = .ok (.aload_n 0, 1) := by decide +kernel
theorem dX4_readRules_49 : decode cX4_readRules 49 = .ok (.invokevirtual 55, 3) := by decide +kernel
theorem dX4_readRules_52 : decode cX4_readRules 52 = .ok (.aload_n 0, 1) := by decide +kernel
theorem dX4_readRules_53 : decode cX4_readRules 53 = .ok (.getfield 27, 3) := by decide +kernel
theorem dX4_readRules_56 : decode cX4_readRules 56 = .ok (.ifCond .eq 13, 3) := by decide +kernel
theorem dX4_readRules_59 : decode cX4_readRules 59 = .ok (.bipush (-20), 2) := by decide +kernel
theorem dX4_readRules_61 : decode cX4_readRules 61 = .ok (.aload_n 0, 1) := by decide +kernel
theorem dX4_readRules_62 : decode cX4_readRules 62 = .ok (.getfield 30, 3) := by decide +kernel
theorem dX4_readRules_65 : decode cX4_readRules 65 = .ok (.isub, 1) := by decide +kernel
theorem dX4_readRules_66 : decode cX4_readRules 66 = .ok (.goto 7, 3) := by decide +kernel
theorem dX4_readRules_69 : decode cX4_readRules 69 = .ok (.aload_n 1, 1) := by decide +kernel
theorem dX4_readRules_70 : decode cX4_readRules 70 = .ok (.getfield 42, 3) := by decide +kernel
theorem dX4_readRules_73 : decode cX4_readRules 73 = .ok (.ireturn, 1) := by decide +kernel
theorem dX4_readDuty_0 : decode cX4_readDuty 0 = .ok (.aload_n 0, 1) := by decide +kernel
theorem dX4_readDuty_1 : decode cX4_readDuty 1 = .ok (.iconst 1, 1) := by decide +kernel
theorem dX4_readDuty_2 : decode cX4_readDuty 2 = .ok (.invokevirtual 38, 3) := by decide +kernel
theorem dX4_readDuty_5 : decode cX4_readDuty 5 = .ok (.aload_n 0, 1) := by decide +kernel
theorem dX4_readDuty_6 : decode cX4_readDuty 6 = .ok (.iconst 0, 1) := by decide +kernel
theorem dX4_readDuty_7 : decode cX4_readDuty 7 = .ok (.invokevirtual 58, 3) := by decide +kernel
theorem dX4_readDuty_10 : decode cX4_readDuty 10 = .ok (.aload_n 0, 1) := by decide +kernel
theorem dX4_readDuty_11 : decode cX4_readDuty 11 = .ok (.invokevirtual 55, 3) := by decide +kernel
theorem dX4_readDuty_14 : decode cX4_readDuty 14 = .ok (.aload_n 0, 1) := by decide +kernel
theorem dX4_readDuty_15 : decode cX4_readDuty 15 = .ok (.getfield 27, 3) := by decide +kernel
theorem dX4_readDuty_18 : decode cX4_readDuty 18 = .ok (.ifCond .eq 11, 3) := by decide +kernel
theorem dX4_readDuty_21 : decode cX4_readDuty 21 = .ok (.bipush (-20), 2) := by decide +kernel
theorem dX4_readDuty_23 : decode cX4_readDuty 23 = .ok (.aload_n 0, 1) := by decide +kernel
theorem dX4_readDuty_24 : decode cX4_readDuty 24 = .ok (.getfield 30, 3) := by decide +kernel
theorem dX4_readDuty_27 : decode cX4_readDuty 27 = .ok (.isub, 1) := by decide +kernel
theorem dX4_readDuty_28 : decode cX4_readDuty 28 = .ok (.ireturn, 1) := by decide +kernel
theorem dX4_readDuty_29 : decode cX4_readDuty 29 = .ok (.aload_n 0, 1) := by decide +kernel
theorem dX4_readDuty_30 : decode cX4_readDuty 30 = .ok (.getfield 11, 3) := by decide +kernel
theorem dX4_readDuty_33 : decode cX4_readDuty 33 = .ok (.iconst 0, 1) := by decide +kernel
theorem dX4_readDuty_34 : decode cX4_readDuty 34 = .ok (.aaload, 1) := by decide +kernel
theorem dX4_readDuty_35 : decode cX4_readDuty 35 = .ok (.iconst 0, 1) := by decide +kernel
theorem dX4_readDuty_36 : decode cX4_readDuty 36 = .ok (.aload_n 1, 1) := by decide +kernel
theorem dX4_readDuty_37 : decode cX4_readDuty 37 = .ok (.iconst 0, 1) := by decide +kernel
theorem dX4_readDuty_38 : decode cX4_readDuty 38 = .ok (.bipush 16, 2) := by decide +kernel
theorem dX4_readDuty_40 : decode cX4_readDuty 40 = .ok (.invokestatic 62, 3) := by decide +kernel
theorem dX4_readDuty_43 : decode cX4_readDuty 43 = .ok (.iconst 1, 1) := by decide +kernel
theorem dX4_readDuty_44 : decode cX4_readDuty 44 = .ok (.ireturn, 1) := by decide +kernel
theorem dX4_start_0 : decode cX4_start 0 = .ok (.aload_n 0, 1) := by decide +kernel
theorem dX4_start_1 : decode cX4_start 1 = .ok (.iload_n 1, 1) := by decide +kernel
theorem dX4_start_2 : decode cX4_start 2 = .ok (.putfield 23, 3) := by decide +kernel
theorem dX4_start_5 : decode cX4_start 5 = .ok (.aload_n 0, 1) := by decide +kernel
theorem dX4_start_6 : decode cX4_start 6 = .ok (.iconst 0, 1) := by decide +kernel
theorem dX4_start_7 : decode cX4_start 7 = .ok (.putfield 27, 3) := by decide +kernel
theorem dX4_start_10 : decode cX4_start 10 = .ok (.aload_n 0, 1) := by decide +kernel
theorem dX4_start_11 : decode cX4_start 11 = .ok (.iconst 0, 1) := by decide +kernel
theorem dX4_start_12 : decode cX4_start 12 = .ok (.putfield 30, 3) := by decide +kernel
theorem dX4_start_15 : decode cX4_start 15 = .ok (.return_, 1) := by decide +kernel
theorem dX4_readClause_0 : decode cX4_readClause 0 = .ok (.aload_n 1, 1) := by decide +kernel
theorem dX4_readClause_1 : decode cX4_readClause 1 = .ok (.getfield 68, 3) := by decide +kernel
theorem dX4_readClause_4 : decode cX4_readClause 4 = .ok (.iload_n 2, 1) := by decide +kernel
theorem dX4_readClause_5 : decode cX4_readClause 5 = .ok (.aload_n 0, 1) := by decide +kernel
theorem dX4_readClause_6 : decode cX4_readClause 6 = .ok (.invokevirtual 71, 3) := by decide +kernel
theorem dX4_readClause_9 : decode cX4_readClause 9 = .ok (.iastore, 1) := by decide +kernel
theorem dX4_readClause_10 : decode cX4_readClause 10 = .ok (.aload_n 0, 1) := by decide +kernel
theorem dX4_readClause_11 : decode cX4_readClause 11 = .ok (.iconst 0, 1) := by decide +kernel
theorem dX4_readClause_12 : decode cX4_readClause 12 = .ok (.invokevirtual 58, 3) := by decide +kernel
theorem dX4_readClause_15 : decode cX4_readClause 15 = .ok (.aload_n 0, 1) := by decide +kernel
theorem dX4_readClause_16 : decode cX4_readClause 16 = .ok (.getfield 11, 3) := by decide +kernel
theorem dX4_readClause_19 : decode cX4_readClause 19 = .ok (.iconst 0, 1) := by decide +kernel
theorem dX4_readClause_20 : decode cX4_readClause 20 = .ok (.aaload, 1) := by decide +kernel
theorem dX4_readClause_21 : decode cX4_readClause 21 = .ok (.iconst 0, 1) := by decide +kernel
theorem dX4_readClause_22 : decode cX4_readClause 22 = .ok (.aload_n 1, 1) := by decide +kernel
theorem dX4_readClause_23 : decode cX4_readClause 23 = .ok (.getfield 75, 3) := by decide +kernel
theorem dX4_readClause_26 : decode cX4_readClause 26 = .ok (.iload_n 2, 1) := by decide +kernel
theorem dX4_readClause_27 : decode cX4_readClause 27 = .ok (.aaload, 1) := by decide +kernel
theorem dX4_readClause_28 : decode cX4_readClause 28 = .ok (.iconst 0, 1) := by decide +kernel
theorem dX4_readClause_29 : decode cX4_readClause 29 = .ok (.iconst 4, 1) := by decide +kernel
theorem dX4_readClause_30 : decode cX4_readClause 30 = .ok (.invokestatic 62, 3) := by decide +kernel
theorem dX4_readClause_33 : decode cX4_readClause 33 = .ok (.aload_n 0, 1) := by decide +kernel
theorem dX4_readClause_34 : decode cX4_readClause 34 = .ok (.bipush 58, 2) := by decide +kernel
theorem dX4_readClause_36 : decode cX4_readClause 36 = .ok (.invokevirtual 78, 3) := by decide +kernel
theorem dX4_readClause_39 : decode cX4_readClause 39 = .ok (.aload_n 1, 1) := by decide +kernel
theorem dX4_readClause_40 : decode cX4_readClause 40 = .ok (.getfield 82, 3) := by decide +kernel
theorem dX4_readClause_43 : decode cX4_readClause 43 = .ok (.iload_n 2, 1) := by decide +kernel
theorem dX4_readClause_44 : decode cX4_readClause 44 = .ok (.aload_n 0, 1) := by decide +kernel
theorem dX4_readClause_45 : decode cX4_readClause 45 = .ok (.invokevirtual 71, 3) := by decide +kernel
theorem dX4_readClause_48 : decode cX4_readClause 48 = .ok (.iastore, 1) := by decide +kernel
theorem dX4_readClause_49 : decode cX4_readClause 49 = .ok (.aload_n 1, 1) := by decide +kernel
theorem dX4_readClause_50 : decode cX4_readClause 50 = .ok (.getfield 85, 3) := by decide +kernel
theorem dX4_readClause_53 : decode cX4_readClause 53 = .ok (.iload_n 2, 1) := by decide +kernel
theorem dX4_readClause_54 : decode cX4_readClause 54 = .ok (.aload_n 0, 1) := by decide +kernel
theorem dX4_readClause_55 : decode cX4_readClause 55 = .ok (.bipush 62, 2) := by decide +kernel
theorem dX4_readClause_57 : decode cX4_readClause 57 = .ok (.invokevirtual 51, 3) := by decide +kernel
theorem dX4_readClause_60 : decode cX4_readClause 60 = .ok (.ifCond .eq 10, 3) := by decide +kernel
theorem dX4_readClause_63 : decode cX4_readClause 63 = .ok (.aload_n 0, 1) := by decide +kernel
theorem dX4_readClause_64 : decode cX4_readClause 64 = .ok (.invokevirtual 71, 3) := by decide +kernel
theorem dX4_readClause_67 : decode cX4_readClause 67 = .ok (.goto 5, 3) := by decide +kernel
theorem dX4_readClause_70 : decode cX4_readClause 70 = .ok (.bipush (-4), 2) := by decide +kernel
theorem dX4_readClause_72 : decode cX4_readClause 72 = .ok (.iastore, 1) := by decide +kernel
theorem dX4_readClause_73 : decode cX4_readClause 73 = .ok (.aload_n 1, 1) := by decide +kernel
theorem dX4_readClause_74 : decode cX4_readClause 74 = .ok (.iload_n 2, 1) := by decide +kernel
theorem dX4_readClause_75 : decode cX4_readClause 75 = .ok (.iconst 1, 1) := by decide +kernel
theorem dX4_readClause_76 : decode cX4_readClause 76 = .ok (.iadd, 1) := by decide +kernel
theorem dX4_readClause_77 : decode cX4_readClause 77 = .ok (.putfield 42, 3) := by decide +kernel
theorem dX4_readClause_80 : decode cX4_readClause 80 = .ok (.return_, 1) := by decide +kernel
theorem dX4_readTest_0 : decode cX4_readTest 0 = .ok (.aload_n 0, 1) := by decide +kernel
theorem dX4_readTest_1 : decode cX4_readTest 1 = .ok (.getfield 11, 3) := by decide +kernel
theorem dX4_readTest_4 : decode cX4_readTest 4 = .ok (.iload_n 1, 1) := by decide +kernel
theorem dX4_readTest_5 : decode cX4_readTest 5 = .ok (.aaload, 1) := by decide +kernel
theorem dX4_readTest_6 : decode cX4_readTest 6 = .ok (.astore_n 2, 1) := by decide +kernel
theorem dX4_readTest_7 : decode cX4_readTest 7 = .ok (.aload_n 2, 1) := by decide +kernel
theorem dX4_readTest_8 : decode cX4_readTest 8 = .ok (.iconst 0, 1) := by decide +kernel
theorem dX4_readTest_9 : decode cX4_readTest 9 = .ok (.invokestatic 88, 3) := by decide +kernel
theorem dX4_readTest_12 : decode cX4_readTest 12 = .ok (.iconst 0, 1) := by decide +kernel
theorem dX4_readTest_13 : decode cX4_readTest 13 = .ok (.istore_n 3, 1) := by decide +kernel
theorem dX4_readTest_14 : decode cX4_readTest 14 = .ok (.iload_n 3, 1) := by decide +kernel
theorem dX4_readTest_15 : decode cX4_readTest 15 = .ok (.bipush 120, 2) := by decide +kernel
theorem dX4_readTest_17 : decode cX4_readTest 17 = .ok (.if_icmp .ge 56, 3) := by decide +kernel
theorem dX4_readTest_20 : decode cX4_readTest 20 = .ok (.aload_n 0, 1) := by decide +kernel
theorem dX4_readTest_21 : decode cX4_readTest 21 = .ok (.iload_n 1, 1) := by decide +kernel
theorem dX4_readTest_22 : decode cX4_readTest 22 = .ok (.invokevirtual 94, 3) := by decide +kernel
theorem dX4_readTest_25 : decode cX4_readTest 25 = .ok (.iconst 0, 1) := by decide +kernel
theorem dX4_readTest_26 : decode cX4_readTest 26 = .ok (.istore 4, 2) := by decide +kernel
theorem dX4_readTest_28 : decode cX4_readTest 28 = .ok (.iload 4, 2) := by decide +kernel
theorem dX4_readTest_30 : decode cX4_readTest 30 = .ok (.aload_n 2, 1) := by decide +kernel
theorem dX4_readTest_31 : decode cX4_readTest 31 = .ok (.arraylength, 1) := by decide +kernel
theorem dX4_readTest_32 : decode cX4_readTest 32 = .ok (.if_icmp .ge 25, 3) := by decide +kernel
theorem dX4_readTest_35 : decode cX4_readTest 35 = .ok (.aload_n 2, 1) := by decide +kernel
theorem dX4_readTest_36 : decode cX4_readTest 36 = .ok (.iload 4, 2) := by decide +kernel
theorem dX4_readTest_38 : decode cX4_readTest 38 = .ok (.dup2, 1) := by decide +kernel
theorem dX4_readTest_39 : decode cX4_readTest 39 = .ok (.iaload, 1) := by decide +kernel
theorem dX4_readTest_40 : decode cX4_readTest 40 = .ok (.aload_n 0, 1) := by decide +kernel
theorem dX4_readTest_41 : decode cX4_readTest 41 = .ok (.getfield 16, 3) := by decide +kernel
theorem dX4_readTest_44 : decode cX4_readTest 44 = .ok (.iload_n 1, 1) := by decide +kernel
theorem dX4_readTest_45 : decode cX4_readTest 45 = .ok (.aaload, 1) := by decide +kernel
theorem dX4_readTest_46 : decode cX4_readTest 46 = .ok (.iload 4, 2) := by decide +kernel
theorem dX4_readTest_48 : decode cX4_readTest 48 = .ok (.iaload, 1) := by decide +kernel
theorem dX4_readTest_49 : decode cX4_readTest 49 = .ok (.ior, 1) := by decide +kernel
theorem dX4_readTest_50 : decode cX4_readTest 50 = .ok (.iastore, 1) := by decide +kernel
theorem dX4_readTest_51 : decode cX4_readTest 51 = .ok (.iinc 4 1, 3) := by decide +kernel
theorem dX4_readTest_54 : decode cX4_readTest 54 = .ok (.goto (-26), 3) := by decide +kernel
theorem dX4_readTest_57 : decode cX4_readTest 57 = .ok (.aload_n 0, 1) := by decide +kernel
theorem dX4_readTest_58 : decode cX4_readTest 58 = .ok (.bipush 124, 2) := by decide +kernel
theorem dX4_readTest_60 : decode cX4_readTest 60 = .ok (.invokevirtual 51, 3) := by decide +kernel
theorem dX4_readTest_63 : decode cX4_readTest 63 = .ok (.ifCond .ne 4, 3) := by decide +kernel
theorem dX4_readTest_66 : decode cX4_readTest 66 = .ok (.return_, 1) := by decide +kernel
theorem dX4_readTest_67 : decode cX4_readTest 67 = .ok (.iinc 3 1, 3) := by decide +kernel
theorem dX4_readTest_70 : decode cX4_readTest 70 = .ok (.goto (-56), 3) := by decide +kernel
theorem dX4_readTest_73 : decode cX4_readTest 73 = .ok (.return_, 1) := by decide +kernel
theorem dX4_readCase_0 : decode cX4_readCase 0 = .ok (.aload_n 0, 1) := by decide +kernel
theorem dX4_readCase_1 : decode cX4_readCase 1 = .ok (.getfield 16, 3) := by decide +kernel
theorem dX4_readCase_4 : decode cX4_readCase 4 = .ok (.iload_n 1, 1) := by decide +kernel
theorem dX4_readCase_5 : decode cX4_readCase 5 = .ok (.aaload, 1) := by decide +kernel
theorem dX4_readCase_6 : decode cX4_readCase 6 = .ok (.astore_n 2, 1) := by decide +kernel
theorem dX4_readCase_7 : decode cX4_readCase 7 = .ok (.aload_n 2, 1) := by decide +kernel
theorem dX4_readCase_8 : decode cX4_readCase 8 = .ok (.iconst (-1), 1) := by decide +kernel
theorem dX4_readCase_9 : decode cX4_readCase 9 = .ok (.invokestatic 88, 3) := by decide +kernel
theorem dX4_readCase_12 : decode cX4_readCase 12 = .ok (.iconst 0, 1) := by decide +kernel
theorem dX4_readCase_13 : decode cX4_readCase 13 = .ok (.istore_n 3, 1) := by decide +kernel
theorem dX4_readCase_14 : decode cX4_readCase 14 = .ok (.iload_n 3, 1) := by decide +kernel
theorem dX4_readCase_15 : decode cX4_readCase 15 = .ok (.bipush 120, 2) := by decide +kernel
theorem dX4_readCase_17 : decode cX4_readCase 17 = .ok (.if_icmp .ge 54, 3) := by decide +kernel
theorem dX4_readCase_20 : decode cX4_readCase 20 = .ok (.aload_n 0, 1) := by decide +kernel
theorem dX4_readCase_21 : decode cX4_readCase 21 = .ok (.iload_n 1, 1) := by decide +kernel
theorem dX4_readCase_22 : decode cX4_readCase 22 = .ok (.invokevirtual 97, 3) := by decide +kernel
theorem dX4_readCase_25 : decode cX4_readCase 25 = .ok (.iconst 0, 1) := by decide +kernel
theorem dX4_readCase_26 : decode cX4_readCase 26 = .ok (.istore 4, 2) := by decide +kernel
theorem dX4_readCase_28 : decode cX4_readCase 28 = .ok (.iload 4, 2) := by decide +kernel
theorem dX4_readCase_30 : decode cX4_readCase 30 = .ok (.aload_n 2, 1) := by decide +kernel
theorem dX4_readCase_31 : decode cX4_readCase 31 = .ok (.arraylength, 1) := by decide +kernel
theorem dX4_readCase_32 : decode cX4_readCase 32 = .ok (.if_icmp .ge 23, 3) := by decide +kernel
theorem dX4_readCase_35 : decode cX4_readCase 35 = .ok (.aload_n 2, 1) := by decide +kernel
theorem dX4_readCase_36 : decode cX4_readCase 36 = .ok (.iload 4, 2) := by decide +kernel
theorem dX4_readCase_38 : decode cX4_readCase 38 = .ok (.dup2, 1) := by decide +kernel
theorem dX4_readCase_39 : decode cX4_readCase 39 = .ok (.iaload, 1) := by decide +kernel
theorem dX4_readCase_40 : decode cX4_readCase 40 = .ok (.aload_n 0, 1) := by decide +kernel
theorem dX4_readCase_41 : decode cX4_readCase 41 = .ok (.getfield 19, 3) := by decide +kernel
theorem dX4_readCase_44 : decode cX4_readCase 44 = .ok (.iload 4, 2) := by decide +kernel
theorem dX4_readCase_46 : decode cX4_readCase 46 = .ok (.iaload, 1) := by decide +kernel
theorem dX4_readCase_47 : decode cX4_readCase 47 = .ok (.iand, 1) := by decide +kernel
theorem dX4_readCase_48 : decode cX4_readCase 48 = .ok (.iastore, 1) := by decide +kernel
theorem dX4_readCase_49 : decode cX4_readCase 49 = .ok (.iinc 4 1, 3) := by decide +kernel
theorem dX4_readCase_52 : decode cX4_readCase 52 = .ok (.goto (-24), 3) := by decide +kernel
theorem dX4_readCase_55 : decode cX4_readCase 55 = .ok (.aload_n 0, 1) := by decide +kernel
theorem dX4_readCase_56 : decode cX4_readCase 56 = .ok (.bipush 38, 2) := by decide +kernel
theorem dX4_readCase_58 : decode cX4_readCase 58 = .ok (.invokevirtual 51, 3) := by decide +kernel
theorem dX4_readCase_61 : decode cX4_readCase 61 = .ok (.ifCond .ne 4, 3) := by decide +kernel
theorem dX4_readCase_64 : decode cX4_readCase 64 = .ok (.return_, 1) := by decide +kernel
theorem dX4_readCase_65 : decode cX4_readCase 65 = .ok (.iinc 3 1, 3) := by decide +kernel
theorem dX4_readCase_68 : decode cX4_readCase 68 = .ok (.goto (-54), 3) := by decide +kernel
theorem dX4_readCase_71 : decode cX4_readCase 71 = .ok (.return_, 1) := by decide +kernel
theorem dX4_readClaim_0 : decode cX4_readClaim 0 = .ok (.aload_n 0, 1) := by decide +kernel
theorem dX4_readClaim_1 : decode cX4_readClaim 1 = .ok (.bipush 33, 2) := by decide +kernel
theorem dX4_readClaim_3 : decode cX4_readClaim 3 = .ok (.invokevirtual 51, 3) := by decide +kernel
theorem dX4_readClaim_6 : decode cX4_readClaim 6 = .ok (.ifCond .eq 7, 3) := by decide +kernel
theorem dX4_readClaim_9 : decode cX4_readClaim 9 = .ok (.iconst (-1), 1) := by decide +kernel
theorem dX4_readClaim_10 : decode cX4_readClaim 10 = .ok (.goto 4, 3) := by decide +kernel
theorem dX4_readClaim_13 : decode cX4_readClaim 13 = .ok (.iconst 0, 1) := by decide +kernel
theorem dX4_readClaim_14 : decode cX4_readClaim 14 = .ok (.istore_n 2, 1) := by decide +kernel
theorem dX4_readClaim_15 : decode cX4_readClaim 15 = .ok (.aload_n 0, 1) := by decide +kernel
theorem dX4_readClaim_16 : decode cX4_readClaim 16 = .ok (.bipush 102, 2) := by decide +kernel
theorem dX4_readClaim_18 : decode cX4_readClaim 18 = .ok (.invokevirtual 51, 3) := by decide +kernel
theorem dX4_readClaim_21 : decode cX4_readClaim 21 = .ok (.ifCond .eq 21, 3) := by decide +kernel
theorem dX4_readClaim_24 : decode cX4_readClaim 24 = .ok (.aload_n 0, 1) := by decide +kernel
theorem dX4_readClaim_25 : decode cX4_readClaim 25 = .ok (.getfield 19, 3) := by decide +kernel
theorem dX4_readClaim_28 : decode cX4_readClaim 28 = .ok (.getstatic 100, 3) := by decide +kernel
theorem dX4_readClaim_31 : decode cX4_readClaim 31 = .ok (.aload_n 0, 1) := by decide +kernel
theorem dX4_readClaim_32 : decode cX4_readClaim 32 = .ok (.invokevirtual 71, 3) := by decide +kernel
theorem dX4_readClaim_35 : decode cX4_readClaim 35 = .ok (.iaload, 1) := by decide +kernel
theorem dX4_readClaim_36 : decode cX4_readClaim 36 = .ok (.invokestatic 88, 3) := by decide +kernel
theorem dX4_readClaim_39 : decode cX4_readClaim 39 = .ok (.goto 150, 3) := by decide +kernel
theorem dX4_readClaim_42 : decode cX4_readClaim 42 = .ok (.aload_n 0, 1) := by decide +kernel
theorem dX4_readClaim_43 : decode cX4_readClaim 43 = .ok (.bipush 115, 2) := by decide +kernel
theorem dX4_readClaim_45 : decode cX4_readClaim 45 = .ok (.invokevirtual 51, 3) := by decide +kernel
theorem dX4_readClaim_48 : decode cX4_readClaim 48 = .ok (.ifCond .eq 15, 3) := by decide +kernel
theorem dX4_readClaim_51 : decode cX4_readClaim 51 = .ok (.aload_n 0, 1) := by decide +kernel
theorem dX4_readClaim_52 : decode cX4_readClaim 52 = .ok (.aload_n 0, 1) := by decide +kernel
theorem dX4_readClaim_53 : decode cX4_readClaim 53 = .ok (.invokevirtual 71, 3) := by decide +kernel
theorem dX4_readClaim_56 : decode cX4_readClaim 56 = .ok (.iconst 0, 1) := by decide +kernel
theorem dX4_readClaim_57 : decode cX4_readClaim 57 = .ok (.invokevirtual 103, 3) := by decide +kernel
theorem dX4_readClaim_60 : decode cX4_readClaim 60 = .ok (.goto 129, 3) := by decide +kernel
theorem dX4_readClaim_63 : decode cX4_readClaim 63 = .ok (.aload_n 0, 1) := by decide +kernel
theorem dX4_readClaim_64 : decode cX4_readClaim 64 = .ok (.bipush 108, 2) := by decide +kernel
theorem dX4_readClaim_66 : decode cX4_readClaim 66 = .ok (.invokevirtual 51, 3) := by decide +kernel
theorem dX4_readClaim_69 : decode cX4_readClaim 69 = .ok (.ifCond .eq 15, 3) := by decide +kernel
theorem dX4_readClaim_72 : decode cX4_readClaim 72 = .ok (.aload_n 0, 1) := by decide +kernel
theorem dX4_readClaim_73 : decode cX4_readClaim 73 = .ok (.getfield 19, 3) := by decide +kernel
theorem dX4_readClaim_76 : decode cX4_readClaim 76 = .ok (.ldc 107, 2) := by decide +kernel
theorem dX4_readClaim_78 : decode cX4_readClaim 78 = .ok (.invokestatic 88, 3) := by decide +kernel
theorem dX4_readClaim_81 : decode cX4_readClaim 81 = .ok (.goto 108, 3) := by decide +kernel
theorem dX4_readClaim_84 : decode cX4_readClaim 84 = .ok (.aload_n 0, 1) := by decide +kernel
theorem dX4_readClaim_85 : decode cX4_readClaim 85 = .ok (.bipush 42, 2) := by decide +kernel
theorem dX4_readClaim_87 : decode cX4_readClaim 87 = .ok (.invokevirtual 51, 3) := by decide +kernel
theorem dX4_readClaim_90 : decode cX4_readClaim 90 = .ok (.ifCond .eq 14, 3) := by decide +kernel
theorem dX4_readClaim_93 : decode cX4_readClaim 93 = .ok (.aload_n 0, 1) := by decide +kernel
theorem dX4_readClaim_94 : decode cX4_readClaim 94 = .ok (.getfield 19, 3) := by decide +kernel
theorem dX4_readClaim_97 : decode cX4_readClaim 97 = .ok (.iconst (-1), 1) := by decide +kernel
theorem dX4_readClaim_98 : decode cX4_readClaim 98 = .ok (.invokestatic 88, 3) := by decide +kernel
theorem dX4_readClaim_101 : decode cX4_readClaim 101 = .ok (.goto 88, 3) := by decide +kernel
theorem dX4_readClaim_104 : decode cX4_readClaim 104 = .ok (.aload_n 0, 1) := by decide +kernel
theorem dX4_readClaim_105 : decode cX4_readClaim 105 = .ok (.getfield 23, 3) := by decide +kernel
theorem dX4_readClaim_108 : decode cX4_readClaim 108 = .ok (.ifCond .eq 24, 3) := by decide +kernel
theorem dX4_readClaim_111 : decode cX4_readClaim 111 = .ok (.aload_n 0, 1) := by decide +kernel
theorem dX4_readClaim_112 : decode cX4_readClaim 112 = .ok (.bipush 97, 2) := by decide +kernel
theorem dX4_readClaim_114 : decode cX4_readClaim 114 = .ok (.invokevirtual 51, 3) := by decide +kernel
theorem dX4_readClaim_117 : decode cX4_readClaim 117 = .ok (.ifCond .eq 15, 3) := by decide +kernel
theorem dX4_readClaim_120 : decode cX4_readClaim 120 = .ok (.aload_n 0, 1) := by decide +kernel
theorem dX4_readClaim_121 : decode cX4_readClaim 121 = .ok (.aload_n 0, 1) := by decide +kernel
theorem dX4_readClaim_122 : decode cX4_readClaim 122 = .ok (.invokevirtual 71, 3) := by decide +kernel
theorem dX4_readClaim_125 : decode cX4_readClaim 125 = .ok (.iconst 1, 1) := by decide +kernel
theorem dX4_readClaim_126 : decode cX4_readClaim 126 = .ok (.invokevirtual 103, 3) := by decide +kernel
theorem dX4_readClaim_129 : decode cX4_readClaim 129 = .ok (.goto 60, 3) := by decide +kernel
theorem dX4_readClaim_132 : decode cX4_readClaim 132 = .ok (.iload_n 1, 1) := by decide +kernel
theorem dX4_readClaim_133 : decode cX4_readClaim 133 = .ok (.iconst 5, 1) := by decide +kernel
theorem dX4_readClaim_134 : decode cX4_readClaim 134 = .ok (.if_icmp .ge 50, 3) := by decide +kernel
theorem dX4_readClaim_137 : decode cX4_readClaim 137 = .ok (.aload_n 0, 1) := by decide +kernel
theorem dX4_readClaim_138 : decode cX4_readClaim 138 = .ok (.bipush 40, 2) := by decide +kernel
theorem dX4_readClaim_140 : decode cX4_readClaim 140 = .ok (.invokevirtual 51, 3) := by decide +kernel
theorem dX4_readClaim_143 : decode cX4_readClaim 143 = .ok (.ifCond .eq 41, 3) := by decide +kernel
theorem dX4_readClaim_146 : decode cX4_readClaim 146 = .ok (.aload_n 0, 1) := by decide +kernel
theorem dX4_readClaim_147 : decode cX4_readClaim 147 = .ok (.iload_n 1, 1) := by decide +kernel
theorem dX4_readClaim_148 : decode cX4_readClaim 148 = .ok (.iconst 1, 1) := by decide +kernel
theorem dX4_readClaim_149 : decode cX4_readClaim 149 = .ok (.iadd, 1) := by decide +kernel
theorem dX4_readClaim_150 : decode cX4_readClaim 150 = .ok (.invokevirtual 58, 3) := by decide +kernel
theorem dX4_readClaim_153 : decode cX4_readClaim 153 = .ok (.aload_n 0, 1) := by decide +kernel
theorem dX4_readClaim_154 : decode cX4_readClaim 154 = .ok (.bipush 41, 2) := by decide +kernel
theorem dX4_readClaim_156 : decode cX4_readClaim 156 = .ok (.invokevirtual 78, 3) := by decide +kernel
theorem dX4_readClaim_159 : decode cX4_readClaim 159 = .ok (.aload_n 0, 1) := by decide +kernel
theorem dX4_readClaim_160 : decode cX4_readClaim 160 = .ok (.getfield 11, 3) := by decide +kernel
theorem dX4_readClaim_163 : decode cX4_readClaim 163 = .ok (.iload_n 1, 1) := by decide +kernel
theorem dX4_readClaim_164 : decode cX4_readClaim 164 = .ok (.iconst 1, 1) := by decide +kernel
theorem dX4_readClaim_165 : decode cX4_readClaim 165 = .ok (.iadd, 1) := by decide +kernel
theorem dX4_readClaim_166 : decode cX4_readClaim 166 = .ok (.aaload, 1) := by decide +kernel
theorem dX4_readClaim_167 : decode cX4_readClaim 167 = .ok (.iconst 0, 1) := by decide +kernel
theorem dX4_readClaim_168 : decode cX4_readClaim 168 = .ok (.aload_n 0, 1) := by decide +kernel
theorem dX4_readClaim_169 : decode cX4_readClaim 169 = .ok (.getfield 19, 3) := by decide +kernel
theorem dX4_readClaim_172 : decode cX4_readClaim 172 = .ok (.iconst 0, 1) := by decide +kernel
theorem dX4_readClaim_173 : decode cX4_readClaim 173 = .ok (.aload_n 0, 1) := by decide +kernel
theorem dX4_readClaim_174 : decode cX4_readClaim 174 = .ok (.getfield 19, 3) := by decide +kernel
theorem dX4_readClaim_177 : decode cX4_readClaim 177 = .ok (.arraylength, 1) := by decide +kernel
theorem dX4_readClaim_178 : decode cX4_readClaim 178 = .ok (.invokestatic 62, 3) := by decide +kernel
theorem dX4_readClaim_181 : decode cX4_readClaim 181 = .ok (.goto 8, 3) := by decide +kernel
theorem dX4_readClaim_184 : decode cX4_readClaim 184 = .ok (.aload_n 0, 1) := by decide +kernel
theorem dX4_readClaim_185 : decode cX4_readClaim 185 = .ok (.iconst 1, 1) := by decide +kernel
theorem dX4_readClaim_186 : decode cX4_readClaim 186 = .ok (.putfield 27, 3) := by decide +kernel
theorem dX4_readClaim_189 : decode cX4_readClaim 189 = .ok (.iconst 0, 1) := by decide +kernel
theorem dX4_readClaim_190 : decode cX4_readClaim 190 = .ok (.istore_n 3, 1) := by decide +kernel
theorem dX4_readClaim_191 : decode cX4_readClaim 191 = .ok (.iload_n 3, 1) := by decide +kernel
theorem dX4_readClaim_192 : decode cX4_readClaim 192 = .ok (.aload_n 0, 1) := by decide +kernel
theorem dX4_readClaim_193 : decode cX4_readClaim 193 = .ok (.getfield 19, 3) := by decide +kernel
theorem dX4_readClaim_196 : decode cX4_readClaim 196 = .ok (.arraylength, 1) := by decide +kernel
theorem dX4_readClaim_197 : decode cX4_readClaim 197 = .ok (.if_icmp .ge 19, 3) := by decide +kernel
theorem dX4_readClaim_200 : decode cX4_readClaim 200 = .ok (.aload_n 0, 1) := by decide +kernel
theorem dX4_readClaim_201 : decode cX4_readClaim 201 = .ok (.getfield 19, 3) := by decide +kernel
theorem dX4_readClaim_204 : decode cX4_readClaim 204 = .ok (.iload_n 3, 1) := by decide +kernel
theorem dX4_readClaim_205 : decode cX4_readClaim 205 = .ok (.dup2, 1) := by decide +kernel
theorem dX4_readClaim_206 : decode cX4_readClaim 206 = .ok (.iaload, 1) := by decide +kernel
theorem dX4_readClaim_207 : decode cX4_readClaim 207 = .ok (.iload_n 2, 1) := by decide +kernel
theorem dX4_readClaim_208 : decode cX4_readClaim 208 = .ok (.ixor, 1) := by decide +kernel
theorem dX4_readClaim_209 : decode cX4_readClaim 209 = .ok (.iastore, 1) := by decide +kernel
theorem dX4_readClaim_210 : decode cX4_readClaim 210 = .ok (.iinc 3 1, 3) := by decide +kernel
theorem dX4_readClaim_213 : decode cX4_readClaim 213 = .ok (.goto (-22), 3) := by decide +kernel
theorem dX4_readClaim_216 : decode cX4_readClaim 216 = .ok (.return_, 1) := by decide +kernel
theorem dX4_claimWords_0 : decode cX4_claimWords 0 = .ok (.iconst 0, 1) := by decide +kernel
theorem dX4_claimWords_1 : decode cX4_claimWords 1 = .ok (.istore_n 3, 1) := by decide +kernel
theorem dX4_claimWords_2 : decode cX4_claimWords 2 = .ok (.iload_n 3, 1) := by decide +kernel
theorem dX4_claimWords_3 : decode cX4_claimWords 3 = .ok (.aload_n 0, 1) := by decide +kernel
theorem dX4_claimWords_4 : decode cX4_claimWords 4 = .ok (.getfield 19, 3) := by decide +kernel
theorem dX4_claimWords_7 : decode cX4_claimWords 7 = .ok (.arraylength, 1) := by decide +kernel
theorem dX4_claimWords_8 : decode cX4_claimWords 8 = .ok (.if_icmp .ge 37, 3) := by decide +kernel
theorem dX4_claimWords_11 : decode cX4_claimWords 11 = .ok (.aload_n 0, 1) := by decide +kernel
theorem dX4_claimWords_12 : decode cX4_claimWords 12 = .ok (.getfield 19, 3) := by decide +kernel
theorem dX4_claimWords_15 : decode cX4_claimWords 15 = .ok (.iload_n 3, 1) := by decide +kernel
theorem dX4_claimWords_16 : decode cX4_claimWords 16 = .ok (.iload_n 2, 1) := by decide +kernel
theorem dX4_claimWords_17 : decode cX4_claimWords 17 = .ok (.ifCond .eq 9, 3) := by decide +kernel
theorem dX4_claimWords_20 : decode cX4_claimWords 20 = .ok (.iload_n 3, 1) := by decide +kernel
theorem dX4_claimWords_21 : decode cX4_claimWords 21 = .ok (.iconst 4, 1) := by decide +kernel
theorem dX4_claimWords_22 : decode cX4_claimWords 22 = .ok (.idiv, 1) := by decide +kernel
theorem dX4_claimWords_23 : decode cX4_claimWords 23 = .ok (.goto 6, 3) := by decide +kernel
theorem dX4_claimWords_26 : decode cX4_claimWords 26 = .ok (.iload_n 3, 1) := by decide +kernel
theorem dX4_claimWords_27 : decode cX4_claimWords 27 = .ok (.iconst 4, 1) := by decide +kernel
theorem dX4_claimWords_28 : decode cX4_claimWords 28 = .ok (.irem, 1) := by decide +kernel
theorem dX4_claimWords_29 : decode cX4_claimWords 29 = .ok (.iload_n 1, 1) := by decide +kernel
theorem dX4_claimWords_30 : decode cX4_claimWords 30 = .ok (.if_icmp .ne 7, 3) := by decide +kernel
theorem dX4_claimWords_33 : decode cX4_claimWords 33 = .ok (.iconst (-1), 1) := by decide +kernel
theorem dX4_claimWords_34 : decode cX4_claimWords 34 = .ok (.goto 4, 3) := by decide +kernel
theorem dX4_claimWords_37 : decode cX4_claimWords 37 = .ok (.iconst 0, 1) := by decide +kernel
theorem dX4_claimWords_38 : decode cX4_claimWords 38 = .ok (.iastore, 1) := by decide +kernel
theorem dX4_claimWords_39 : decode cX4_claimWords 39 = .ok (.iinc 3 1, 3) := by decide +kernel
theorem dX4_claimWords_42 : decode cX4_claimWords 42 = .ok (.goto (-40), 3) := by decide +kernel
theorem dX4_claimWords_45 : decode cX4_claimWords 45 = .ok (.return_, 1) := by decide +kernel
theorem dX4_takes_0 : decode cX4_takes 0 = .ok (.aload_n 0, 1) := by decide +kernel
theorem dX4_takes_1 : decode cX4_takes 1 = .ok (.getfield 27, 3) := by decide +kernel
theorem dX4_takes_4 : decode cX4_takes 4 = .ok (.ifCond .ne 11, 3) := by decide +kernel
theorem dX4_takes_7 : decode cX4_takes 7 = .ok (.aload_n 0, 1) := by decide +kernel
theorem dX4_takes_8 : decode cX4_takes 8 = .ok (.invokevirtual 108, 3) := by decide +kernel
theorem dX4_takes_11 : decode cX4_takes 11 = .ok (.iload_n 1, 1) := by decide +kernel
theorem dX4_takes_12 : decode cX4_takes 12 = .ok (.if_icmp .eq 5, 3) := by decide +kernel
theorem dX4_takes_15 : decode cX4_takes 15 = .ok (.iconst 0, 1) := by decide +kernel
theorem dX4_takes_16 : decode cX4_takes 16 = .ok (.ireturn, 1) := by decide +kernel
theorem dX4_takes_17 : decode cX4_takes 17 = .ok (.aload_n 0, 1) := by decide +kernel
theorem dX4_takes_18 : decode cX4_takes 18 = .ok (.dup, 1) := by decide +kernel
theorem dX4_takes_19 : decode cX4_takes 19 = .ok (.getfield 30, 3) := by decide +kernel
theorem dX4_takes_22 : decode cX4_takes 22 = .ok (.iconst 1, 1) := by decide +kernel
theorem dX4_takes_23 : decode cX4_takes 23 = .ok (.iadd, 1) := by decide +kernel
theorem dX4_takes_24 : decode cX4_takes 24 = .ok (.putfield 30, 3) := by decide +kernel
theorem dX4_takes_27 : decode cX4_takes 27 = .ok (.iconst 1, 1) := by decide +kernel
theorem dX4_takes_28 : decode cX4_takes 28 = .ok (.ireturn, 1) := by decide +kernel
theorem dX4_need_0 : decode cX4_need 0 = .ok (.aload_n 0, 1) := by decide +kernel
theorem dX4_need_1 : decode cX4_need 1 = .ok (.iload_n 1, 1) := by decide +kernel
theorem dX4_need_2 : decode cX4_need 2 = .ok (.invokevirtual 51, 3) := by decide +kernel
theorem dX4_need_5 : decode cX4_need 5 = .ok (.ifCond .ne 8, 3) := by decide +kernel
theorem dX4_need_8 : decode cX4_need 8 = .ok (.aload_n 0, 1) := by decide +kernel
theorem dX4_need_9 : decode cX4_need 9 = .ok (.iconst 1, 1) := by decide +kernel
theorem dX4_need_10 : decode cX4_need 10 = .ok (.putfield 27, 3) := by decide +kernel
theorem dX4_need_13 : decode cX4_need 13 = .ok (.return_, 1) := by decide +kernel
theorem dX4_needEnd_0 : decode cX4_needEnd 0 = .ok (.aload_n 0, 1) := by decide +kernel
theorem dX4_needEnd_1 : decode cX4_needEnd 1 = .ok (.getfield 27, 3) := by decide +kernel
theorem dX4_needEnd_4 : decode cX4_needEnd 4 = .ok (.ifCond .ne 15, 3) := by decide +kernel
theorem dX4_needEnd_7 : decode cX4_needEnd 7 = .ok (.aload_n 0, 1) := by decide +kernel
theorem dX4_needEnd_8 : decode cX4_needEnd 8 = .ok (.invokevirtual 108, 3) := by decide +kernel
theorem dX4_needEnd_11 : decode cX4_needEnd 11 = .ok (.ifCond .lt 8, 3) := by decide +kernel
theorem dX4_needEnd_14 : decode cX4_needEnd 14 = .ok (.aload_n 0, 1) := by decide +kernel
theorem dX4_needEnd_15 : decode cX4_needEnd 15 = .ok (.iconst 1, 1) := by decide +kernel
theorem dX4_needEnd_16 : decode cX4_needEnd 16 = .ok (.putfield 27, 3) := by decide +kernel
theorem dX4_needEnd_19 : decode cX4_needEnd 19 = .ok (.return_, 1) := by decide +kernel
theorem dX4_takeDigit_0 : decode cX4_takeDigit 0 = .ok (.aload_n 0, 1) := by decide +kernel
theorem dX4_takeDigit_1 : decode cX4_takeDigit 1 = .ok (.getfield 27, 3) := by decide +kernel
theorem dX4_takeDigit_4 : decode cX4_takeDigit 4 = .ok (.ifCond .eq 8, 3) := by decide +kernel
theorem dX4_takeDigit_7 : decode cX4_takeDigit 7 = .ok (.bipush (-4), 2) := by decide +kernel
theorem dX4_takeDigit_9 : decode cX4_takeDigit 9 = .ok (.goto 10, 3) := by decide +kernel
theorem dX4_takeDigit_12 : decode cX4_takeDigit 12 = .ok (.aload_n 0, 1) := by decide +kernel
theorem dX4_takeDigit_13 : decode cX4_takeDigit 13 = .ok (.invokevirtual 108, 3) := by decide +kernel
theorem dX4_takeDigit_16 : decode cX4_takeDigit 16 = .ok (.bipush 48, 2) := by decide +kernel
theorem dX4_takeDigit_18 : decode cX4_takeDigit 18 = .ok (.isub, 1) := by decide +kernel
theorem dX4_takeDigit_19 : decode cX4_takeDigit 19 = .ok (.istore_n 1, 1) := by decide +kernel
theorem dX4_takeDigit_20 : decode cX4_takeDigit 20 = .ok (.iload_n 1, 1) := by decide +kernel
theorem dX4_takeDigit_21 : decode cX4_takeDigit 21 = .ok (.iconst 3, 1) := by decide +kernel
theorem dX4_takeDigit_22 : decode cX4_takeDigit 22 = .ok (.invokestatic 111, 3) := by decide +kernel
theorem dX4_takeDigit_25 : decode cX4_takeDigit 25 = .ok (.ifCond .eq 10, 3) := by decide +kernel
theorem dX4_takeDigit_28 : decode cX4_takeDigit 28 = .ok (.aload_n 0, 1) := by decide +kernel
theorem dX4_takeDigit_29 : decode cX4_takeDigit 29 = .ok (.iconst 1, 1) := by decide +kernel
theorem dX4_takeDigit_30 : decode cX4_takeDigit 30 = .ok (.putfield 27, 3) := by decide +kernel
theorem dX4_takeDigit_33 : decode cX4_takeDigit 33 = .ok (.iconst 0, 1) := by decide +kernel
theorem dX4_takeDigit_34 : decode cX4_takeDigit 34 = .ok (.ireturn, 1) := by decide +kernel
theorem dX4_takeDigit_35 : decode cX4_takeDigit 35 = .ok (.aload_n 0, 1) := by decide +kernel
theorem dX4_takeDigit_36 : decode cX4_takeDigit 36 = .ok (.dup, 1) := by decide +kernel
theorem dX4_takeDigit_37 : decode cX4_takeDigit 37 = .ok (.getfield 30, 3) := by decide +kernel
theorem dX4_takeDigit_40 : decode cX4_takeDigit 40 = .ok (.iconst 1, 1) := by decide +kernel
theorem dX4_takeDigit_41 : decode cX4_takeDigit 41 = .ok (.iadd, 1) := by decide +kernel
theorem dX4_takeDigit_42 : decode cX4_takeDigit 42 = .ok (.putfield 30, 3) := by decide +kernel
theorem dX4_takeDigit_45 : decode cX4_takeDigit 45 = .ok (.iload_n 1, 1) := by decide +kernel
theorem dX4_takeDigit_46 : decode cX4_takeDigit 46 = .ok (.ireturn, 1) := by decide +kernel
theorem dX4_nextSign_0 : decode cX4_nextSign 0 = .ok (.aload_n 0, 1) := by decide +kernel
theorem dX4_nextSign_1 : decode cX4_nextSign 1 = .ok (.getfield 30, 3) := by decide +kernel
theorem dX4_nextSign_4 : decode cX4_nextSign 4 = .ok (.aload_n 0, 1) := by decide +kernel
theorem dX4_nextSign_5 : decode cX4_nextSign 5 = .ok (.getfield 34, 3) := by decide +kernel
theorem dX4_nextSign_8 : decode cX4_nextSign 8 = .ok (.getfield 115, 3) := by decide +kernel
theorem dX4_nextSign_11 : decode cX4_nextSign 11 = .ok (.if_icmp .ge 33, 3) := by decide +kernel
theorem dX4_nextSign_14 : decode cX4_nextSign 14 = .ok (.aload_n 0, 1) := by decide +kernel
theorem dX4_nextSign_15 : decode cX4_nextSign 15 = .ok (.getfield 34, 3) := by decide +kernel
theorem dX4_nextSign_18 : decode cX4_nextSign 18 = .ok (.getfield 118, 3) := by decide +kernel
theorem dX4_nextSign_21 : decode cX4_nextSign 21 = .ok (.aload_n 0, 1) := by decide +kernel
theorem dX4_nextSign_22 : decode cX4_nextSign 22 = .ok (.getfield 30, 3) := by decide +kernel
theorem dX4_nextSign_25 : decode cX4_nextSign 25 = .ok (.iaload, 1) := by decide +kernel
theorem dX4_nextSign_26 : decode cX4_nextSign 26 = .ok (.bipush 32, 2) := by decide +kernel
theorem dX4_nextSign_28 : decode cX4_nextSign 28 = .ok (.if_icmp .ne 16, 3) := by decide +kernel
theorem dX4_nextSign_31 : decode cX4_nextSign 31 = .ok (.aload_n 0, 1) := by decide +kernel
theorem dX4_nextSign_32 : decode cX4_nextSign 32 = .ok (.dup, 1) := by decide +kernel
theorem dX4_nextSign_33 : decode cX4_nextSign 33 = .ok (.getfield 30, 3) := by decide +kernel
theorem dX4_nextSign_36 : decode cX4_nextSign 36 = .ok (.iconst 1, 1) := by decide +kernel
theorem dX4_nextSign_37 : decode cX4_nextSign 37 = .ok (.iadd, 1) := by decide +kernel
theorem dX4_nextSign_38 : decode cX4_nextSign 38 = .ok (.putfield 30, 3) := by decide +kernel
theorem dX4_nextSign_41 : decode cX4_nextSign 41 = .ok (.goto (-41), 3) := by decide +kernel
theorem dX4_nextSign_44 : decode cX4_nextSign 44 = .ok (.aload_n 0, 1) := by decide +kernel
theorem dX4_nextSign_45 : decode cX4_nextSign 45 = .ok (.getfield 30, 3) := by decide +kernel
theorem dX4_nextSign_48 : decode cX4_nextSign 48 = .ok (.aload_n 0, 1) := by decide +kernel
theorem dX4_nextSign_49 : decode cX4_nextSign 49 = .ok (.getfield 34, 3) := by decide +kernel
theorem dX4_nextSign_52 : decode cX4_nextSign 52 = .ok (.getfield 115, 3) := by decide +kernel
theorem dX4_nextSign_55 : decode cX4_nextSign 55 = .ok (.if_icmp .ge 18, 3) := by decide +kernel
theorem dX4_nextSign_58 : decode cX4_nextSign 58 = .ok (.aload_n 0, 1) := by decide +kernel
theorem dX4_nextSign_59 : decode cX4_nextSign 59 = .ok (.getfield 34, 3) := by decide +kernel
theorem dX4_nextSign_62 : decode cX4_nextSign 62 = .ok (.getfield 118, 3) := by decide +kernel
theorem dX4_nextSign_65 : decode cX4_nextSign 65 = .ok (.aload_n 0, 1) := by decide +kernel
theorem dX4_nextSign_66 : decode cX4_nextSign 66 = .ok (.getfield 30, 3) := by decide +kernel
theorem dX4_nextSign_69 : decode cX4_nextSign 69 = .ok (.iaload, 1) := by decide +kernel
theorem dX4_nextSign_70 : decode cX4_nextSign 70 = .ok (.goto 5, 3) := by decide +kernel
theorem dX4_nextSign_73 : decode cX4_nextSign 73 = .ok (.bipush (-4), 2) := by decide +kernel
theorem dX4_nextSign_75 : decode cX4_nextSign 75 = .ok (.ireturn, 1) := by decide +kernel
theorem dX5_init_0 : decode cX5_init 0 = .ok (.aload_n 0, 1) := by decide +kernel
theorem dX5_init_1 : decode cX5_init 1 = .ok (.invokespecial 3, 3) := by decide +kernel
theorem dX5_init_4 : decode cX5_init 4 = .ok (.aload_n 0, 1) := by decide +kernel
theorem dX5_init_5 : decode cX5_init 5 = .ok (.bipush 48, 2) := by decide +kernel
theorem dX5_init_7 : decode cX5_init 7 = .ok (.newarray .int, 2) := by decide +kernel
theorem dX5_init_9 : decode cX5_init 9 = .ok (.putfield 9, 3) := by decide +kernel
theorem dX5_init_12 : decode cX5_init 12 = .ok (.aload_n 0, 1) := by decide +kernel
theorem dX5_init_13 : decode cX5_init 13 = .ok (.bipush (-4), 2) := by decide +kernel
theorem dX5_init_15 : decode cX5_init 15 = .ok (.putfield 15, 3) := by decide +kernel
theorem dX5_init_18 : decode cX5_init 18 = .ok (.aload_n 0, 1) := by decide +kernel
theorem dX5_init_19 : decode cX5_init 19 = .ok (.iconst 0, 1) := by decide +kernel
theorem dX5_init_20 : decode cX5_init 20 = .ok (.putfield 19, 3) := by decide +kernel
theorem dX5_init_23 : decode cX5_init 23 = .ok (.return_, 1) := by decide +kernel
theorem dX5_renew_0 : decode cX5_renew 0 = .ok (.aload_n 0, 1) := by decide +kernel
theorem dX5_renew_1 : decode cX5_renew 1 = .ok (.iload_n 1, 1) := by decide +kernel
theorem dX5_renew_2 : decode cX5_renew 2 = .ok (.putfield 15, 3) := by decide +kernel
theorem dX5_renew_5 : decode cX5_renew 5 = .ok (.aload_n 0, 1) := by decide +kernel
theorem dX5_renew_6 : decode cX5_renew 6 = .ok (.iload_n 2, 1) := by decide +kernel
theorem dX5_renew_7 : decode cX5_renew 7 = .ok (.putfield 19, 3) := by decide +kernel
theorem dX5_renew_10 : decode cX5_renew 10 = .ok (.aload_n 0, 1) := by decide +kernel
theorem dX5_renew_11 : decode cX5_renew 11 = .ok (.getfield 9, 3) := by decide +kernel
theorem dX5_renew_14 : decode cX5_renew 14 = .ok (.iconst 0, 1) := by decide +kernel
theorem dX5_renew_15 : decode cX5_renew 15 = .ok (.invokestatic 22, 3) := by decide +kernel
theorem dX5_renew_18 : decode cX5_renew 18 = .ok (.return_, 1) := by decide +kernel
theorem dX5_lacks_0 : decode cX5_lacks 0 = .ok (.iload_n 1, 1) := by decide +kernel
theorem dX5_lacks_1 : decode cX5_lacks 1 = .ok (.ifCond .lt 17, 3) := by decide +kernel
theorem dX5_lacks_4 : decode cX5_lacks 4 = .ok (.iload_n 2, 1) := by decide +kernel
theorem dX5_lacks_5 : decode cX5_lacks 5 = .ok (.ifCond .lt 13, 3) := by decide +kernel
theorem dX5_lacks_8 : decode cX5_lacks 8 = .ok (.iload_n 1, 1) := by decide +kernel
theorem dX5_lacks_9 : decode cX5_lacks 9 = .ok (.aload_n 0, 1) := by decide +kernel
theorem dX5_lacks_10 : decode cX5_lacks 10 = .ok (.getfield 19, 3) := by decide +kernel
theorem dX5_lacks_13 : decode cX5_lacks 13 = .ok (.iload_n 2, 1) := by decide +kernel
theorem dX5_lacks_14 : decode cX5_lacks 14 = .ok (.isub, 1) := by decide +kernel
theorem dX5_lacks_15 : decode cX5_lacks 15 = .ok (.if_icmp .le 7, 3) := by decide +kernel
theorem dX5_lacks_18 : decode cX5_lacks 18 = .ok (.iconst 1, 1) := by decide +kernel
theorem dX5_lacks_19 : decode cX5_lacks 19 = .ok (.goto 4, 3) := by decide +kernel
theorem dX5_lacks_22 : decode cX5_lacks 22 = .ok (.iconst 0, 1) := by decide +kernel
theorem dX5_lacks_23 : decode cX5_lacks 23 = .ok (.ireturn, 1) := by decide +kernel
theorem dX5_findFault_0 : decode cX5_findFault 0 = .ok (.aload_n 0, 1) := by decide +kernel
theorem dX5_findFault_1 : decode cX5_findFault 1 = .ok (.getfield 15, 3) := by decide +kernel
theorem dX5_findFault_4 : decode cX5_findFault 4 = .ok (.bipush (-4), 2) := by decide +kernel
theorem dX5_findFault_6 : decode cX5_findFault 6 = .ok (.if_icmp .ne 6, 3) := by decide +kernel
theorem dX5_findFault_9 : decode cX5_findFault 9 = .ok (.bipush (-11), 2) := by decide +kernel
theorem dX5_findFault_11 : decode cX5_findFault 11 = .ok (.ireturn, 1) := by decide +kernel
theorem dX5_findFault_12 : decode cX5_findFault 12 = .ok (.aload_n 0, 1) := by decide +kernel
theorem dX5_findFault_13 : decode cX5_findFault 13 = .ok (.getfield 15, 3) := by decide +kernel
theorem dX5_findFault_16 : decode cX5_findFault 16 = .ok (.iload_n 1, 1) := by decide +kernel
theorem dX5_findFault_17 : decode cX5_findFault 17 = .ok (.if_icmp .eq 6, 3) := by decide +kernel

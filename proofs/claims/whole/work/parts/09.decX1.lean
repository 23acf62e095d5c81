theorem dX1_init_0 : decode cX1_init 0 = .ok (.aload_n 0, 1) := by decide +kernel
theorem dX1_init_1 : decode cX1_init 1 = .ok (.invokespecial 1, 3) := by decide +kernel
theorem dX1_init_4 : decode cX1_init 4 = .ok (.aload_n 0, 1) := by decide +kernel
theorem dX1_init_5 : decode cX1_init 5 = .ok (.aload_n 1, 1) := by decide +kernel
theorem dX1_init_6 : decode cX1_init 6 = .ok (.putfield 7, 3) := by decide +kernel
theorem dX1_init_9 : decode cX1_init 9 = .ok (.aload_n 0, 1) := by decide +kernel
theorem dX1_init_10 : decode cX1_init 10 = .ok (.aload_n 2, 1) := by decide +kernel
theorem dX1_init_11 : decode cX1_init 11 = .ok (.putfield 13, 3) := by decide +kernel
theorem dX1_init_14 : decode cX1_init 14 = .ok (.aload_n 0, 1) := by decide +kernel
theorem dX1_init_15 : decode cX1_init 15 = .ok (.aload_n 3, 1) := by decide +kernel
theorem dX1_init_16 : decode cX1_init 16 = .ok (.putfield 17, 3) := by decide +kernel
theorem dX1_init_19 : decode cX1_init 19 = .ok (.aload_n 0, 1) := by decide +kernel
theorem dX1_init_20 : decode cX1_init 20 = .ok (.new 20, 3) := by decide +kernel
theorem dX1_init_23 : decode cX1_init 23 = .ok (.dup, 1) := by decide +kernel
theorem dX1_init_24 : decode cX1_init 24 = .ok (.invokespecial 22, 3) := by decide +kernel
theorem dX1_init_27 : decode cX1_init 27 = .ok (.putfield 23, 3) := by decide +kernel
theorem dX1_init_30 : decode cX1_init 30 = .ok (.aload_n 0, 1) := by decide +kernel
theorem dX1_init_31 : decode cX1_init 31 = .ok (.new 20, 3) := by decide +kernel
theorem dX1_init_34 : decode cX1_init 34 = .ok (.dup, 1) := by decide +kernel
theorem dX1_init_35 : decode cX1_init 35 = .ok (.invokespecial 22, 3) := by decide +kernel
theorem dX1_init_38 : decode cX1_init 38 = .ok (.putfield 27, 3) := by decide +kernel
theorem dX1_init_41 : decode cX1_init 41 = .ok (.aload_n 0, 1) := by decide +kernel
theorem dX1_init_42 : decode cX1_init 42 = .ok (.new 20, 3) := by decide +kernel
theorem dX1_init_45 : decode cX1_init 45 = .ok (.dup, 1) := by decide +kernel
theorem dX1_init_46 : decode cX1_init 46 = .ok (.invokespecial 22, 3) := by decide +kernel
theorem dX1_init_49 : decode cX1_init 49 = .ok (.putfield 30, 3) := by decide +kernel
theorem dX1_init_52 : decode cX1_init 52 = .ok (.return_, 1) := by decide +kernel
theorem dX1_lockBook_0 : decode cX1_lockBook 0 = .ok (.iconst 0, 1) := by decide +kernel
theorem dX1_lockBook_1 : decode cX1_lockBook 1 = .ok (.istore_n 3, 1) := by decide +kernel
theorem dX1_lockBook_2 : decode cX1_lockBook 2 = .ok (.iload_n 3, 1) := by decide +kernel
theorem dX1_lockBook_3 : decode cX1_lockBook 3 = .ok (.aload_n 1, 1) := by decide +kernel
theorem dX1_lockBook_4 : decode cX1_lockBook 4 = .ok (.getfield 33, 3) := by decide +kernel
theorem dX1_lockBook_7 : decode cX1_lockBook 7 = .ok (.if_icmp .ge 39, 3) := by decide +kernel
theorem dX1_lockBook_10 : decode cX1_lockBook 10 = .ok (.aload_n 0, 1) := by decide +kernel
theorem dX1_lockBook_11 : decode cX1_lockBook 11 = .ok (.getfield 23, 3) := by decide +kernel
theorem dX1_lockBook_14 : decode cX1_lockBook 14 = .ok (.aload_n 1, 1) := by decide +kernel
theorem dX1_lockBook_15 : decode cX1_lockBook 15 = .ok (.iload_n 3, 1) := by decide +kernel
theorem dX1_lockBook_16 : decode cX1_lockBook 16 = .ok (.invokevirtual 39, 3) := by decide +kernel
theorem dX1_lockBook_19 : decode cX1_lockBook 19 = .ok (.aload_n 0, 1) := by decide +kernel
theorem dX1_lockBook_20 : decode cX1_lockBook 20 = .ok (.getfield 7, 3) := by decide +kernel
theorem dX1_lockBook_23 : decode cX1_lockBook 23 = .ok (.aload_n 0, 1) := by decide +kernel
theorem dX1_lockBook_24 : decode cX1_lockBook 24 = .ok (.getfield 23, 3) := by decide +kernel
theorem dX1_lockBook_27 : decode cX1_lockBook 27 = .ok (.invokevirtual 43, 3) := by decide +kernel
theorem dX1_lockBook_30 : decode cX1_lockBook 30 = .ok (.aload_n 2, 1) := by decide +kernel
theorem dX1_lockBook_31 : decode cX1_lockBook 31 = .ok (.aload_n 0, 1) := by decide +kernel
theorem dX1_lockBook_32 : decode cX1_lockBook 32 = .ok (.getfield 23, 3) := by decide +kernel
theorem dX1_lockBook_35 : decode cX1_lockBook 35 = .ok (.bipush 16, 2) := by decide +kernel
theorem dX1_lockBook_37 : decode cX1_lockBook 37 = .ok (.invokevirtual 49, 3) := by decide +kernel
theorem dX1_lockBook_40 : decode cX1_lockBook 40 = .ok (.iinc 3 16, 3) := by decide +kernel
theorem dX1_lockBook_43 : decode cX1_lockBook 43 = .ok (.goto (-41), 3) := by decide +kernel
theorem dX1_lockBook_46 : decode cX1_lockBook 46 = .ok (.return_, 1) := by decide +kernel
theorem dX1_unlockBook_0 : decode cX1_unlockBook 0 = .ok (.iconst 0, 1) := by decide +kernel
theorem dX1_unlockBook_1 : decode cX1_unlockBook 1 = .ok (.istore_n 3, 1) := by decide +kernel
theorem dX1_unlockBook_2 : decode cX1_unlockBook 2 = .ok (.iload_n 3, 1) := by decide +kernel
theorem dX1_unlockBook_3 : decode cX1_unlockBook 3 = .ok (.aload_n 1, 1) := by decide +kernel
theorem dX1_unlockBook_4 : decode cX1_unlockBook 4 = .ok (.getfield 33, 3) := by decide +kernel
theorem dX1_unlockBook_7 : decode cX1_unlockBook 7 = .ok (.if_icmp .ge 39, 3) := by decide +kernel
theorem dX1_unlockBook_10 : decode cX1_unlockBook 10 = .ok (.aload_n 0, 1) := by decide +kernel
theorem dX1_unlockBook_11 : decode cX1_unlockBook 11 = .ok (.getfield 23, 3) := by decide +kernel
theorem dX1_unlockBook_14 : decode cX1_unlockBook 14 = .ok (.aload_n 1, 1) := by decide +kernel
theorem dX1_unlockBook_15 : decode cX1_unlockBook 15 = .ok (.iload_n 3, 1) := by decide +kernel
theorem dX1_unlockBook_16 : decode cX1_unlockBook 16 = .ok (.invokevirtual 39, 3) := by decide +kernel
theorem dX1_unlockBook_19 : decode cX1_unlockBook 19 = .ok (.aload_n 0, 1) := by decide +kernel
theorem dX1_unlockBook_20 : decode cX1_unlockBook 20 = .ok (.getfield 7, 3) := by decide +kernel
theorem dX1_unlockBook_23 : decode cX1_unlockBook 23 = .ok (.aload_n 0, 1) := by decide +kernel
theorem dX1_unlockBook_24 : decode cX1_unlockBook 24 = .ok (.getfield 23, 3) := by decide +kernel
theorem dX1_unlockBook_27 : decode cX1_unlockBook 27 = .ok (.invokevirtual 53, 3) := by decide +kernel
theorem dX1_unlockBook_30 : decode cX1_unlockBook 30 = .ok (.aload_n 2, 1) := by decide +kernel
theorem dX1_unlockBook_31 : decode cX1_unlockBook 31 = .ok (.aload_n 0, 1) := by decide +kernel
theorem dX1_unlockBook_32 : decode cX1_unlockBook 32 = .ok (.getfield 23, 3) := by decide +kernel
theorem dX1_unlockBook_35 : decode cX1_unlockBook 35 = .ok (.bipush 16, 2) := by decide +kernel
theorem dX1_unlockBook_37 : decode cX1_unlockBook 37 = .ok (.invokevirtual 49, 3) := by decide +kernel
theorem dX1_unlockBook_40 : decode cX1_unlockBook 40 = .ok (.iinc 3 16, 3) := by decide +kernel
theorem dX1_unlockBook_43 : decode cX1_unlockBook 43 = .ok (.goto (-41), 3) := by decide +kernel
theorem dX1_unlockBook_46 : decode cX1_unlockBook 46 = .ok (.return_, 1) := by decide +kernel
theorem dX1_lockChain_0 : decode cX1_lockChain 0 = .ok (.aload_n 0, 1) := by decide +kernel
theorem dX1_lockChain_1 : decode cX1_lockChain 1 = .ok (.getfield 27, 3) := by decide +kernel
theorem dX1_lockChain_4 : decode cX1_lockChain 4 = .ok (.aload_n 0, 1) := by decide +kernel
theorem dX1_lockChain_5 : decode cX1_lockChain 5 = .ok (.getfield 13, 3) := by decide +kernel
theorem dX1_lockChain_8 : decode cX1_lockChain 8 = .ok (.iconst 0, 1) := by decide +kernel
theorem dX1_lockChain_9 : decode cX1_lockChain 9 = .ok (.invokevirtual 39, 3) := by decide +kernel
theorem dX1_lockChain_12 : decode cX1_lockChain 12 = .ok (.iconst 0, 1) := by decide +kernel
theorem dX1_lockChain_13 : decode cX1_lockChain 13 = .ok (.istore_n 3, 1) := by decide +kernel
theorem dX1_lockChain_14 : decode cX1_lockChain 14 = .ok (.iload_n 3, 1) := by decide +kernel
theorem dX1_lockChain_15 : decode cX1_lockChain 15 = .ok (.aload_n 1, 1) := by decide +kernel
theorem dX1_lockChain_16 : decode cX1_lockChain 16 = .ok (.getfield 33, 3) := by decide +kernel
theorem dX1_lockChain_19 : decode cX1_lockChain 19 = .ok (.if_icmp .ge 61, 3) := by decide +kernel
theorem dX1_lockChain_22 : decode cX1_lockChain 22 = .ok (.aload_n 0, 1) := by decide +kernel
theorem dX1_lockChain_23 : decode cX1_lockChain 23 = .ok (.getfield 23, 3) := by decide +kernel
theorem dX1_lockChain_26 : decode cX1_lockChain 26 = .ok (.aload_n 1, 1) := by decide +kernel
theorem dX1_lockChain_27 : decode cX1_lockChain 27 = .ok (.iload_n 3, 1) := by decide +kernel
theorem dX1_lockChain_28 : decode cX1_lockChain 28 = .ok (.invokevirtual 39, 3) := by decide +kernel
theorem dX1_lockChain_31 : decode cX1_lockChain 31 = .ok (.aload_n 0, 1) := by decide +kernel
theorem dX1_lockChain_32 : decode cX1_lockChain 32 = .ok (.getfield 23, 3) := by decide +kernel
theorem dX1_lockChain_35 : decode cX1_lockChain 35 = .ok (.aload_n 0, 1) := by decide +kernel
theorem dX1_lockChain_36 : decode cX1_lockChain 36 = .ok (.getfield 27, 3) := by decide +kernel
theorem dX1_lockChain_39 : decode cX1_lockChain 39 = .ok (.invokevirtual 56, 3) := by decide +kernel
theorem dX1_lockChain_42 : decode cX1_lockChain 42 = .ok (.aload_n 0, 1) := by decide +kernel
theorem dX1_lockChain_43 : decode cX1_lockChain 43 = .ok (.getfield 7, 3) := by decide +kernel
theorem dX1_lockChain_46 : decode cX1_lockChain 46 = .ok (.aload_n 0, 1) := by decide +kernel
theorem dX1_lockChain_47 : decode cX1_lockChain 47 = .ok (.getfield 23, 3) := by decide +kernel
theorem dX1_lockChain_50 : decode cX1_lockChain 50 = .ok (.invokevirtual 43, 3) := by decide +kernel
theorem dX1_lockChain_53 : decode cX1_lockChain 53 = .ok (.aload_n 2, 1) := by decide +kernel
theorem dX1_lockChain_54 : decode cX1_lockChain 54 = .ok (.aload_n 0, 1) := by decide +kernel
theorem dX1_lockChain_55 : decode cX1_lockChain 55 = .ok (.getfield 23, 3) := by decide +kernel
theorem dX1_lockChain_58 : decode cX1_lockChain 58 = .ok (.bipush 16, 2) := by decide +kernel
theorem dX1_lockChain_60 : decode cX1_lockChain 60 = .ok (.invokevirtual 49, 3) := by decide +kernel
theorem dX1_lockChain_63 : decode cX1_lockChain 63 = .ok (.aload_n 0, 1) := by decide +kernel
theorem dX1_lockChain_64 : decode cX1_lockChain 64 = .ok (.getfield 27, 3) := by decide +kernel
theorem dX1_lockChain_67 : decode cX1_lockChain 67 = .ok (.aload_n 0, 1) := by decide +kernel
theorem dX1_lockChain_68 : decode cX1_lockChain 68 = .ok (.getfield 23, 3) := by decide +kernel
theorem dX1_lockChain_71 : decode cX1_lockChain 71 = .ok (.invokevirtual 59, 3) := by decide +kernel
theorem dX1_lockChain_74 : decode cX1_lockChain 74 = .ok (.iinc 3 16, 3) := by decide +kernel
theorem dX1_lockChain_77 : decode cX1_lockChain 77 = .ok (.goto (-63), 3) := by decide +kernel
theorem dX1_lockChain_80 : decode cX1_lockChain 80 = .ok (.return_, 1) := by decide +kernel
theorem dX1_unlockChain_0 : decode cX1_unlockChain 0 = .ok (.aload_n 0, 1) := by decide +kernel
theorem dX1_unlockChain_1 : decode cX1_unlockChain 1 = .ok (.getfield 27, 3) := by decide +kernel
theorem dX1_unlockChain_4 : decode cX1_unlockChain 4 = .ok (.aload_n 0, 1) := by decide +kernel
theorem dX1_unlockChain_5 : decode cX1_unlockChain 5 = .ok (.getfield 13, 3) := by decide +kernel
theorem dX1_unlockChain_8 : decode cX1_unlockChain 8 = .ok (.iconst 0, 1) := by decide +kernel
theorem dX1_unlockChain_9 : decode cX1_unlockChain 9 = .ok (.invokevirtual 39, 3) := by decide +kernel
theorem dX1_unlockChain_12 : decode cX1_unlockChain 12 = .ok (.iconst 0, 1) := by decide +kernel
theorem dX1_unlockChain_13 : decode cX1_unlockChain 13 = .ok (.istore_n 3, 1) := by decide +kernel
theorem dX1_unlockChain_14 : decode cX1_unlockChain 14 = .ok (.iload_n 3, 1) := by decide +kernel
theorem dX1_unlockChain_15 : decode cX1_unlockChain 15 = .ok (.aload_n 1, 1) := by decide +kernel
theorem dX1_unlockChain_16 : decode cX1_unlockChain 16 = .ok (.getfield 33, 3) := by decide +kernel
theorem dX1_unlockChain_19 : decode cX1_unlockChain 19 = .ok (.if_icmp .ge 72, 3) := by decide +kernel
theorem dX1_unlockChain_22 : decode cX1_unlockChain 22 = .ok (.aload_n 0, 1) := by decide +kernel
theorem dX1_unlockChain_23 : decode cX1_unlockChain 23 = .ok (.getfield 30, 3) := by decide +kernel
theorem dX1_unlockChain_26 : decode cX1_unlockChain 26 = .ok (.aload_n 1, 1) := by decide +kernel
theorem dX1_unlockChain_27 : decode cX1_unlockChain 27 = .ok (.iload_n 3, 1) := by decide +kernel
theorem dX1_unlockChain_28 : decode cX1_unlockChain 28 = .ok (.invokevirtual 39, 3) := by decide +kernel
theorem dX1_unlockChain_31 : decode cX1_unlockChain 31 = .ok (.aload_n 0, 1) := by decide +kernel
theorem dX1_unlockChain_32 : decode cX1_unlockChain 32 = .ok (.getfield 23, 3) := by decide +kernel
theorem dX1_unlockChain_35 : decode cX1_unlockChain 35 = .ok (.aload_n 0, 1) := by decide +kernel
theorem dX1_unlockChain_36 : decode cX1_unlockChain 36 = .ok (.getfield 30, 3) := by decide +kernel
theorem dX1_unlockChain_39 : decode cX1_unlockChain 39 = .ok (.invokevirtual 59, 3) := by decide +kernel
theorem dX1_unlockChain_42 : decode cX1_unlockChain 42 = .ok (.aload_n 0, 1) := by decide +kernel
theorem dX1_unlockChain_43 : decode cX1_unlockChain 43 = .ok (.getfield 7, 3) := by decide +kernel
theorem dX1_unlockChain_46 : decode cX1_unlockChain 46 = .ok (.aload_n 0, 1) := by decide +kernel
theorem dX1_unlockChain_47 : decode cX1_unlockChain 47 = .ok (.getfield 23, 3) := by decide +kernel
theorem dX1_unlockChain_50 : decode cX1_unlockChain 50 = .ok (.invokevirtual 53, 3) := by decide +kernel
theorem dX1_unlockChain_53 : decode cX1_unlockChain 53 = .ok (.aload_n 0, 1) := by decide +kernel
theorem dX1_unlockChain_54 : decode cX1_unlockChain 54 = .ok (.getfield 23, 3) := by decide +kernel
theorem dX1_unlockChain_57 : decode cX1_unlockChain 57 = .ok (.aload_n 0, 1) := by decide +kernel
theorem dX1_unlockChain_58 : decode cX1_unlockChain 58 = .ok (.getfield 27, 3) := by decide +kernel
theorem dX1_unlockChain_61 : decode cX1_unlockChain 61 = .ok (.invokevirtual 56, 3) := by decide +kernel
theorem dX1_unlockChain_64 : decode cX1_unlockChain 64 = .ok (.aload_n 2, 1) := by decide +kernel
theorem dX1_unlockChain_65 : decode cX1_unlockChain 65 = .ok (.aload_n 0, 1) := by decide +kernel
theorem dX1_unlockChain_66 : decode cX1_unlockChain 66 = .ok (.getfield 23, 3) := by decide +kernel
theorem dX1_unlockChain_69 : decode cX1_unlockChain 69 = .ok (.bipush 16, 2) := by decide +kernel
theorem dX1_unlockChain_71 : decode cX1_unlockChain 71 = .ok (.invokevirtual 49, 3) := by decide +kernel
theorem dX1_unlockChain_74 : decode cX1_unlockChain 74 = .ok (.aload_n 0, 1) := by decide +kernel
theorem dX1_unlockChain_75 : decode cX1_unlockChain 75 = .ok (.getfield 27, 3) := by decide +kernel
theorem dX1_unlockChain_78 : decode cX1_unlockChain 78 = .ok (.aload_n 0, 1) := by decide +kernel
theorem dX1_unlockChain_79 : decode cX1_unlockChain 79 = .ok (.getfield 30, 3) := by decide +kernel
theorem dX1_unlockChain_82 : decode cX1_unlockChain 82 = .ok (.invokevirtual 59, 3) := by decide +kernel
theorem dX1_unlockChain_85 : decode cX1_unlockChain 85 = .ok (.iinc 3 16, 3) := by decide +kernel
theorem dX1_unlockChain_88 : decode cX1_unlockChain 88 = .ok (.goto (-74), 3) := by decide +kernel
theorem dX1_unlockChain_91 : decode cX1_unlockChain 91 = .ok (.return_, 1) := by decide +kernel
theorem dX1_lockPadded_0 : decode cX1_lockPadded 0 = .ok (.bipush 16, 2) := by decide +kernel
theorem dX1_lockPadded_2 : decode cX1_lockPadded 2 = .ok (.aload_n 1, 1) := by decide +kernel
theorem dX1_lockPadded_3 : decode cX1_lockPadded 3 = .ok (.getfield 33, 3) := by decide +kernel
theorem dX1_lockPadded_6 : decode cX1_lockPadded 6 = .ok (.bipush 15, 2) := by decide +kernel
theorem dX1_lockPadded_8 : decode cX1_lockPadded 8 = .ok (.iand, 1) := by decide +kernel
theorem dX1_lockPadded_9 : decode cX1_lockPadded 9 = .ok (.isub, 1) := by decide +kernel
theorem dX1_lockPadded_10 : decode cX1_lockPadded 10 = .ok (.istore_n 3, 1) := by decide +kernel
theorem dX1_lockPadded_11 : decode cX1_lockPadded 11 = .ok (.aload_n 0, 1) := by decide +kernel
theorem dX1_lockPadded_12 : decode cX1_lockPadded 12 = .ok (.getfield 17, 3) := by decide +kernel
theorem dX1_lockPadded_15 : decode cX1_lockPadded 15 = .ok (.aload_n 1, 1) := by decide +kernel
theorem dX1_lockPadded_16 : decode cX1_lockPadded 16 = .ok (.iconst 0, 1) := by decide +kernel
theorem dX1_lockPadded_17 : decode cX1_lockPadded 17 = .ok (.aload_n 1, 1) := by decide +kernel
theorem dX1_lockPadded_18 : decode cX1_lockPadded 18 = .ok (.getfield 33, 3) := by decide +kernel
theorem dX1_lockPadded_21 : decode cX1_lockPadded 21 = .ok (.invokevirtual 62, 3) := by decide +kernel
theorem dX1_lockPadded_24 : decode cX1_lockPadded 24 = .ok (.iconst 0, 1) := by decide +kernel
theorem dX1_lockPadded_25 : decode cX1_lockPadded 25 = .ok (.istore 4, 2) := by decide +kernel
theorem dX1_lockPadded_27 : decode cX1_lockPadded 27 = .ok (.iload 4, 2) := by decide +kernel
theorem dX1_lockPadded_29 : decode cX1_lockPadded 29 = .ok (.iload_n 3, 1) := by decide +kernel
theorem dX1_lockPadded_30 : decode cX1_lockPadded 30 = .ok (.if_icmp .ge 17, 3) := by decide +kernel
theorem dX1_lockPadded_33 : decode cX1_lockPadded 33 = .ok (.aload_n 0, 1) := by decide +kernel
theorem dX1_lockPadded_34 : decode cX1_lockPadded 34 = .ok (.getfield 17, 3) := by decide +kernel
theorem dX1_lockPadded_37 : decode cX1_lockPadded 37 = .ok (.iload_n 3, 1) := by decide +kernel
theorem dX1_lockPadded_38 : decode cX1_lockPadded 38 = .ok (.invokevirtual 66, 3) := by decide +kernel
theorem dX1_lockPadded_41 : decode cX1_lockPadded 41 = .ok (.iinc 4 1, 3) := by decide +kernel
theorem dX1_lockPadded_44 : decode cX1_lockPadded 44 = .ok (.goto (-17), 3) := by decide +kernel
theorem dX1_lockPadded_47 : decode cX1_lockPadded 47 = .ok (.aload_n 0, 1) := by decide +kernel
theorem dX1_lockPadded_48 : decode cX1_lockPadded 48 = .ok (.aload_n 0, 1) := by decide +kernel
theorem dX1_lockPadded_49 : decode cX1_lockPadded 49 = .ok (.getfield 17, 3) := by decide +kernel
theorem dX1_lockPadded_52 : decode cX1_lockPadded 52 = .ok (.aload_n 2, 1) := by decide +kernel
theorem dX1_lockPadded_53 : decode cX1_lockPadded 53 = .ok (.invokevirtual 70, 3) := by decide +kernel
theorem dX1_lockPadded_56 : decode cX1_lockPadded 56 = .ok (.return_, 1) := by decide +kernel
theorem dX1_unlockPadded_0 : decode cX1_unlockPadded 0 = .ok (.aload_n 0, 1) := by decide +kernel
theorem dX1_unlockPadded_1 : decode cX1_unlockPadded 1 = .ok (.aload_n 1, 1) := by decide +kernel
theorem dX1_unlockPadded_2 : decode cX1_unlockPadded 2 = .ok (.aload_n 2, 1) := by decide +kernel
theorem dX1_unlockPadded_3 : decode cX1_unlockPadded 3 = .ok (.invokevirtual 74, 3) := by decide +kernel
theorem dX1_unlockPadded_6 : decode cX1_unlockPadded 6 = .ok (.aload_n 2, 1) := by decide +kernel
theorem dX1_unlockPadded_7 : decode cX1_unlockPadded 7 = .ok (.aload_n 2, 1) := by decide +kernel
theorem dX1_unlockPadded_8 : decode cX1_unlockPadded 8 = .ok (.getfield 33, 3) := by decide +kernel
theorem dX1_unlockPadded_11 : decode cX1_unlockPadded 11 = .ok (.iconst 1, 1) := by decide +kernel
theorem dX1_unlockPadded_12 : decode cX1_unlockPadded 12 = .ok (.isub, 1) := by decide +kernel
theorem dX1_unlockPadded_13 : decode cX1_unlockPadded 13 = .ok (.invokevirtual 77, 3) := by decide +kernel
theorem dX1_unlockPadded_16 : decode cX1_unlockPadded 16 = .ok (.istore_n 3, 1) := by decide +kernel
theorem dX1_unlockPadded_17 : decode cX1_unlockPadded 17 = .ok (.iload_n 3, 1) := by decide +kernel
theorem dX1_unlockPadded_18 : decode cX1_unlockPadded 18 = .ok (.iconst 1, 1) := by decide +kernel
theorem dX1_unlockPadded_19 : decode cX1_unlockPadded 19 = .ok (.isub, 1) := by decide +kernel
theorem dX1_unlockPadded_20 : decode cX1_unlockPadded 20 = .ok (.bipush 16, 2) := by decide +kernel
theorem dX1_unlockPadded_22 : decode cX1_unlockPadded 22 = .ok (.iload_n 3, 1) := by decide +kernel
theorem dX1_unlockPadded_23 : decode cX1_unlockPadded 23 = .ok (.isub, 1) := by decide +kernel
theorem dX1_unlockPadded_24 : decode cX1_unlockPadded 24 = .ok (.ior, 1) := by decide +kernel
theorem dX1_unlockPadded_25 : decode cX1_unlockPadded 25 = .ok (.bipush 31, 2) := by decide +kernel
theorem dX1_unlockPadded_27 : decode cX1_unlockPadded 27 = .ok (.ishr, 1) := by decide +kernel
theorem dX1_unlockPadded_28 : decode cX1_unlockPadded 28 = .ok (.istore 4, 2) := by decide +kernel
theorem dX1_unlockPadded_30 : decode cX1_unlockPadded 30 = .ok (.iconst 1, 1) := by decide +kernel
theorem dX1_unlockPadded_31 : decode cX1_unlockPadded 31 = .ok (.istore 5, 2) := by decide +kernel
theorem dX1_unlockPadded_33 : decode cX1_unlockPadded 33 = .ok (.iload 5, 2) := by decide +kernel
theorem dX1_unlockPadded_35 : decode cX1_unlockPadded 35 = .ok (.bipush 16, 2) := by decide +kernel
theorem dX1_unlockPadded_37 : decode cX1_unlockPadded 37 = .ok (.if_icmp .gt 41, 3) := by decide +kernel
theorem dX1_unlockPadded_40 : decode cX1_unlockPadded 40 = .ok (.iload 5, 2) := by decide +kernel
theorem dX1_unlockPadded_42 : decode cX1_unlockPadded 42 = .ok (.iconst 1, 1) := by decide +kernel
theorem dX1_unlockPadded_43 : decode cX1_unlockPadded 43 = .ok (.isub, 1) := by decide +kernel
theorem dX1_unlockPadded_44 : decode cX1_unlockPadded 44 = .ok (.iload_n 3, 1) := by decide +kernel
theorem dX1_unlockPadded_45 : decode cX1_unlockPadded 45 = .ok (.isub, 1) := by decide +kernel
theorem dX1_unlockPadded_46 : decode cX1_unlockPadded 46 = .ok (.bipush 31, 2) := by decide +kernel
theorem dX1_unlockPadded_48 : decode cX1_unlockPadded 48 = .ok (.ishr, 1) := by decide +kernel
theorem dX1_unlockPadded_49 : decode cX1_unlockPadded 49 = .ok (.istore 6, 2) := by decide +kernel
theorem dX1_unlockPadded_51 : decode cX1_unlockPadded 51 = .ok (.iload 4, 2) := by decide +kernel
theorem dX1_unlockPadded_53 : decode cX1_unlockPadded 53 = .ok (.iload 6, 2) := by decide +kernel
theorem dX1_unlockPadded_55 : decode cX1_unlockPadded 55 = .ok (.aload_n 2, 1) := by decide +kernel
theorem dX1_unlockPadded_56 : decode cX1_unlockPadded 56 = .ok (.aload_n 2, 1) := by decide +kernel
theorem dX1_unlockPadded_57 : decode cX1_unlockPadded 57 = .ok (.getfield 33, 3) := by decide +kernel
theorem dX1_unlockPadded_60 : decode cX1_unlockPadded 60 = .ok (.iload 5, 2) := by decide +kernel
theorem dX1_unlockPadded_62 : decode cX1_unlockPadded 62 = .ok (.isub, 1) := by decide +kernel
theorem dX1_unlockPadded_63 : decode cX1_unlockPadded 63 = .ok (.invokevirtual 77, 3) := by decide +kernel
theorem dX1_unlockPadded_66 : decode cX1_unlockPadded 66 = .ok (.iload_n 3, 1) := by decide +kernel
theorem dX1_unlockPadded_67 : decode cX1_unlockPadded 67 = .ok (.ixor, 1) := by decide +kernel
theorem dX1_unlockPadded_68 : decode cX1_unlockPadded 68 = .ok (.iand, 1) := by decide +kernel
theorem dX1_unlockPadded_69 : decode cX1_unlockPadded 69 = .ok (.ior, 1) := by decide +kernel
theorem dX1_unlockPadded_70 : decode cX1_unlockPadded 70 = .ok (.istore 4, 2) := by decide +kernel
theorem dX1_unlockPadded_72 : decode cX1_unlockPadded 72 = .ok (.iinc 5 1, 3) := by decide +kernel
theorem dX1_unlockPadded_75 : decode cX1_unlockPadded 75 = .ok (.goto (-42), 3) := by decide +kernel
theorem dX1_unlockPadded_78 : decode cX1_unlockPadded 78 = .ok (.iload 4, 2) := by decide +kernel
theorem dX1_unlockPadded_80 : decode cX1_unlockPadded 80 = .ok (.ifCond .eq 5, 3) := by decide +kernel
theorem dX1_unlockPadded_83 : decode cX1_unlockPadded 83 = .ok (.iconst 0, 1) := by decide +kernel
theorem dX1_unlockPadded_84 : decode cX1_unlockPadded 84 = .ok (.ireturn, 1) := by decide +kernel
theorem dX1_unlockPadded_85 : decode cX1_unlockPadded 85 = .ok (.aload_n 2, 1) := by decide +kernel
theorem dX1_unlockPadded_86 : decode cX1_unlockPadded 86 = .ok (.aload_n 2, 1) := by decide +kernel
theorem dX1_unlockPadded_87 : decode cX1_unlockPadded 87 = .ok (.getfield 33, 3) := by decide +kernel
theorem dX1_unlockPadded_90 : decode cX1_unlockPadded 90 = .ok (.iload_n 3, 1) := by decide +kernel
theorem dX1_unlockPadded_91 : decode cX1_unlockPadded 91 = .ok (.isub, 1) := by decide +kernel
theorem dX1_unlockPadded_92 : decode cX1_unlockPadded 92 = .ok (.invokevirtual 81, 3) := by decide +kernel
theorem dX1_unlockPadded_95 : decode cX1_unlockPadded 95 = .ok (.iconst 1, 1) := by decide +kernel
theorem dX1_unlockPadded_96 : decode cX1_unlockPadded 96 = .ok (.ireturn, 1) := by decide +kernel
theorem dX1_lockStolen_0 : decode cX1_lockStolen 0 = .ok (.aload_n 0, 1) := by decide +kernel
theorem dX1_lockStolen_1 : decode cX1_lockStolen 1 = .ok (.aload_n 1, 1) := by decide +kernel
theorem dX1_lockStolen_2 : decode cX1_lockStolen 2 = .ok (.aload_n 2, 1) := by decide +kernel
theorem dX1_lockStolen_3 : decode cX1_lockStolen 3 = .ok (.invokevirtual 70, 3) := by decide +kernel
theorem dX1_lockStolen_6 : decode cX1_lockStolen 6 = .ok (.aload_n 2, 1) := by decide +kernel
theorem dX1_lockStolen_7 : decode cX1_lockStolen 7 = .ok (.getfield 33, 3) := by decide +kernel
theorem dX1_lockStolen_10 : decode cX1_lockStolen 10 = .ok (.bipush 16, 2) := by decide +kernel
theorem dX1_lockStolen_12 : decode cX1_lockStolen 12 = .ok (.isub, 1) := by decide +kernel
theorem dX1_lockStolen_13 : decode cX1_lockStolen 13 = .ok (.istore_n 3, 1) := by decide +kernel
theorem dX1_lockStolen_14 : decode cX1_lockStolen 14 = .ok (.aload_n 0, 1) := by decide +kernel
theorem dX1_lockStolen_15 : decode cX1_lockStolen 15 = .ok (.getfield 23, 3) := by decide +kernel
theorem dX1_lockStolen_18 : decode cX1_lockStolen 18 = .ok (.aload_n 2, 1) := by decide +kernel
theorem dX1_lockStolen_19 : decode cX1_lockStolen 19 = .ok (.iload_n 3, 1) := by decide +kernel
theorem dX1_lockStolen_20 : decode cX1_lockStolen 20 = .ok (.invokevirtual 39, 3) := by decide +kernel
theorem dX1_lockStolen_23 : decode cX1_lockStolen 23 = .ok (.aload_n 0, 1) := by decide +kernel
theorem dX1_lockStolen_24 : decode cX1_lockStolen 24 = .ok (.getfield 30, 3) := by decide +kernel
theorem dX1_lockStolen_27 : decode cX1_lockStolen 27 = .ok (.aload_n 2, 1) := by decide +kernel
theorem dX1_lockStolen_28 : decode cX1_lockStolen 28 = .ok (.iload_n 3, 1) := by decide +kernel
theorem dX1_lockStolen_29 : decode cX1_lockStolen 29 = .ok (.bipush 16, 2) := by decide +kernel
theorem dX1_lockStolen_31 : decode cX1_lockStolen 31 = .ok (.isub, 1) := by decide +kernel
theorem dX1_lockStolen_32 : decode cX1_lockStolen 32 = .ok (.invokevirtual 39, 3) := by decide +kernel
theorem dX1_lockStolen_35 : decode cX1_lockStolen 35 = .ok (.aload_n 2, 1) := by decide +kernel
theorem dX1_lockStolen_36 : decode cX1_lockStolen 36 = .ok (.iload_n 3, 1) := by decide +kernel
theorem dX1_lockStolen_37 : decode cX1_lockStolen 37 = .ok (.bipush 16, 2) := by decide +kernel
theorem dX1_lockStolen_39 : decode cX1_lockStolen 39 = .ok (.isub, 1) := by decide +kernel
theorem dX1_lockStolen_40 : decode cX1_lockStolen 40 = .ok (.invokevirtual 81, 3) := by decide +kernel
theorem dX1_lockStolen_43 : decode cX1_lockStolen 43 = .ok (.aload_n 2, 1) := by decide +kernel
theorem dX1_lockStolen_44 : decode cX1_lockStolen 44 = .ok (.aload_n 0, 1) := by decide +kernel
theorem dX1_lockStolen_45 : decode cX1_lockStolen 45 = .ok (.getfield 23, 3) := by decide +kernel
theorem dX1_lockStolen_48 : decode cX1_lockStolen 48 = .ok (.bipush 16, 2) := by decide +kernel
theorem dX1_lockStolen_50 : decode cX1_lockStolen 50 = .ok (.invokevirtual 49, 3) := by decide +kernel
theorem dX1_lockStolen_53 : decode cX1_lockStolen 53 = .ok (.aload_n 2, 1) := by decide +kernel
theorem dX1_lockStolen_54 : decode cX1_lockStolen 54 = .ok (.aload_n 0, 1) := by decide +kernel
theorem dX1_lockStolen_55 : decode cX1_lockStolen 55 = .ok (.getfield 30, 3) := by decide +kernel
theorem dX1_lockStolen_58 : decode cX1_lockStolen 58 = .ok (.bipush 16, 2) := by decide +kernel
theorem dX1_lockStolen_60 : decode cX1_lockStolen 60 = .ok (.invokevirtual 49, 3) := by decide +kernel
theorem dX1_lockStolen_63 : decode cX1_lockStolen 63 = .ok (.aload_n 2, 1) := by decide +kernel
theorem dX1_lockStolen_64 : decode cX1_lockStolen 64 = .ok (.aload_n 1, 1) := by decide +kernel
theorem dX1_lockStolen_65 : decode cX1_lockStolen 65 = .ok (.getfield 33, 3) := by decide +kernel
theorem dX1_lockStolen_68 : decode cX1_lockStolen 68 = .ok (.invokevirtual 81, 3) := by decide +kernel
theorem dX1_lockStolen_71 : decode cX1_lockStolen 71 = .ok (.return_, 1) := by decide +kernel
theorem dX1_unlockStolen_0 : decode cX1_unlockStolen 0 = .ok (.aload_n 1, 1) := by decide +kernel
theorem dX1_unlockStolen_1 : decode cX1_unlockStolen 1 = .ok (.getfield 33, 3) := by decide +kernel
theorem dX1_unlockStolen_4 : decode cX1_unlockStolen 4 = .ok (.iconst 1, 1) := by decide +kernel
theorem dX1_unlockStolen_5 : decode cX1_unlockStolen 5 = .ok (.isub, 1) := by decide +kernel
theorem dX1_unlockStolen_6 : decode cX1_unlockStolen 6 = .ok (.bipush (-16), 2) := by decide +kernel
theorem dX1_unlockStolen_8 : decode cX1_unlockStolen 8 = .ok (.iand, 1) := by decide +kernel
theorem dX1_unlockStolen_9 : decode cX1_unlockStolen 9 = .ok (.istore_n 3, 1) := by decide +kernel
theorem dX1_unlockStolen_10 : decode cX1_unlockStolen 10 = .ok (.aload_n 0, 1) := by decide +kernel
theorem dX1_unlockStolen_11 : decode cX1_unlockStolen 11 = .ok (.getfield 23, 3) := by decide +kernel
theorem dX1_unlockStolen_14 : decode cX1_unlockStolen 14 = .ok (.aload_n 1, 1) := by decide +kernel
theorem dX1_unlockStolen_15 : decode cX1_unlockStolen 15 = .ok (.iload_n 3, 1) := by decide +kernel
theorem dX1_unlockStolen_16 : decode cX1_unlockStolen 16 = .ok (.bipush 16, 2) := by decide +kernel
theorem dX1_unlockStolen_18 : decode cX1_unlockStolen 18 = .ok (.isub, 1) := by decide +kernel
theorem dX1_unlockStolen_19 : decode cX1_unlockStolen 19 = .ok (.invokevirtual 39, 3) := by decide +kernel
theorem dX1_unlockStolen_22 : decode cX1_unlockStolen 22 = .ok (.aload_n 0, 1) := by decide +kernel
theorem dX1_unlockStolen_23 : decode cX1_unlockStolen 23 = .ok (.getfield 7, 3) := by decide +kernel
theorem dX1_unlockStolen_26 : decode cX1_unlockStolen 26 = .ok (.aload_n 0, 1) := by decide +kernel
theorem dX1_unlockStolen_27 : decode cX1_unlockStolen 27 = .ok (.getfield 23, 3) := by decide +kernel
theorem dX1_unlockStolen_30 : decode cX1_unlockStolen 30 = .ok (.invokevirtual 53, 3) := by decide +kernel
theorem dX1_unlockStolen_33 : decode cX1_unlockStolen 33 = .ok (.aload_n 0, 1) := by decide +kernel
theorem dX1_unlockStolen_34 : decode cX1_unlockStolen 34 = .ok (.getfield 23, 3) := by decide +kernel
theorem dX1_unlockStolen_37 : decode cX1_unlockStolen 37 = .ok (.aload_n 1, 1) := by decide +kernel
theorem dX1_unlockStolen_38 : decode cX1_unlockStolen 38 = .ok (.getfield 33, 3) := by decide +kernel
theorem dX1_unlockStolen_41 : decode cX1_unlockStolen 41 = .ok (.iload_n 3, 1) := by decide +kernel
theorem dX1_unlockStolen_42 : decode cX1_unlockStolen 42 = .ok (.isub, 1) := by decide +kernel
theorem dX1_unlockStolen_43 : decode cX1_unlockStolen 43 = .ok (.invokevirtual 84, 3) := by decide +kernel
theorem dX1_unlockStolen_46 : decode cX1_unlockStolen 46 = .ok (.aload_n 0, 1) := by decide +kernel
theorem dX1_unlockStolen_47 : decode cX1_unlockStolen 47 = .ok (.getfield 30, 3) := by decide +kernel
theorem dX1_unlockStolen_50 : decode cX1_unlockStolen 50 = .ok (.aload_n 1, 1) := by decide +kernel
theorem dX1_unlockStolen_51 : decode cX1_unlockStolen 51 = .ok (.iload_n 3, 1) := by decide +kernel
theorem dX1_unlockStolen_52 : decode cX1_unlockStolen 52 = .ok (.invokevirtual 39, 3) := by decide +kernel
theorem dX1_unlockStolen_55 : decode cX1_unlockStolen 55 = .ok (.aload_n 0, 1) := by decide +kernel
theorem dX1_unlockStolen_56 : decode cX1_unlockStolen 56 = .ok (.getfield 30, 3) := by decide +kernel
theorem dX1_unlockStolen_59 : decode cX1_unlockStolen 59 = .ok (.aload_n 0, 1) := by decide +kernel
theorem dX1_unlockStolen_60 : decode cX1_unlockStolen 60 = .ok (.getfield 23, 3) := by decide +kernel
theorem dX1_unlockStolen_63 : decode cX1_unlockStolen 63 = .ok (.invokevirtual 56, 3) := by decide +kernel
theorem dX1_unlockStolen_66 : decode cX1_unlockStolen 66 = .ok (.aload_n 0, 1) := by decide +kernel
theorem dX1_unlockStolen_67 : decode cX1_unlockStolen 67 = .ok (.getfield 23, 3) := by decide +kernel
theorem dX1_unlockStolen_70 : decode cX1_unlockStolen 70 = .ok (.aload_n 1, 1) := by decide +kernel
theorem dX1_unlockStolen_71 : decode cX1_unlockStolen 71 = .ok (.iload_n 3, 1) := by decide +kernel
theorem dX1_unlockStolen_72 : decode cX1_unlockStolen 72 = .ok (.bipush 16, 2) := by decide +kernel
theorem dX1_unlockStolen_74 : decode cX1_unlockStolen 74 = .ok (.isub, 1) := by decide +kernel
theorem dX1_unlockStolen_75 : decode cX1_unlockStolen 75 = .ok (.invokevirtual 39, 3) := by decide +kernel
theorem dX1_unlockStolen_78 : decode cX1_unlockStolen 78 = .ok (.aload_n 0, 1) := by decide +kernel
theorem dX1_unlockStolen_79 : decode cX1_unlockStolen 79 = .ok (.getfield 17, 3) := by decide +kernel
theorem dX1_unlockStolen_82 : decode cX1_unlockStolen 82 = .ok (.aload_n 1, 1) := by decide +kernel
theorem dX1_unlockStolen_83 : decode cX1_unlockStolen 83 = .ok (.iconst 0, 1) := by decide +kernel
theorem dX1_unlockStolen_84 : decode cX1_unlockStolen 84 = .ok (.iload_n 3, 1) := by decide +kernel
theorem dX1_unlockStolen_85 : decode cX1_unlockStolen 85 = .ok (.bipush 16, 2) := by decide +kernel
theorem dX1_unlockStolen_87 : decode cX1_unlockStolen 87 = .ok (.isub, 1) := by decide +kernel
theorem dX1_unlockStolen_88 : decode cX1_unlockStolen 88 = .ok (.invokevirtual 62, 3) := by decide +kernel
theorem dX1_unlockStolen_91 : decode cX1_unlockStolen 91 = .ok (.aload_n 0, 1) := by decide +kernel
theorem dX1_unlockStolen_92 : decode cX1_unlockStolen 92 = .ok (.getfield 17, 3) := by decide +kernel
theorem dX1_unlockStolen_95 : decode cX1_unlockStolen 95 = .ok (.aload_n 0, 1) := by decide +kernel
theorem dX1_unlockStolen_96 : decode cX1_unlockStolen 96 = .ok (.getfield 30, 3) := by decide +kernel
theorem dX1_unlockStolen_99 : decode cX1_unlockStolen 99 = .ok (.bipush 16, 2) := by decide +kernel
theorem dX1_unlockStolen_101 : decode cX1_unlockStolen 101 = .ok (.invokevirtual 49, 3) := by decide +kernel
theorem dX1_unlockStolen_104 : decode cX1_unlockStolen 104 = .ok (.aload_n 0, 1) := by decide +kernel
theorem dX1_unlockStolen_105 : decode cX1_unlockStolen 105 = .ok (.getfield 17, 3) := by decide +kernel
theorem dX1_unlockStolen_108 : decode cX1_unlockStolen 108 = .ok (.aload_n 0, 1) := by decide +kernel
theorem dX1_unlockStolen_109 : decode cX1_unlockStolen 109 = .ok (.getfield 23, 3) := by decide +kernel
theorem dX1_unlockStolen_112 : decode cX1_unlockStolen 112 = .ok (.bipush 16, 2) := by decide +kernel
theorem dX1_unlockStolen_114 : decode cX1_unlockStolen 114 = .ok (.invokevirtual 49, 3) := by decide +kernel
theorem dX1_unlockStolen_117 : decode cX1_unlockStolen 117 = .ok (.aload_n 0, 1) := by decide +kernel
theorem dX1_unlockStolen_118 : decode cX1_unlockStolen 118 = .ok (.aload_n 0, 1) := by decide +kernel
theorem dX1_unlockStolen_119 : decode cX1_unlockStolen 119 = .ok (.getfield 17, 3) := by decide +kernel
theorem dX1_unlockStolen_122 : decode cX1_unlockStolen 122 = .ok (.aload_n 2, 1) := by decide +kernel
theorem dX1_unlockStolen_123 : decode cX1_unlockStolen 123 = .ok (.invokevirtual 74, 3) := by decide +kernel
theorem dX1_unlockStolen_126 : decode cX1_unlockStolen 126 = .ok (.aload_n 2, 1) := by decide +kernel
theorem dX1_unlockStolen_127 : decode cX1_unlockStolen 127 = .ok (.aload_n 1, 1) := by decide +kernel
theorem dX1_unlockStolen_128 : decode cX1_unlockStolen 128 = .ok (.getfield 33, 3) := by decide +kernel
theorem dX1_unlockStolen_131 : decode cX1_unlockStolen 131 = .ok (.invokevirtual 81, 3) := by decide +kernel
theorem dX1_unlockStolen_134 : decode cX1_unlockStolen 134 = .ok (.return_, 1) := by decide +kernel

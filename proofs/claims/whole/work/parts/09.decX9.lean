theorem dX9_init_0 : decode cX9_init 0 = .ok (.aload_n 0, 1) := by decide +kernel
theorem dX9_init_1 : decode cX9_init 1 = .ok (.invokespecial 1, 3) := by decide +kernel
theorem dX9_init_4 : decode cX9_init 4 = .ok (.aload_n 0, 1) := by decide +kernel
theorem dX9_init_5 : decode cX9_init 5 = .ok (.aload_n 1, 1) := by decide +kernel
theorem dX9_init_6 : decode cX9_init 6 = .ok (.putfield 7, 3) := by decide +kernel
theorem dX9_init_9 : decode cX9_init 9 = .ok (.aload_n 0, 1) := by decide +kernel
theorem dX9_init_10 : decode cX9_init 10 = .ok (.aload_n 2, 1) := by decide +kernel
theorem dX9_init_11 : decode cX9_init 11 = .ok (.putfield 13, 3) := by decide +kernel
theorem dX9_init_14 : decode cX9_init 14 = .ok (.aload_n 0, 1) := by decide +kernel
theorem dX9_init_15 : decode cX9_init 15 = .ok (.new 17, 3) := by decide +kernel
theorem dX9_init_18 : decode cX9_init 18 = .ok (.dup, 1) := by decide +kernel
theorem dX9_init_19 : decode cX9_init 19 = .ok (.invokespecial 19, 3) := by decide +kernel
theorem dX9_init_22 : decode cX9_init 22 = .ok (.putfield 20, 3) := by decide +kernel
theorem dX9_init_25 : decode cX9_init 25 = .ok (.aload_n 0, 1) := by decide +kernel
theorem dX9_init_26 : decode cX9_init 26 = .ok (.new 17, 3) := by decide +kernel
theorem dX9_init_29 : decode cX9_init 29 = .ok (.dup, 1) := by decide +kernel
theorem dX9_init_30 : decode cX9_init 30 = .ok (.invokespecial 19, 3) := by decide +kernel
theorem dX9_init_33 : decode cX9_init 33 = .ok (.putfield 24, 3) := by decide +kernel
theorem dX9_init_36 : decode cX9_init 36 = .ok (.aload_n 0, 1) := by decide +kernel
theorem dX9_init_37 : decode cX9_init 37 = .ok (.new 17, 3) := by decide +kernel
theorem dX9_init_40 : decode cX9_init 40 = .ok (.dup, 1) := by decide +kernel
theorem dX9_init_41 : decode cX9_init 41 = .ok (.invokespecial 19, 3) := by decide +kernel
theorem dX9_init_44 : decode cX9_init 44 = .ok (.putfield 27, 3) := by decide +kernel
theorem dX9_init_47 : decode cX9_init 47 = .ok (.return_, 1) := by decide +kernel
theorem dX9_feedBack_0 : decode cX9_feedBack 0 = .ok (.aload_n 0, 1) := by decide +kernel
theorem dX9_feedBack_1 : decode cX9_feedBack 1 = .ok (.getfield 20, 3) := by decide +kernel
theorem dX9_feedBack_4 : decode cX9_feedBack 4 = .ok (.aload_n 0, 1) := by decide +kernel
theorem dX9_feedBack_5 : decode cX9_feedBack 5 = .ok (.getfield 13, 3) := by decide +kernel
theorem dX9_feedBack_8 : decode cX9_feedBack 8 = .ok (.iconst 0, 1) := by decide +kernel
theorem dX9_feedBack_9 : decode cX9_feedBack 9 = .ok (.invokevirtual 30, 3) := by decide +kernel
theorem dX9_feedBack_12 : decode cX9_feedBack 12 = .ok (.iconst 0, 1) := by decide +kernel
theorem dX9_feedBack_13 : decode cX9_feedBack 13 = .ok (.istore 4, 2) := by decide +kernel
theorem dX9_feedBack_15 : decode cX9_feedBack 15 = .ok (.iload 4, 2) := by decide +kernel
theorem dX9_feedBack_17 : decode cX9_feedBack 17 = .ok (.aload_n 1, 1) := by decide +kernel
theorem dX9_feedBack_18 : decode cX9_feedBack 18 = .ok (.getfield 34, 3) := by decide +kernel
theorem dX9_feedBack_21 : decode cX9_feedBack 21 = .ok (.if_icmp .ge 98, 3) := by decide +kernel
theorem dX9_feedBack_24 : decode cX9_feedBack 24 = .ok (.aload_n 0, 1) := by decide +kernel
theorem dX9_feedBack_25 : decode cX9_feedBack 25 = .ok (.getfield 27, 3) := by decide +kernel
theorem dX9_feedBack_28 : decode cX9_feedBack 28 = .ok (.aload_n 0, 1) := by decide +kernel
theorem dX9_feedBack_29 : decode cX9_feedBack 29 = .ok (.getfield 20, 3) := by decide +kernel
theorem dX9_feedBack_32 : decode cX9_feedBack 32 = .ok (.invokevirtual 40, 3) := by decide +kernel
theorem dX9_feedBack_35 : decode cX9_feedBack 35 = .ok (.aload_n 0, 1) := by decide +kernel
theorem dX9_feedBack_36 : decode cX9_feedBack 36 = .ok (.getfield 7, 3) := by decide +kernel
theorem dX9_feedBack_39 : decode cX9_feedBack 39 = .ok (.aload_n 0, 1) := by decide +kernel
theorem dX9_feedBack_40 : decode cX9_feedBack 40 = .ok (.getfield 27, 3) := by decide +kernel
theorem dX9_feedBack_43 : decode cX9_feedBack 43 = .ok (.invokevirtual 44, 3) := by decide +kernel
theorem dX9_feedBack_46 : decode cX9_feedBack 46 = .ok (.aload_n 0, 1) := by decide +kernel
theorem dX9_feedBack_47 : decode cX9_feedBack 47 = .ok (.getfield 24, 3) := by decide +kernel
theorem dX9_feedBack_50 : decode cX9_feedBack 50 = .ok (.aload_n 1, 1) := by decide +kernel
theorem dX9_feedBack_51 : decode cX9_feedBack 51 = .ok (.iload 4, 2) := by decide +kernel
theorem dX9_feedBack_53 : decode cX9_feedBack 53 = .ok (.invokevirtual 30, 3) := by decide +kernel
theorem dX9_feedBack_56 : decode cX9_feedBack 56 = .ok (.aload_n 0, 1) := by decide +kernel
theorem dX9_feedBack_57 : decode cX9_feedBack 57 = .ok (.getfield 20, 3) := by decide +kernel
theorem dX9_feedBack_60 : decode cX9_feedBack 60 = .ok (.aload_n 0, 1) := by decide +kernel
theorem dX9_feedBack_61 : decode cX9_feedBack 61 = .ok (.getfield 24, 3) := by decide +kernel
theorem dX9_feedBack_64 : decode cX9_feedBack 64 = .ok (.invokevirtual 40, 3) := by decide +kernel
theorem dX9_feedBack_67 : decode cX9_feedBack 67 = .ok (.aload_n 0, 1) := by decide +kernel
theorem dX9_feedBack_68 : decode cX9_feedBack 68 = .ok (.getfield 24, 3) := by decide +kernel
theorem dX9_feedBack_71 : decode cX9_feedBack 71 = .ok (.aload_n 0, 1) := by decide +kernel
theorem dX9_feedBack_72 : decode cX9_feedBack 72 = .ok (.getfield 27, 3) := by decide +kernel
theorem dX9_feedBack_75 : decode cX9_feedBack 75 = .ok (.invokevirtual 49, 3) := by decide +kernel
theorem dX9_feedBack_78 : decode cX9_feedBack 78 = .ok (.iload_n 2, 1) := by decide +kernel
theorem dX9_feedBack_79 : decode cX9_feedBack 79 = .ok (.ifCond .ne 14, 3) := by decide +kernel
theorem dX9_feedBack_82 : decode cX9_feedBack 82 = .ok (.aload_n 0, 1) := by decide +kernel
theorem dX9_feedBack_83 : decode cX9_feedBack 83 = .ok (.getfield 20, 3) := by decide +kernel
theorem dX9_feedBack_86 : decode cX9_feedBack 86 = .ok (.aload_n 0, 1) := by decide +kernel
theorem dX9_feedBack_87 : decode cX9_feedBack 87 = .ok (.getfield 24, 3) := by decide +kernel
theorem dX9_feedBack_90 : decode cX9_feedBack 90 = .ok (.invokevirtual 40, 3) := by decide +kernel
theorem dX9_feedBack_93 : decode cX9_feedBack 93 = .ok (.aload_n 3, 1) := by decide +kernel
theorem dX9_feedBack_94 : decode cX9_feedBack 94 = .ok (.aload_n 0, 1) := by decide +kernel
theorem dX9_feedBack_95 : decode cX9_feedBack 95 = .ok (.getfield 24, 3) := by decide +kernel
theorem dX9_feedBack_98 : decode cX9_feedBack 98 = .ok (.bipush 16, 2) := by decide +kernel
theorem dX9_feedBack_100 : decode cX9_feedBack 100 = .ok (.aload_n 1, 1) := by decide +kernel
theorem dX9_feedBack_101 : decode cX9_feedBack 101 = .ok (.getfield 34, 3) := by decide +kernel
theorem dX9_feedBack_104 : decode cX9_feedBack 104 = .ok (.iload 4, 2) := by decide +kernel
theorem dX9_feedBack_106 : decode cX9_feedBack 106 = .ok (.isub, 1) := by decide +kernel
theorem dX9_feedBack_107 : decode cX9_feedBack 107 = .ok (.invokestatic 52, 3) := by decide +kernel
theorem dX9_feedBack_110 : decode cX9_feedBack 110 = .ok (.invokevirtual 58, 3) := by decide +kernel
theorem dX9_feedBack_113 : decode cX9_feedBack 113 = .ok (.iinc 4 16, 3) := by decide +kernel
theorem dX9_feedBack_116 : decode cX9_feedBack 116 = .ok (.goto (-101), 3) := by decide +kernel
theorem dX9_feedBack_119 : decode cX9_feedBack 119 = .ok (.return_, 1) := by decide +kernel
theorem dX9_feedBackOne_0 : decode cX9_feedBackOne 0 = .ok (.aload_n 0, 1) := by decide +kernel
theorem dX9_feedBackOne_1 : decode cX9_feedBackOne 1 = .ok (.getfield 20, 3) := by decide +kernel
theorem dX9_feedBackOne_4 : decode cX9_feedBackOne 4 = .ok (.aload_n 0, 1) := by decide +kernel
theorem dX9_feedBackOne_5 : decode cX9_feedBackOne 5 = .ok (.getfield 13, 3) := by decide +kernel
theorem dX9_feedBackOne_8 : decode cX9_feedBackOne 8 = .ok (.iconst 0, 1) := by decide +kernel
theorem dX9_feedBackOne_9 : decode cX9_feedBackOne 9 = .ok (.invokevirtual 30, 3) := by decide +kernel
theorem dX9_feedBackOne_12 : decode cX9_feedBackOne 12 = .ok (.iconst 0, 1) := by decide +kernel
theorem dX9_feedBackOne_13 : decode cX9_feedBackOne 13 = .ok (.istore 4, 2) := by decide +kernel
theorem dX9_feedBackOne_15 : decode cX9_feedBackOne 15 = .ok (.iload 4, 2) := by decide +kernel
theorem dX9_feedBackOne_17 : decode cX9_feedBackOne 17 = .ok (.aload_n 1, 1) := by decide +kernel
theorem dX9_feedBackOne_18 : decode cX9_feedBackOne 18 = .ok (.getfield 34, 3) := by decide +kernel
theorem dX9_feedBackOne_21 : decode cX9_feedBackOne 21 = .ok (.if_icmp .ge 76, 3) := by decide +kernel
theorem dX9_feedBackOne_24 : decode cX9_feedBackOne 24 = .ok (.aload_n 0, 1) := by decide +kernel
theorem dX9_feedBackOne_25 : decode cX9_feedBackOne 25 = .ok (.getfield 27, 3) := by decide +kernel
theorem dX9_feedBackOne_28 : decode cX9_feedBackOne 28 = .ok (.aload_n 0, 1) := by decide +kernel
theorem dX9_feedBackOne_29 : decode cX9_feedBackOne 29 = .ok (.getfield 20, 3) := by decide +kernel
theorem dX9_feedBackOne_32 : decode cX9_feedBackOne 32 = .ok (.invokevirtual 40, 3) := by decide +kernel
theorem dX9_feedBackOne_35 : decode cX9_feedBackOne 35 = .ok (.aload_n 0, 1) := by decide +kernel
theorem dX9_feedBackOne_36 : decode cX9_feedBackOne 36 = .ok (.getfield 7, 3) := by decide +kernel
theorem dX9_feedBackOne_39 : decode cX9_feedBackOne 39 = .ok (.aload_n 0, 1) := by decide +kernel
theorem dX9_feedBackOne_40 : decode cX9_feedBackOne 40 = .ok (.getfield 27, 3) := by decide +kernel
theorem dX9_feedBackOne_43 : decode cX9_feedBackOne 43 = .ok (.invokevirtual 44, 3) := by decide +kernel
theorem dX9_feedBackOne_46 : decode cX9_feedBackOne 46 = .ok (.aload_n 1, 1) := by decide +kernel
theorem dX9_feedBackOne_47 : decode cX9_feedBackOne 47 = .ok (.iload 4, 2) := by decide +kernel
theorem dX9_feedBackOne_49 : decode cX9_feedBackOne 49 = .ok (.invokevirtual 62, 3) := by decide +kernel
theorem dX9_feedBackOne_52 : decode cX9_feedBackOne 52 = .ok (.istore 5, 2) := by decide +kernel
theorem dX9_feedBackOne_54 : decode cX9_feedBackOne 54 = .ok (.iload 5, 2) := by decide +kernel
theorem dX9_feedBackOne_56 : decode cX9_feedBackOne 56 = .ok (.aload_n 0, 1) := by decide +kernel
theorem dX9_feedBackOne_57 : decode cX9_feedBackOne 57 = .ok (.getfield 27, 3) := by decide +kernel
theorem dX9_feedBackOne_60 : decode cX9_feedBackOne 60 = .ok (.iconst 0, 1) := by decide +kernel
theorem dX9_feedBackOne_61 : decode cX9_feedBackOne 61 = .ok (.invokevirtual 66, 3) := by decide +kernel
theorem dX9_feedBackOne_64 : decode cX9_feedBackOne 64 = .ok (.ixor, 1) := by decide +kernel
theorem dX9_feedBackOne_65 : decode cX9_feedBackOne 65 = .ok (.istore 6, 2) := by decide +kernel
theorem dX9_feedBackOne_67 : decode cX9_feedBackOne 67 = .ok (.aload_n 3, 1) := by decide +kernel
theorem dX9_feedBackOne_68 : decode cX9_feedBackOne 68 = .ok (.iload 6, 2) := by decide +kernel
theorem dX9_feedBackOne_70 : decode cX9_feedBackOne 70 = .ok (.invokevirtual 69, 3) := by decide +kernel
theorem dX9_feedBackOne_73 : decode cX9_feedBackOne 73 = .ok (.aload_n 0, 1) := by decide +kernel
theorem dX9_feedBackOne_74 : decode cX9_feedBackOne 74 = .ok (.getfield 20, 3) := by decide +kernel
theorem dX9_feedBackOne_77 : decode cX9_feedBackOne 77 = .ok (.iload_n 2, 1) := by decide +kernel
theorem dX9_feedBackOne_78 : decode cX9_feedBackOne 78 = .ok (.ifCond .eq 8, 3) := by decide +kernel
theorem dX9_feedBackOne_81 : decode cX9_feedBackOne 81 = .ok (.iload 5, 2) := by decide +kernel
theorem dX9_feedBackOne_83 : decode cX9_feedBackOne 83 = .ok (.goto 5, 3) := by decide +kernel
theorem dX9_feedBackOne_86 : decode cX9_feedBackOne 86 = .ok (.iload 6, 2) := by decide +kernel
theorem dX9_feedBackOne_88 : decode cX9_feedBackOne 88 = .ok (.invokevirtual 73, 3) := by decide +kernel
theorem dX9_feedBackOne_91 : decode cX9_feedBackOne 91 = .ok (.iinc 4 1, 3) := by decide +kernel
theorem dX9_feedBackOne_94 : decode cX9_feedBackOne 94 = .ok (.goto (-79), 3) := by decide +kernel
theorem dX9_feedBackOne_97 : decode cX9_feedBackOne 97 = .ok (.return_, 1) := by decide +kernel
theorem dX9_turnOver_0 : decode cX9_turnOver 0 = .ok (.aload_n 0, 1) := by decide +kernel
theorem dX9_turnOver_1 : decode cX9_turnOver 1 = .ok (.getfield 20, 3) := by decide +kernel
theorem dX9_turnOver_4 : decode cX9_turnOver 4 = .ok (.aload_n 0, 1) := by decide +kernel
theorem dX9_turnOver_5 : decode cX9_turnOver 5 = .ok (.getfield 13, 3) := by decide +kernel
theorem dX9_turnOver_8 : decode cX9_turnOver 8 = .ok (.iconst 0, 1) := by decide +kernel
theorem dX9_turnOver_9 : decode cX9_turnOver 9 = .ok (.invokevirtual 30, 3) := by decide +kernel
theorem dX9_turnOver_12 : decode cX9_turnOver 12 = .ok (.iconst 0, 1) := by decide +kernel
theorem dX9_turnOver_13 : decode cX9_turnOver 13 = .ok (.istore_n 3, 1) := by decide +kernel
theorem dX9_turnOver_14 : decode cX9_turnOver 14 = .ok (.iload_n 3, 1) := by decide +kernel
theorem dX9_turnOver_15 : decode cX9_turnOver 15 = .ok (.aload_n 1, 1) := by decide +kernel
theorem dX9_turnOver_16 : decode cX9_turnOver 16 = .ok (.getfield 34, 3) := by decide +kernel
theorem dX9_turnOver_19 : decode cX9_turnOver 19 = .ok (.if_icmp .ge 59, 3) := by decide +kernel
theorem dX9_turnOver_22 : decode cX9_turnOver 22 = .ok (.aload_n 0, 1) := by decide +kernel
theorem dX9_turnOver_23 : decode cX9_turnOver 23 = .ok (.getfield 7, 3) := by decide +kernel
theorem dX9_turnOver_26 : decode cX9_turnOver 26 = .ok (.aload_n 0, 1) := by decide +kernel
theorem dX9_turnOver_27 : decode cX9_turnOver 27 = .ok (.getfield 20, 3) := by decide +kernel
theorem dX9_turnOver_30 : decode cX9_turnOver 30 = .ok (.invokevirtual 44, 3) := by decide +kernel
theorem dX9_turnOver_33 : decode cX9_turnOver 33 = .ok (.aload_n 0, 1) := by decide +kernel
theorem dX9_turnOver_34 : decode cX9_turnOver 34 = .ok (.getfield 24, 3) := by decide +kernel
theorem dX9_turnOver_37 : decode cX9_turnOver 37 = .ok (.aload_n 1, 1) := by decide +kernel
theorem dX9_turnOver_38 : decode cX9_turnOver 38 = .ok (.iload_n 3, 1) := by decide +kernel
theorem dX9_turnOver_39 : decode cX9_turnOver 39 = .ok (.invokevirtual 30, 3) := by decide +kernel
theorem dX9_turnOver_42 : decode cX9_turnOver 42 = .ok (.aload_n 0, 1) := by decide +kernel
theorem dX9_turnOver_43 : decode cX9_turnOver 43 = .ok (.getfield 24, 3) := by decide +kernel
theorem dX9_turnOver_46 : decode cX9_turnOver 46 = .ok (.aload_n 0, 1) := by decide +kernel
theorem dX9_turnOver_47 : decode cX9_turnOver 47 = .ok (.getfield 20, 3) := by decide +kernel
theorem dX9_turnOver_50 : decode cX9_turnOver 50 = .ok (.invokevirtual 49, 3) := by decide +kernel
theorem dX9_turnOver_53 : decode cX9_turnOver 53 = .ok (.aload_n 2, 1) := by decide +kernel
theorem dX9_turnOver_54 : decode cX9_turnOver 54 = .ok (.aload_n 0, 1) := by decide +kernel
theorem dX9_turnOver_55 : decode cX9_turnOver 55 = .ok (.getfield 24, 3) := by decide +kernel
theorem dX9_turnOver_58 : decode cX9_turnOver 58 = .ok (.bipush 16, 2) := by decide +kernel
theorem dX9_turnOver_60 : decode cX9_turnOver 60 = .ok (.aload_n 1, 1) := by decide +kernel
theorem dX9_turnOver_61 : decode cX9_turnOver 61 = .ok (.getfield 34, 3) := by decide +kernel
theorem dX9_turnOver_64 : decode cX9_turnOver 64 = .ok (.iload_n 3, 1) := by decide +kernel
theorem dX9_turnOver_65 : decode cX9_turnOver 65 = .ok (.isub, 1) := by decide +kernel
theorem dX9_turnOver_66 : decode cX9_turnOver 66 = .ok (.invokestatic 52, 3) := by decide +kernel
theorem dX9_turnOver_69 : decode cX9_turnOver 69 = .ok (.invokevirtual 58, 3) := by decide +kernel
theorem dX9_turnOver_72 : decode cX9_turnOver 72 = .ok (.iinc 3 16, 3) := by decide +kernel
theorem dX9_turnOver_75 : decode cX9_turnOver 75 = .ok (.goto (-61), 3) := by decide +kernel
theorem dX9_turnOver_78 : decode cX9_turnOver 78 = .ok (.return_, 1) := by decide +kernel
theorem dX9_count_0 : decode cX9_count 0 = .ok (.aload_n 0, 1) := by decide +kernel
theorem dX9_count_1 : decode cX9_count 1 = .ok (.getfield 20, 3) := by decide +kernel
theorem dX9_count_4 : decode cX9_count 4 = .ok (.aload_n 2, 1) := by decide +kernel
theorem dX9_count_5 : decode cX9_count 5 = .ok (.invokevirtual 40, 3) := by decide +kernel
theorem dX9_count_8 : decode cX9_count 8 = .ok (.iconst 0, 1) := by decide +kernel
theorem dX9_count_9 : decode cX9_count 9 = .ok (.istore 5, 2) := by decide +kernel
theorem dX9_count_11 : decode cX9_count 11 = .ok (.iload 5, 2) := by decide +kernel
theorem dX9_count_13 : decode cX9_count 13 = .ok (.aload_n 3, 1) := by decide +kernel
theorem dX9_count_14 : decode cX9_count 14 = .ok (.getfield 34, 3) := by decide +kernel
theorem dX9_count_17 : decode cX9_count 17 = .ok (.if_icmp .ge 77, 3) := by decide +kernel
theorem dX9_count_20 : decode cX9_count 20 = .ok (.aload_n 0, 1) := by decide +kernel
theorem dX9_count_21 : decode cX9_count 21 = .ok (.getfield 27, 3) := by decide +kernel
theorem dX9_count_24 : decode cX9_count 24 = .ok (.aload_n 0, 1) := by decide +kernel
theorem dX9_count_25 : decode cX9_count 25 = .ok (.getfield 20, 3) := by decide +kernel
theorem dX9_count_28 : decode cX9_count 28 = .ok (.invokevirtual 40, 3) := by decide +kernel
theorem dX9_count_31 : decode cX9_count 31 = .ok (.aload_n 1, 1) := by decide +kernel
theorem dX9_count_32 : decode cX9_count 32 = .ok (.aload_n 0, 1) := by decide +kernel
theorem dX9_count_33 : decode cX9_count 33 = .ok (.getfield 27, 3) := by decide +kernel
theorem dX9_count_36 : decode cX9_count 36 = .ok (.invokevirtual 44, 3) := by decide +kernel
theorem dX9_count_39 : decode cX9_count 39 = .ok (.aload_n 0, 1) := by decide +kernel
theorem dX9_count_40 : decode cX9_count 40 = .ok (.getfield 24, 3) := by decide +kernel
theorem dX9_count_43 : decode cX9_count 43 = .ok (.aload_n 3, 1) := by decide +kernel
theorem dX9_count_44 : decode cX9_count 44 = .ok (.iload 5, 2) := by decide +kernel
theorem dX9_count_46 : decode cX9_count 46 = .ok (.invokevirtual 30, 3) := by decide +kernel
theorem dX9_count_49 : decode cX9_count 49 = .ok (.aload_n 0, 1) := by decide +kernel
theorem dX9_count_50 : decode cX9_count 50 = .ok (.getfield 24, 3) := by decide +kernel
theorem dX9_count_53 : decode cX9_count 53 = .ok (.aload_n 0, 1) := by decide +kernel
theorem dX9_count_54 : decode cX9_count 54 = .ok (.getfield 27, 3) := by decide +kernel
theorem dX9_count_57 : decode cX9_count 57 = .ok (.invokevirtual 49, 3) := by decide +kernel
theorem dX9_count_60 : decode cX9_count 60 = .ok (.aload 4, 2) := by decide +kernel
theorem dX9_count_62 : decode cX9_count 62 = .ok (.aload_n 0, 1) := by decide +kernel
theorem dX9_count_63 : decode cX9_count 63 = .ok (.getfield 24, 3) := by decide +kernel
theorem dX9_count_66 : decode cX9_count 66 = .ok (.bipush 16, 2) := by decide +kernel
theorem dX9_count_68 : decode cX9_count 68 = .ok (.aload_n 3, 1) := by decide +kernel
theorem dX9_count_69 : decode cX9_count 69 = .ok (.getfield 34, 3) := by decide +kernel
theorem dX9_count_72 : decode cX9_count 72 = .ok (.iload 5, 2) := by decide +kernel
theorem dX9_count_74 : decode cX9_count 74 = .ok (.isub, 1) := by decide +kernel
theorem dX9_count_75 : decode cX9_count 75 = .ok (.invokestatic 52, 3) := by decide +kernel
theorem dX9_count_78 : decode cX9_count 78 = .ok (.invokevirtual 58, 3) := by decide +kernel
theorem dX9_count_81 : decode cX9_count 81 = .ok (.aload_n 0, 1) := by decide +kernel
theorem dX9_count_82 : decode cX9_count 82 = .ok (.getfield 20, 3) := by decide +kernel
theorem dX9_count_85 : decode cX9_count 85 = .ok (.invokevirtual 76, 3) := by decide +kernel
theorem dX9_count_88 : decode cX9_count 88 = .ok (.iinc 5 16, 3) := by decide +kernel
theorem dX9_count_91 : decode cX9_count 91 = .ok (.goto (-80), 3) := by decide +kernel
theorem dX9_count_94 : decode cX9_count 94 = .ok (.return_, 1) := by decide +kernel

theorem dX10_init_0 : decode cX10_init 0 = .ok (.aload_n 0, 1) := by decide +kernel
theorem dX10_init_1 : decode cX10_init 1 = .ok (.invokespecial 1, 3) := by decide +kernel
theorem dX10_init_4 : decode cX10_init 4 = .ok (.aload_n 0, 1) := by decide +kernel
theorem dX10_init_5 : decode cX10_init 5 = .ok (.aload_n 1, 1) := by decide +kernel
theorem dX10_init_6 : decode cX10_init 6 = .ok (.putfield 7, 3) := by decide +kernel
theorem dX10_init_9 : decode cX10_init 9 = .ok (.aload_n 0, 1) := by decide +kernel
theorem dX10_init_10 : decode cX10_init 10 = .ok (.new 13, 3) := by decide +kernel
theorem dX10_init_13 : decode cX10_init 13 = .ok (.dup, 1) := by decide +kernel
theorem dX10_init_14 : decode cX10_init 14 = .ok (.invokespecial 15, 3) := by decide +kernel
theorem dX10_init_17 : decode cX10_init 17 = .ok (.putfield 16, 3) := by decide +kernel
theorem dX10_init_20 : decode cX10_init 20 = .ok (.return_, 1) := by decide +kernel
theorem dX10_lockWrap_0 : decode cX10_lockWrap 0 = .ok (.aload_n 1, 1) := by decide +kernel
theorem dX10_lockWrap_1 : decode cX10_lockWrap 1 = .ok (.aload_n 2, 1) := by decide +kernel
theorem dX10_lockWrap_2 : decode cX10_lockWrap 2 = .ok (.invokestatic 20, 3) := by decide +kernel
theorem dX10_lockWrap_5 : decode cX10_lockWrap 5 = .ok (.aload_n 0, 1) := by decide +kernel
theorem dX10_lockWrap_6 : decode cX10_lockWrap 6 = .ok (.ldc2_w 24, 3) := by decide +kernel
theorem dX10_lockWrap_9 : decode cX10_lockWrap 9 = .ok (.aload_n 2, 1) := by decide +kernel
theorem dX10_lockWrap_10 : decode cX10_lockWrap 10 = .ok (.invokevirtual 26, 3) := by decide +kernel
theorem dX10_lockWrap_13 : decode cX10_lockWrap 13 = .ok (.return_, 1) := by decide +kernel
theorem dX10_unlockWrap_0 : decode cX10_unlockWrap 0 = .ok (.aload_n 2, 1) := by decide +kernel
theorem dX10_unlockWrap_1 : decode cX10_unlockWrap 1 = .ok (.aload_n 1, 1) := by decide +kernel
theorem dX10_unlockWrap_2 : decode cX10_unlockWrap 2 = .ok (.invokevirtual 30, 3) := by decide +kernel
theorem dX10_unlockWrap_5 : decode cX10_unlockWrap 5 = .ok (.aload_n 0, 1) := by decide +kernel
theorem dX10_unlockWrap_6 : decode cX10_unlockWrap 6 = .ok (.aload_n 2, 1) := by decide +kernel
theorem dX10_unlockWrap_7 : decode cX10_unlockWrap 7 = .ok (.invokevirtual 36, 3) := by decide +kernel
theorem dX10_unlockWrap_10 : decode cX10_unlockWrap 10 = .ok (.lstore_n 3, 1) := by decide +kernel
theorem dX10_unlockWrap_11 : decode cX10_unlockWrap 11 = .ok (.aload_n 2, 1) := by decide +kernel
theorem dX10_unlockWrap_12 : decode cX10_unlockWrap 12 = .ok (.invokestatic 40, 3) := by decide +kernel
theorem dX10_unlockWrap_15 : decode cX10_unlockWrap 15 = .ok (.lload_n 3, 1) := by decide +kernel
theorem dX10_unlockWrap_16 : decode cX10_unlockWrap 16 = .ok (.ldc2_w 24, 3) := by decide +kernel
theorem dX10_unlockWrap_19 : decode cX10_unlockWrap 19 = .ok (.lcmp, 1) := by decide +kernel
theorem dX10_unlockWrap_20 : decode cX10_unlockWrap 20 = .ok (.ifCond .ne 7, 3) := by decide +kernel
theorem dX10_unlockWrap_23 : decode cX10_unlockWrap 23 = .ok (.iconst 1, 1) := by decide +kernel
theorem dX10_unlockWrap_24 : decode cX10_unlockWrap 24 = .ok (.goto 4, 3) := by decide +kernel
theorem dX10_unlockWrap_27 : decode cX10_unlockWrap 27 = .ok (.iconst 0, 1) := by decide +kernel
theorem dX10_unlockWrap_28 : decode cX10_unlockWrap 28 = .ok (.ireturn, 1) := by decide +kernel
theorem dX10_lockPaddedWrap_0 : decode cX10_lockPaddedWrap 0 = .ok (.aload_n 1, 1) := by decide +kernel
theorem dX10_lockPaddedWrap_1 : decode cX10_lockPaddedWrap 1 = .ok (.aload_n 2, 1) := by decide +kernel
theorem dX10_lockPaddedWrap_2 : decode cX10_lockPaddedWrap 2 = .ok (.invokestatic 20, 3) := by decide +kernel
theorem dX10_lockPaddedWrap_5 : decode cX10_lockPaddedWrap 5 = .ok (.ldc2_w 43, 3) := by decide +kernel
theorem dX10_lockPaddedWrap_8 : decode cX10_lockPaddedWrap 8 = .ok (.aload_n 1, 1) := by decide +kernel
theorem dX10_lockPaddedWrap_9 : decode cX10_lockPaddedWrap 9 = .ok (.getfield 45, 3) := by decide +kernel
theorem dX10_lockPaddedWrap_12 : decode cX10_lockPaddedWrap 12 = .ok (.i2l, 1) := by decide +kernel
theorem dX10_lockPaddedWrap_13 : decode cX10_lockPaddedWrap 13 = .ok (.lor, 1) := by decide +kernel
theorem dX10_lockPaddedWrap_14 : decode cX10_lockPaddedWrap 14 = .ok (.lstore_n 3, 1) := by decide +kernel
theorem dX10_lockPaddedWrap_15 : decode cX10_lockPaddedWrap 15 = .ok (.aload_n 2, 1) := by decide +kernel
theorem dX10_lockPaddedWrap_16 : decode cX10_lockPaddedWrap 16 = .ok (.getfield 45, 3) := by decide +kernel
theorem dX10_lockPaddedWrap_19 : decode cX10_lockPaddedWrap 19 = .ok (.bipush 16, 2) := by decide +kernel
theorem dX10_lockPaddedWrap_21 : decode cX10_lockPaddedWrap 21 = .ok (.if_icmp .ne 46, 3) := by decide +kernel
theorem dX10_lockPaddedWrap_24 : decode cX10_lockPaddedWrap 24 = .ok (.aload_n 0, 1) := by decide +kernel
theorem dX10_lockPaddedWrap_25 : decode cX10_lockPaddedWrap 25 = .ok (.getfield 16, 3) := by decide +kernel
theorem dX10_lockPaddedWrap_28 : decode cX10_lockPaddedWrap 28 = .ok (.lload_n 3, 1) := by decide +kernel
theorem dX10_lockPaddedWrap_29 : decode cX10_lockPaddedWrap 29 = .ok (.aload_n 2, 1) := by decide +kernel
theorem dX10_lockPaddedWrap_30 : decode cX10_lockPaddedWrap 30 = .ok (.bipush 8, 2) := by decide +kernel
theorem dX10_lockPaddedWrap_32 : decode cX10_lockPaddedWrap 32 = .ok (.invokevirtual 49, 3) := by decide +kernel
theorem dX10_lockPaddedWrap_35 : decode cX10_lockPaddedWrap 35 = .ok (.invokevirtual 53, 3) := by decide +kernel
theorem dX10_lockPaddedWrap_38 : decode cX10_lockPaddedWrap 38 = .ok (.aload_n 0, 1) := by decide +kernel
theorem dX10_lockPaddedWrap_39 : decode cX10_lockPaddedWrap 39 = .ok (.getfield 7, 3) := by decide +kernel
theorem dX10_lockPaddedWrap_42 : decode cX10_lockPaddedWrap 42 = .ok (.aload_n 0, 1) := by decide +kernel
theorem dX10_lockPaddedWrap_43 : decode cX10_lockPaddedWrap 43 = .ok (.getfield 16, 3) := by decide +kernel
theorem dX10_lockPaddedWrap_46 : decode cX10_lockPaddedWrap 46 = .ok (.invokevirtual 57, 3) := by decide +kernel
theorem dX10_lockPaddedWrap_49 : decode cX10_lockPaddedWrap 49 = .ok (.aload_n 2, 1) := by decide +kernel
theorem dX10_lockPaddedWrap_50 : decode cX10_lockPaddedWrap 50 = .ok (.iconst 0, 1) := by decide +kernel
theorem dX10_lockPaddedWrap_51 : decode cX10_lockPaddedWrap 51 = .ok (.invokevirtual 63, 3) := by decide +kernel
theorem dX10_lockPaddedWrap_54 : decode cX10_lockPaddedWrap 54 = .ok (.aload_n 2, 1) := by decide +kernel
theorem dX10_lockPaddedWrap_55 : decode cX10_lockPaddedWrap 55 = .ok (.aload_n 0, 1) := by decide +kernel
theorem dX10_lockPaddedWrap_56 : decode cX10_lockPaddedWrap 56 = .ok (.getfield 16, 3) := by decide +kernel
theorem dX10_lockPaddedWrap_59 : decode cX10_lockPaddedWrap 59 = .ok (.bipush 16, 2) := by decide +kernel
theorem dX10_lockPaddedWrap_61 : decode cX10_lockPaddedWrap 61 = .ok (.invokevirtual 67, 3) := by decide +kernel
theorem dX10_lockPaddedWrap_64 : decode cX10_lockPaddedWrap 64 = .ok (.goto 9, 3) := by decide +kernel
theorem dX10_lockPaddedWrap_67 : decode cX10_lockPaddedWrap 67 = .ok (.aload_n 0, 1) := by decide +kernel
theorem dX10_lockPaddedWrap_68 : decode cX10_lockPaddedWrap 68 = .ok (.lload_n 3, 1) := by decide +kernel
theorem dX10_lockPaddedWrap_69 : decode cX10_lockPaddedWrap 69 = .ok (.aload_n 2, 1) := by decide +kernel
theorem dX10_lockPaddedWrap_70 : decode cX10_lockPaddedWrap 70 = .ok (.invokevirtual 26, 3) := by decide +kernel
theorem dX10_lockPaddedWrap_73 : decode cX10_lockPaddedWrap 73 = .ok (.return_, 1) := by decide +kernel
theorem dX10_unlockPaddedWrap_0 : decode cX10_unlockPaddedWrap 0 = .ok (.aload_n 2, 1) := by decide +kernel
theorem dX10_unlockPaddedWrap_1 : decode cX10_unlockPaddedWrap 1 = .ok (.aload_n 1, 1) := by decide +kernel
theorem dX10_unlockPaddedWrap_2 : decode cX10_unlockPaddedWrap 2 = .ok (.invokevirtual 30, 3) := by decide +kernel
theorem dX10_unlockPaddedWrap_5 : decode cX10_unlockPaddedWrap 5 = .ok (.aload_n 2, 1) := by decide +kernel
theorem dX10_unlockPaddedWrap_6 : decode cX10_unlockPaddedWrap 6 = .ok (.getfield 45, 3) := by decide +kernel
theorem dX10_unlockPaddedWrap_9 : decode cX10_unlockPaddedWrap 9 = .ok (.bipush 16, 2) := by decide +kernel
theorem dX10_unlockPaddedWrap_11 : decode cX10_unlockPaddedWrap 11 = .ok (.if_icmp .ne 47, 3) := by decide +kernel
theorem dX10_unlockPaddedWrap_14 : decode cX10_unlockPaddedWrap 14 = .ok (.aload_n 0, 1) := by decide +kernel
theorem dX10_unlockPaddedWrap_15 : decode cX10_unlockPaddedWrap 15 = .ok (.getfield 16, 3) := by decide +kernel
theorem dX10_unlockPaddedWrap_18 : decode cX10_unlockPaddedWrap 18 = .ok (.aload_n 2, 1) := by decide +kernel
theorem dX10_unlockPaddedWrap_19 : decode cX10_unlockPaddedWrap 19 = .ok (.iconst 0, 1) := by decide +kernel
theorem dX10_unlockPaddedWrap_20 : decode cX10_unlockPaddedWrap 20 = .ok (.invokevirtual 71, 3) := by decide +kernel
theorem dX10_unlockPaddedWrap_23 : decode cX10_unlockPaddedWrap 23 = .ok (.aload_n 0, 1) := by decide +kernel
theorem dX10_unlockPaddedWrap_24 : decode cX10_unlockPaddedWrap 24 = .ok (.getfield 7, 3) := by decide +kernel
theorem dX10_unlockPaddedWrap_27 : decode cX10_unlockPaddedWrap 27 = .ok (.aload_n 0, 1) := by decide +kernel
theorem dX10_unlockPaddedWrap_28 : decode cX10_unlockPaddedWrap 28 = .ok (.getfield 16, 3) := by decide +kernel
theorem dX10_unlockPaddedWrap_31 : decode cX10_unlockPaddedWrap 31 = .ok (.invokevirtual 75, 3) := by decide +kernel
theorem dX10_unlockPaddedWrap_34 : decode cX10_unlockPaddedWrap 34 = .ok (.aload_n 0, 1) := by decide +kernel
theorem dX10_unlockPaddedWrap_35 : decode cX10_unlockPaddedWrap 35 = .ok (.getfield 16, 3) := by decide +kernel
theorem dX10_unlockPaddedWrap_38 : decode cX10_unlockPaddedWrap 38 = .ok (.getfield 78, 3) := by decide +kernel
theorem dX10_unlockPaddedWrap_41 : decode cX10_unlockPaddedWrap 41 = .ok (.lstore_n 3, 1) := by decide +kernel
theorem dX10_unlockPaddedWrap_42 : decode cX10_unlockPaddedWrap 42 = .ok (.aload_n 2, 1) := by decide +kernel
theorem dX10_unlockPaddedWrap_43 : decode cX10_unlockPaddedWrap 43 = .ok (.bipush 8, 2) := by decide +kernel
theorem dX10_unlockPaddedWrap_45 : decode cX10_unlockPaddedWrap 45 = .ok (.aload_n 0, 1) := by decide +kernel
theorem dX10_unlockPaddedWrap_46 : decode cX10_unlockPaddedWrap 46 = .ok (.getfield 16, 3) := by decide +kernel
theorem dX10_unlockPaddedWrap_49 : decode cX10_unlockPaddedWrap 49 = .ok (.getfield 82, 3) := by decide +kernel
theorem dX10_unlockPaddedWrap_52 : decode cX10_unlockPaddedWrap 52 = .ok (.invokevirtual 85, 3) := by decide +kernel
theorem dX10_unlockPaddedWrap_55 : decode cX10_unlockPaddedWrap 55 = .ok (.goto 9, 3) := by decide +kernel
theorem dX10_unlockPaddedWrap_58 : decode cX10_unlockPaddedWrap 58 = .ok (.aload_n 0, 1) := by decide +kernel
theorem dX10_unlockPaddedWrap_59 : decode cX10_unlockPaddedWrap 59 = .ok (.aload_n 2, 1) := by decide +kernel
theorem dX10_unlockPaddedWrap_60 : decode cX10_unlockPaddedWrap 60 = .ok (.invokevirtual 36, 3) := by decide +kernel
theorem dX10_unlockPaddedWrap_63 : decode cX10_unlockPaddedWrap 63 = .ok (.lstore_n 3, 1) := by decide +kernel
theorem dX10_unlockPaddedWrap_64 : decode cX10_unlockPaddedWrap 64 = .ok (.aload_n 2, 1) := by decide +kernel
theorem dX10_unlockPaddedWrap_65 : decode cX10_unlockPaddedWrap 65 = .ok (.invokestatic 40, 3) := by decide +kernel
theorem dX10_unlockPaddedWrap_68 : decode cX10_unlockPaddedWrap 68 = .ok (.lload_n 3, 1) := by decide +kernel
theorem dX10_unlockPaddedWrap_69 : decode cX10_unlockPaddedWrap 69 = .ok (.aload_n 2, 1) := by decide +kernel
theorem dX10_unlockPaddedWrap_70 : decode cX10_unlockPaddedWrap 70 = .ok (.invokestatic 89, 3) := by decide +kernel
theorem dX10_unlockPaddedWrap_73 : decode cX10_unlockPaddedWrap 73 = .ok (.lconst 0, 1) := by decide +kernel
theorem dX10_unlockPaddedWrap_74 : decode cX10_unlockPaddedWrap 74 = .ok (.lcmp, 1) := by decide +kernel
theorem dX10_unlockPaddedWrap_75 : decode cX10_unlockPaddedWrap 75 = .ok (.ifCond .eq 5, 3) := by decide +kernel
theorem dX10_unlockPaddedWrap_78 : decode cX10_unlockPaddedWrap 78 = .ok (.iconst 0, 1) := by decide +kernel
theorem dX10_unlockPaddedWrap_79 : decode cX10_unlockPaddedWrap 79 = .ok (.ireturn, 1) := by decide +kernel
theorem dX10_unlockPaddedWrap_80 : decode cX10_unlockPaddedWrap 80 = .ok (.aload_n 2, 1) := by decide +kernel
theorem dX10_unlockPaddedWrap_81 : decode cX10_unlockPaddedWrap 81 = .ok (.lload_n 3, 1) := by decide +kernel
theorem dX10_unlockPaddedWrap_82 : decode cX10_unlockPaddedWrap 82 = .ok (.ldc2_w 93, 3) := by decide +kernel
theorem dX10_unlockPaddedWrap_85 : decode cX10_unlockPaddedWrap 85 = .ok (.land, 1) := by decide +kernel
theorem dX10_unlockPaddedWrap_86 : decode cX10_unlockPaddedWrap 86 = .ok (.l2i, 1) := by decide +kernel
theorem dX10_unlockPaddedWrap_87 : decode cX10_unlockPaddedWrap 87 = .ok (.invokevirtual 63, 3) := by decide +kernel
theorem dX10_unlockPaddedWrap_90 : decode cX10_unlockPaddedWrap 90 = .ok (.iconst 1, 1) := by decide +kernel
theorem dX10_unlockPaddedWrap_91 : decode cX10_unlockPaddedWrap 91 = .ok (.ireturn, 1) := by decide +kernel
theorem dX10_wrongEnd_0 : decode cX10_wrongEnd 0 = .ok (.lload_n 0, 1) := by decide +kernel
theorem dX10_wrongEnd_1 : decode cX10_wrongEnd 1 = .ok (.ldc2_w 93, 3) := by decide +kernel
theorem dX10_wrongEnd_4 : decode cX10_wrongEnd 4 = .ok (.land, 1) := by decide +kernel
theorem dX10_wrongEnd_5 : decode cX10_wrongEnd 5 = .ok (.lstore_n 3, 1) := by decide +kernel
theorem dX10_wrongEnd_6 : decode cX10_wrongEnd 6 = .ok (.lload_n 0, 1) := by decide +kernel
theorem dX10_wrongEnd_7 : decode cX10_wrongEnd 7 = .ok (.bipush 32, 2) := by decide +kernel
theorem dX10_wrongEnd_9 : decode cX10_wrongEnd 9 = .ok (.lushr, 1) := by decide +kernel
theorem dX10_wrongEnd_10 : decode cX10_wrongEnd 10 = .ok (.ldc2_w 95, 3) := by decide +kernel
theorem dX10_wrongEnd_13 : decode cX10_wrongEnd 13 = .ok (.lxor, 1) := by decide +kernel
theorem dX10_wrongEnd_14 : decode cX10_wrongEnd 14 = .ok (.lstore 5, 2) := by decide +kernel
theorem dX10_wrongEnd_16 : decode cX10_wrongEnd 16 = .ok (.lload 5, 2) := by decide +kernel
theorem dX10_wrongEnd_18 : decode cX10_wrongEnd 18 = .ok (.lload_n 3, 1) := by decide +kernel
theorem dX10_wrongEnd_19 : decode cX10_wrongEnd 19 = .ok (.aload_n 2, 1) := by decide +kernel
theorem dX10_wrongEnd_20 : decode cX10_wrongEnd 20 = .ok (.getfield 45, 3) := by decide +kernel
theorem dX10_wrongEnd_23 : decode cX10_wrongEnd 23 = .ok (.bipush 7, 2) := by decide +kernel
theorem dX10_wrongEnd_25 : decode cX10_wrongEnd 25 = .ok (.isub, 1) := by decide +kernel
theorem dX10_wrongEnd_26 : decode cX10_wrongEnd 26 = .ok (.i2l, 1) := by decide +kernel
theorem dX10_wrongEnd_27 : decode cX10_wrongEnd 27 = .ok (.lsub, 1) := by decide +kernel
theorem dX10_wrongEnd_28 : decode cX10_wrongEnd 28 = .ok (.aload_n 2, 1) := by decide +kernel
theorem dX10_wrongEnd_29 : decode cX10_wrongEnd 29 = .ok (.getfield 45, 3) := by decide +kernel
theorem dX10_wrongEnd_32 : decode cX10_wrongEnd 32 = .ok (.i2l, 1) := by decide +kernel
theorem dX10_wrongEnd_33 : decode cX10_wrongEnd 33 = .ok (.lload_n 3, 1) := by decide +kernel
theorem dX10_wrongEnd_34 : decode cX10_wrongEnd 34 = .ok (.lsub, 1) := by decide +kernel
theorem dX10_wrongEnd_35 : decode cX10_wrongEnd 35 = .ok (.lor, 1) := by decide +kernel
theorem dX10_wrongEnd_36 : decode cX10_wrongEnd 36 = .ok (.bipush 63, 2) := by decide +kernel
theorem dX10_wrongEnd_38 : decode cX10_wrongEnd 38 = .ok (.lshr, 1) := by decide +kernel
theorem dX10_wrongEnd_39 : decode cX10_wrongEnd 39 = .ok (.lor, 1) := by decide +kernel
theorem dX10_wrongEnd_40 : decode cX10_wrongEnd 40 = .ok (.lstore 5, 2) := by decide +kernel
theorem dX10_wrongEnd_42 : decode cX10_wrongEnd 42 = .ok (.aload_n 2, 1) := by decide +kernel
theorem dX10_wrongEnd_43 : decode cX10_wrongEnd 43 = .ok (.getfield 45, 3) := by decide +kernel
theorem dX10_wrongEnd_46 : decode cX10_wrongEnd 46 = .ok (.bipush 8, 2) := by decide +kernel
theorem dX10_wrongEnd_48 : decode cX10_wrongEnd 48 = .ok (.isub, 1) := by decide +kernel
theorem dX10_wrongEnd_49 : decode cX10_wrongEnd 49 = .ok (.istore 7, 2) := by decide +kernel
theorem dX10_wrongEnd_51 : decode cX10_wrongEnd 51 = .ok (.iload 7, 2) := by decide +kernel
theorem dX10_wrongEnd_53 : decode cX10_wrongEnd 53 = .ok (.aload_n 2, 1) := by decide +kernel
theorem dX10_wrongEnd_54 : decode cX10_wrongEnd 54 = .ok (.getfield 45, 3) := by decide +kernel
theorem dX10_wrongEnd_57 : decode cX10_wrongEnd 57 = .ok (.if_icmp .ge 36, 3) := by decide +kernel
theorem dX10_wrongEnd_60 : decode cX10_wrongEnd 60 = .ok (.lload_n 3, 1) := by decide +kernel
theorem dX10_wrongEnd_61 : decode cX10_wrongEnd 61 = .ok (.lconst 1, 1) := by decide +kernel
theorem dX10_wrongEnd_62 : decode cX10_wrongEnd 62 = .ok (.lsub, 1) := by decide +kernel
theorem dX10_wrongEnd_63 : decode cX10_wrongEnd 63 = .ok (.iload 7, 2) := by decide +kernel
theorem dX10_wrongEnd_65 : decode cX10_wrongEnd 65 = .ok (.i2l, 1) := by decide +kernel
theorem dX10_wrongEnd_66 : decode cX10_wrongEnd 66 = .ok (.lsub, 1) := by decide +kernel
theorem dX10_wrongEnd_67 : decode cX10_wrongEnd 67 = .ok (.bipush 63, 2) := by decide +kernel
theorem dX10_wrongEnd_69 : decode cX10_wrongEnd 69 = .ok (.lshr, 1) := by decide +kernel
theorem dX10_wrongEnd_70 : decode cX10_wrongEnd 70 = .ok (.lstore 8, 2) := by decide +kernel
theorem dX10_wrongEnd_72 : decode cX10_wrongEnd 72 = .ok (.lload 5, 2) := by decide +kernel
theorem dX10_wrongEnd_74 : decode cX10_wrongEnd 74 = .ok (.lload 8, 2) := by decide +kernel
theorem dX10_wrongEnd_76 : decode cX10_wrongEnd 76 = .ok (.aload_n 2, 1) := by decide +kernel
theorem dX10_wrongEnd_77 : decode cX10_wrongEnd 77 = .ok (.iload 7, 2) := by decide +kernel
theorem dX10_wrongEnd_79 : decode cX10_wrongEnd 79 = .ok (.invokevirtual 97, 3) := by decide +kernel
theorem dX10_wrongEnd_82 : decode cX10_wrongEnd 82 = .ok (.i2l, 1) := by decide +kernel
theorem dX10_wrongEnd_83 : decode cX10_wrongEnd 83 = .ok (.land, 1) := by decide +kernel
theorem dX10_wrongEnd_84 : decode cX10_wrongEnd 84 = .ok (.lor, 1) := by decide +kernel
theorem dX10_wrongEnd_85 : decode cX10_wrongEnd 85 = .ok (.lstore 5, 2) := by decide +kernel
theorem dX10_wrongEnd_87 : decode cX10_wrongEnd 87 = .ok (.iinc 7 1, 3) := by decide +kernel
theorem dX10_wrongEnd_90 : decode cX10_wrongEnd 90 = .ok (.goto (-39), 3) := by decide +kernel
theorem dX10_wrongEnd_93 : decode cX10_wrongEnd 93 = .ok (.lload 5, 2) := by decide +kernel
theorem dX10_wrongEnd_95 : decode cX10_wrongEnd 95 = .ok (.lreturn, 1) := by decide +kernel
theorem dX10_layBehind_0 : decode cX10_layBehind 0 = .ok (.iconst 0, 1) := by decide +kernel
theorem dX10_layBehind_1 : decode cX10_layBehind 1 = .ok (.istore_n 2, 1) := by decide +kernel
theorem dX10_layBehind_2 : decode cX10_layBehind 2 = .ok (.iload_n 2, 1) := by decide +kernel
theorem dX10_layBehind_3 : decode cX10_layBehind 3 = .ok (.bipush 8, 2) := by decide +kernel
theorem dX10_layBehind_5 : decode cX10_layBehind 5 = .ok (.if_icmp .ge 14, 3) := by decide +kernel
theorem dX10_layBehind_8 : decode cX10_layBehind 8 = .ok (.aload_n 1, 1) := by decide +kernel
theorem dX10_layBehind_9 : decode cX10_layBehind 9 = .ok (.iconst 0, 1) := by decide +kernel
theorem dX10_layBehind_10 : decode cX10_layBehind 10 = .ok (.invokevirtual 101, 3) := by decide +kernel
theorem dX10_layBehind_13 : decode cX10_layBehind 13 = .ok (.iinc 2 1, 3) := by decide +kernel
theorem dX10_layBehind_16 : decode cX10_layBehind 16 = .ok (.goto (-14), 3) := by decide +kernel
theorem dX10_layBehind_19 : decode cX10_layBehind 19 = .ok (.aload_n 1, 1) := by decide +kernel
theorem dX10_layBehind_20 : decode cX10_layBehind 20 = .ok (.aload_n 0, 1) := by decide +kernel
theorem dX10_layBehind_21 : decode cX10_layBehind 21 = .ok (.invokevirtual 30, 3) := by decide +kernel
theorem dX10_layBehind_24 : decode cX10_layBehind 24 = .ok (.aload_n 1, 1) := by decide +kernel
theorem dX10_layBehind_25 : decode cX10_layBehind 25 = .ok (.bipush 8, 2) := by decide +kernel
theorem dX10_layBehind_27 : decode cX10_layBehind 27 = .ok (.invokevirtual 104, 3) := by decide +kernel
theorem dX10_layBehind_30 : decode cX10_layBehind 30 = .ok (.return_, 1) := by decide +kernel
theorem dX10_takeOff_0 : decode cX10_takeOff 0 = .ok (.bipush 8, 2) := by decide +kernel
theorem dX10_takeOff_2 : decode cX10_takeOff 2 = .ok (.istore_n 1, 1) := by decide +kernel
theorem dX10_takeOff_3 : decode cX10_takeOff 3 = .ok (.iload_n 1, 1) := by decide +kernel
theorem dX10_takeOff_4 : decode cX10_takeOff 4 = .ok (.aload_n 0, 1) := by decide +kernel
theorem dX10_takeOff_5 : decode cX10_takeOff 5 = .ok (.getfield 45, 3) := by decide +kernel
theorem dX10_takeOff_8 : decode cX10_takeOff 8 = .ok (.if_icmp .ge 22, 3) := by decide +kernel
theorem dX10_takeOff_11 : decode cX10_takeOff 11 = .ok (.aload_n 0, 1) := by decide +kernel
theorem dX10_takeOff_12 : decode cX10_takeOff 12 = .ok (.iload_n 1, 1) := by decide +kernel
theorem dX10_takeOff_13 : decode cX10_takeOff 13 = .ok (.bipush 8, 2) := by decide +kernel
theorem dX10_takeOff_15 : decode cX10_takeOff 15 = .ok (.isub, 1) := by decide +kernel
theorem dX10_takeOff_16 : decode cX10_takeOff 16 = .ok (.aload_n 0, 1) := by decide +kernel
theorem dX10_takeOff_17 : decode cX10_takeOff 17 = .ok (.iload_n 1, 1) := by decide +kernel
theorem dX10_takeOff_18 : decode cX10_takeOff 18 = .ok (.invokevirtual 97, 3) := by decide +kernel
theorem dX10_takeOff_21 : decode cX10_takeOff 21 = .ok (.invokevirtual 107, 3) := by decide +kernel
theorem dX10_takeOff_24 : decode cX10_takeOff 24 = .ok (.iinc 1 1, 3) := by decide +kernel
theorem dX10_takeOff_27 : decode cX10_takeOff 27 = .ok (.goto (-24), 3) := by decide +kernel
theorem dX10_takeOff_30 : decode cX10_takeOff 30 = .ok (.aload_n 0, 1) := by decide +kernel
theorem dX10_takeOff_31 : decode cX10_takeOff 31 = .ok (.aload_n 0, 1) := by decide +kernel
theorem dX10_takeOff_32 : decode cX10_takeOff 32 = .ok (.getfield 45, 3) := by decide +kernel
theorem dX10_takeOff_35 : decode cX10_takeOff 35 = .ok (.bipush 8, 2) := by decide +kernel
theorem dX10_takeOff_37 : decode cX10_takeOff 37 = .ok (.isub, 1) := by decide +kernel
theorem dX10_takeOff_38 : decode cX10_takeOff 38 = .ok (.invokevirtual 63, 3) := by decide +kernel
theorem dX10_takeOff_41 : decode cX10_takeOff 41 = .ok (.return_, 1) := by decide +kernel
theorem dX10_mixIn_0 : decode cX10_mixIn 0 = .ok (.aload_n 3, 1) := by decide +kernel
theorem dX10_mixIn_1 : decode cX10_mixIn 1 = .ok (.getfield 45, 3) := by decide +kernel
theorem dX10_mixIn_4 : decode cX10_mixIn 4 = .ok (.iconst 3, 1) := by decide +kernel
theorem dX10_mixIn_5 : decode cX10_mixIn 5 = .ok (.ishr, 1) := by decide +kernel
theorem dX10_mixIn_6 : decode cX10_mixIn 6 = .ok (.iconst 1, 1) := by decide +kernel
theorem dX10_mixIn_7 : decode cX10_mixIn 7 = .ok (.isub, 1) := by decide +kernel
theorem dX10_mixIn_8 : decode cX10_mixIn 8 = .ok (.istore 4, 2) := by decide +kernel
theorem dX10_mixIn_10 : decode cX10_mixIn 10 = .ok (.lload_n 1, 1) := by decide +kernel
theorem dX10_mixIn_11 : decode cX10_mixIn 11 = .ok (.lstore 5, 2) := by decide +kernel
theorem dX10_mixIn_13 : decode cX10_mixIn 13 = .ok (.iconst 0, 1) := by decide +kernel
theorem dX10_mixIn_14 : decode cX10_mixIn 14 = .ok (.istore 7, 2) := by decide +kernel
theorem dX10_mixIn_16 : decode cX10_mixIn 16 = .ok (.iload 7, 2) := by decide +kernel
theorem dX10_mixIn_18 : decode cX10_mixIn 18 = .ok (.bipush 6, 2) := by decide +kernel
theorem dX10_mixIn_20 : decode cX10_mixIn 20 = .ok (.if_icmp .ge 89, 3) := by decide +kernel
theorem dX10_mixIn_23 : decode cX10_mixIn 23 = .ok (.iconst 1, 1) := by decide +kernel
theorem dX10_mixIn_24 : decode cX10_mixIn 24 = .ok (.istore 8, 2) := by decide +kernel
theorem dX10_mixIn_26 : decode cX10_mixIn 26 = .ok (.iload 8, 2) := by decide +kernel
theorem dX10_mixIn_28 : decode cX10_mixIn 28 = .ok (.iload 4, 2) := by decide +kernel
theorem dX10_mixIn_30 : decode cX10_mixIn 30 = .ok (.if_icmp .gt 73, 3) := by decide +kernel
theorem dX10_mixIn_33 : decode cX10_mixIn 33 = .ok (.aload_n 0, 1) := by decide +kernel
theorem dX10_mixIn_34 : decode cX10_mixIn 34 = .ok (.getfield 16, 3) := by decide +kernel
theorem dX10_mixIn_37 : decode cX10_mixIn 37 = .ok (.lload 5, 2) := by decide +kernel
theorem dX10_mixIn_39 : decode cX10_mixIn 39 = .ok (.aload_n 3, 1) := by decide +kernel
theorem dX10_mixIn_40 : decode cX10_mixIn 40 = .ok (.bipush 8, 2) := by decide +kernel
theorem dX10_mixIn_42 : decode cX10_mixIn 42 = .ok (.iload 8, 2) := by decide +kernel
theorem dX10_mixIn_44 : decode cX10_mixIn 44 = .ok (.imul, 1) := by decide +kernel
theorem dX10_mixIn_45 : decode cX10_mixIn 45 = .ok (.invokevirtual 49, 3) := by decide +kernel
theorem dX10_mixIn_48 : decode cX10_mixIn 48 = .ok (.invokevirtual 53, 3) := by decide +kernel
theorem dX10_mixIn_51 : decode cX10_mixIn 51 = .ok (.aload_n 0, 1) := by decide +kernel
theorem dX10_mixIn_52 : decode cX10_mixIn 52 = .ok (.getfield 7, 3) := by decide +kernel
theorem dX10_mixIn_55 : decode cX10_mixIn 55 = .ok (.aload_n 0, 1) := by decide +kernel
theorem dX10_mixIn_56 : decode cX10_mixIn 56 = .ok (.getfield 16, 3) := by decide +kernel
theorem dX10_mixIn_59 : decode cX10_mixIn 59 = .ok (.invokevirtual 57, 3) := by decide +kernel
theorem dX10_mixIn_62 : decode cX10_mixIn 62 = .ok (.aload_n 0, 1) := by decide +kernel
theorem dX10_mixIn_63 : decode cX10_mixIn 63 = .ok (.getfield 16, 3) := by decide +kernel
theorem dX10_mixIn_66 : decode cX10_mixIn 66 = .ok (.getfield 78, 3) := by decide +kernel
theorem dX10_mixIn_69 : decode cX10_mixIn 69 = .ok (.iload 4, 2) := by decide +kernel
theorem dX10_mixIn_71 : decode cX10_mixIn 71 = .ok (.iload 7, 2) := by decide +kernel
theorem dX10_mixIn_73 : decode cX10_mixIn 73 = .ok (.imul, 1) := by decide +kernel
theorem dX10_mixIn_74 : decode cX10_mixIn 74 = .ok (.iload 8, 2) := by decide +kernel
theorem dX10_mixIn_76 : decode cX10_mixIn 76 = .ok (.iadd, 1) := by decide +kernel
theorem dX10_mixIn_77 : decode cX10_mixIn 77 = .ok (.i2l, 1) := by decide +kernel
theorem dX10_mixIn_78 : decode cX10_mixIn 78 = .ok (.lxor, 1) := by decide +kernel
theorem dX10_mixIn_79 : decode cX10_mixIn 79 = .ok (.lstore 5, 2) := by decide +kernel
theorem dX10_mixIn_81 : decode cX10_mixIn 81 = .ok (.aload_n 3, 1) := by decide +kernel
theorem dX10_mixIn_82 : decode cX10_mixIn 82 = .ok (.bipush 8, 2) := by decide +kernel
theorem dX10_mixIn_84 : decode cX10_mixIn 84 = .ok (.iload 8, 2) := by decide +kernel
theorem dX10_mixIn_86 : decode cX10_mixIn 86 = .ok (.imul, 1) := by decide +kernel
theorem dX10_mixIn_87 : decode cX10_mixIn 87 = .ok (.aload_n 0, 1) := by decide +kernel
theorem dX10_mixIn_88 : decode cX10_mixIn 88 = .ok (.getfield 16, 3) := by decide +kernel
theorem dX10_mixIn_91 : decode cX10_mixIn 91 = .ok (.getfield 82, 3) := by decide +kernel
theorem dX10_mixIn_94 : decode cX10_mixIn 94 = .ok (.invokevirtual 85, 3) := by decide +kernel
theorem dX10_mixIn_97 : decode cX10_mixIn 97 = .ok (.iinc 8 1, 3) := by decide +kernel
theorem dX10_mixIn_100 : decode cX10_mixIn 100 = .ok (.goto (-74), 3) := by decide +kernel
theorem dX10_mixIn_103 : decode cX10_mixIn 103 = .ok (.iinc 7 1, 3) := by decide +kernel
theorem dX10_mixIn_106 : decode cX10_mixIn 106 = .ok (.goto (-90), 3) := by decide +kernel
theorem dX10_mixIn_109 : decode cX10_mixIn 109 = .ok (.aload_n 3, 1) := by decide +kernel
theorem dX10_mixIn_110 : decode cX10_mixIn 110 = .ok (.iconst 0, 1) := by decide +kernel
theorem dX10_mixIn_111 : decode cX10_mixIn 111 = .ok (.lload 5, 2) := by decide +kernel
theorem dX10_mixIn_113 : decode cX10_mixIn 113 = .ok (.invokevirtual 85, 3) := by decide +kernel
theorem dX10_mixIn_116 : decode cX10_mixIn 116 = .ok (.return_, 1) := by decide +kernel
theorem dX10_mixOut_0 : decode cX10_mixOut 0 = .ok (.aload_n 1, 1) := by decide +kernel
theorem dX10_mixOut_1 : decode cX10_mixOut 1 = .ok (.getfield 45, 3) := by decide +kernel
theorem dX10_mixOut_4 : decode cX10_mixOut 4 = .ok (.iconst 3, 1) := by decide +kernel
theorem dX10_mixOut_5 : decode cX10_mixOut 5 = .ok (.ishr, 1) := by decide +kernel
theorem dX10_mixOut_6 : decode cX10_mixOut 6 = .ok (.iconst 1, 1) := by decide +kernel
theorem dX10_mixOut_7 : decode cX10_mixOut 7 = .ok (.isub, 1) := by decide +kernel
theorem dX10_mixOut_8 : decode cX10_mixOut 8 = .ok (.istore_n 2, 1) := by decide +kernel
theorem dX10_mixOut_9 : decode cX10_mixOut 9 = .ok (.aload_n 1, 1) := by decide +kernel
theorem dX10_mixOut_10 : decode cX10_mixOut 10 = .ok (.iconst 0, 1) := by decide +kernel
theorem dX10_mixOut_11 : decode cX10_mixOut 11 = .ok (.invokevirtual 49, 3) := by decide +kernel
theorem dX10_mixOut_14 : decode cX10_mixOut 14 = .ok (.lstore_n 3, 1) := by decide +kernel
theorem dX10_mixOut_15 : decode cX10_mixOut 15 = .ok (.iconst 5, 1) := by decide +kernel
theorem dX10_mixOut_16 : decode cX10_mixOut 16 = .ok (.istore 5, 2) := by decide +kernel
theorem dX10_mixOut_18 : decode cX10_mixOut 18 = .ok (.iload 5, 2) := by decide +kernel
theorem dX10_mixOut_20 : decode cX10_mixOut 20 = .ok (.ifCond .lt 85, 3) := by decide +kernel
theorem dX10_mixOut_23 : decode cX10_mixOut 23 = .ok (.iload_n 2, 1) := by decide +kernel
theorem dX10_mixOut_24 : decode cX10_mixOut 24 = .ok (.istore 6, 2) := by decide +kernel
theorem dX10_mixOut_26 : decode cX10_mixOut 26 = .ok (.iload 6, 2) := by decide +kernel
theorem dX10_mixOut_28 : decode cX10_mixOut 28 = .ok (.iconst 1, 1) := by decide +kernel
theorem dX10_mixOut_29 : decode cX10_mixOut 29 = .ok (.if_icmp .lt 70, 3) := by decide +kernel
theorem dX10_mixOut_32 : decode cX10_mixOut 32 = .ok (.aload_n 0, 1) := by decide +kernel
theorem dX10_mixOut_33 : decode cX10_mixOut 33 = .ok (.getfield 16, 3) := by decide +kernel
theorem dX10_mixOut_36 : decode cX10_mixOut 36 = .ok (.lload_n 3, 1) := by decide +kernel
theorem dX10_mixOut_37 : decode cX10_mixOut 37 = .ok (.iload_n 2, 1) := by decide +kernel
theorem dX10_mixOut_38 : decode cX10_mixOut 38 = .ok (.iload 5, 2) := by decide +kernel
theorem dX10_mixOut_40 : decode cX10_mixOut 40 = .ok (.imul, 1) := by decide +kernel
theorem dX10_mixOut_41 : decode cX10_mixOut 41 = .ok (.iload 6, 2) := by decide +kernel
theorem dX10_mixOut_43 : decode cX10_mixOut 43 = .ok (.iadd, 1) := by decide +kernel
theorem dX10_mixOut_44 : decode cX10_mixOut 44 = .ok (.i2l, 1) := by decide +kernel
theorem dX10_mixOut_45 : decode cX10_mixOut 45 = .ok (.lxor, 1) := by decide +kernel
theorem dX10_mixOut_46 : decode cX10_mixOut 46 = .ok (.aload_n 1, 1) := by decide +kernel
theorem dX10_mixOut_47 : decode cX10_mixOut 47 = .ok (.bipush 8, 2) := by decide +kernel
theorem dX10_mixOut_49 : decode cX10_mixOut 49 = .ok (.iload 6, 2) := by decide +kernel
theorem dX10_mixOut_51 : decode cX10_mixOut 51 = .ok (.imul, 1) := by decide +kernel
theorem dX10_mixOut_52 : decode cX10_mixOut 52 = .ok (.invokevirtual 49, 3) := by decide +kernel
theorem dX10_mixOut_55 : decode cX10_mixOut 55 = .ok (.invokevirtual 53, 3) := by decide +kernel
theorem dX10_mixOut_58 : decode cX10_mixOut 58 = .ok (.aload_n 0, 1) := by decide +kernel
theorem dX10_mixOut_59 : decode cX10_mixOut 59 = .ok (.getfield 7, 3) := by decide +kernel
theorem dX10_mixOut_62 : decode cX10_mixOut 62 = .ok (.aload_n 0, 1) := by decide +kernel
theorem dX10_mixOut_63 : decode cX10_mixOut 63 = .ok (.getfield 16, 3) := by decide +kernel
theorem dX10_mixOut_66 : decode cX10_mixOut 66 = .ok (.invokevirtual 75, 3) := by decide +kernel
theorem dX10_mixOut_69 : decode cX10_mixOut 69 = .ok (.aload_n 0, 1) := by decide +kernel
theorem dX10_mixOut_70 : decode cX10_mixOut 70 = .ok (.getfield 16, 3) := by decide +kernel
theorem dX10_mixOut_73 : decode cX10_mixOut 73 = .ok (.getfield 78, 3) := by decide +kernel
theorem dX10_mixOut_76 : decode cX10_mixOut 76 = .ok (.lstore_n 3, 1) := by decide +kernel
theorem dX10_mixOut_77 : decode cX10_mixOut 77 = .ok (.aload_n 1, 1) := by decide +kernel
theorem dX10_mixOut_78 : decode cX10_mixOut 78 = .ok (.bipush 8, 2) := by decide +kernel
theorem dX10_mixOut_80 : decode cX10_mixOut 80 = .ok (.iload 6, 2) := by decide +kernel
theorem dX10_mixOut_82 : decode cX10_mixOut 82 = .ok (.imul, 1) := by decide +kernel
theorem dX10_mixOut_83 : decode cX10_mixOut 83 = .ok (.aload_n 0, 1) := by decide +kernel
theorem dX10_mixOut_84 : decode cX10_mixOut 84 = .ok (.getfield 16, 3) := by decide +kernel
theorem dX10_mixOut_87 : decode cX10_mixOut 87 = .ok (.getfield 82, 3) := by decide +kernel
theorem dX10_mixOut_90 : decode cX10_mixOut 90 = .ok (.invokevirtual 85, 3) := by decide +kernel
theorem dX10_mixOut_93 : decode cX10_mixOut 93 = .ok (.iinc 6 (-1), 3) := by decide +kernel
theorem dX10_mixOut_96 : decode cX10_mixOut 96 = .ok (.goto (-70), 3) := by decide +kernel
theorem dX10_mixOut_99 : decode cX10_mixOut 99 = .ok (.iinc 5 (-1), 3) := by decide +kernel
theorem dX10_mixOut_102 : decode cX10_mixOut 102 = .ok (.goto (-84), 3) := by decide +kernel
theorem dX10_mixOut_105 : decode cX10_mixOut 105 = .ok (.lload_n 3, 1) := by decide +kernel
theorem dX10_mixOut_106 : decode cX10_mixOut 106 = .ok (.lreturn, 1) := by decide +kernel

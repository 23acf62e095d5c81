theorem dX3_init_0 : decode cX3_init 0 = .ok (.aload_n 0, 1) := by decide +kernel
theorem dX3_init_1 : decode cX3_init 1 = .ok (.invokespecial 1, 3) := by decide +kernel
theorem dX3_init_4 : decode cX3_init 4 = .ok (.aload_n 0, 1) := by decide +kernel
theorem dX3_init_5 : decode cX3_init 5 = .ok (.aload_n 1, 1) := by decide +kernel
theorem dX3_init_6 : decode cX3_init 6 = .ok (.putfield 7, 3) := by decide +kernel
theorem dX3_init_9 : decode cX3_init 9 = .ok (.aload_n 0, 1) := by decide +kernel
theorem dX3_init_10 : decode cX3_init 10 = .ok (.aload_n 2, 1) := by decide +kernel
theorem dX3_init_11 : decode cX3_init 11 = .ok (.putfield 13, 3) := by decide +kernel
theorem dX3_init_14 : decode cX3_init 14 = .ok (.aload_n 0, 1) := by decide +kernel
theorem dX3_init_15 : decode cX3_init 15 = .ok (.aload_n 3, 1) := by decide +kernel
theorem dX3_init_16 : decode cX3_init 16 = .ok (.putfield 17, 3) := by decide +kernel
theorem dX3_init_19 : decode cX3_init 19 = .ok (.aload_n 0, 1) := by decide +kernel
theorem dX3_init_20 : decode cX3_init 20 = .ok (.new 20, 3) := by decide +kernel
theorem dX3_init_23 : decode cX3_init 23 = .ok (.dup, 1) := by decide +kernel
theorem dX3_init_24 : decode cX3_init 24 = .ok (.invokespecial 22, 3) := by decide +kernel
theorem dX3_init_27 : decode cX3_init 27 = .ok (.putfield 23, 3) := by decide +kernel
theorem dX3_init_30 : decode cX3_init 30 = .ok (.aload_n 0, 1) := by decide +kernel
theorem dX3_init_31 : decode cX3_init 31 = .ok (.new 20, 3) := by decide +kernel
theorem dX3_init_34 : decode cX3_init 34 = .ok (.dup, 1) := by decide +kernel
theorem dX3_init_35 : decode cX3_init 35 = .ok (.invokespecial 22, 3) := by decide +kernel
theorem dX3_init_38 : decode cX3_init 38 = .ok (.putfield 27, 3) := by decide +kernel
theorem dX3_init_41 : decode cX3_init 41 = .ok (.aload_n 0, 1) := by decide +kernel
theorem dX3_init_42 : decode cX3_init 42 = .ok (.new 20, 3) := by decide +kernel
theorem dX3_init_45 : decode cX3_init 45 = .ok (.dup, 1) := by decide +kernel
theorem dX3_init_46 : decode cX3_init 46 = .ok (.invokespecial 22, 3) := by decide +kernel
theorem dX3_init_49 : decode cX3_init 49 = .ok (.putfield 30, 3) := by decide +kernel
theorem dX3_init_52 : decode cX3_init 52 = .ok (.aload_n 0, 1) := by decide +kernel
theorem dX3_init_53 : decode cX3_init 53 = .ok (.new 20, 3) := by decide +kernel
theorem dX3_init_56 : decode cX3_init 56 = .ok (.dup, 1) := by decide +kernel
theorem dX3_init_57 : decode cX3_init 57 = .ok (.invokespecial 22, 3) := by decide +kernel
theorem dX3_init_60 : decode cX3_init 60 = .ok (.putfield 33, 3) := by decide +kernel
theorem dX3_init_63 : decode cX3_init 63 = .ok (.aload_n 0, 1) := by decide +kernel
theorem dX3_init_64 : decode cX3_init 64 = .ok (.new 20, 3) := by decide +kernel
theorem dX3_init_67 : decode cX3_init 67 = .ok (.dup, 1) := by decide +kernel
theorem dX3_init_68 : decode cX3_init 68 = .ok (.invokespecial 22, 3) := by decide +kernel
theorem dX3_init_71 : decode cX3_init 71 = .ok (.putfield 36, 3) := by decide +kernel
theorem dX3_init_74 : decode cX3_init 74 = .ok (.return_, 1) := by decide +kernel
theorem dX3_sumAlone_0 : decode cX3_sumAlone 0 = .ok (.aload_n 0, 1) := by decide +kernel
theorem dX3_sumAlone_1 : decode cX3_sumAlone 1 = .ok (.invokevirtual 39, 3) := by decide +kernel
theorem dX3_sumAlone_4 : decode cX3_sumAlone 4 = .ok (.aload_n 2, 1) := by decide +kernel
theorem dX3_sumAlone_5 : decode cX3_sumAlone 5 = .ok (.lconst 0, 1) := by decide +kernel
theorem dX3_sumAlone_6 : decode cX3_sumAlone 6 = .ok (.lconst 0, 1) := by decide +kernel
theorem dX3_sumAlone_7 : decode cX3_sumAlone 7 = .ok (.invokevirtual 42, 3) := by decide +kernel
theorem dX3_sumAlone_10 : decode cX3_sumAlone 10 = .ok (.aload_n 0, 1) := by decide +kernel
theorem dX3_sumAlone_11 : decode cX3_sumAlone 11 = .ok (.aload_n 1, 1) := by decide +kernel
theorem dX3_sumAlone_12 : decode cX3_sumAlone 12 = .ok (.aload_n 2, 1) := by decide +kernel
theorem dX3_sumAlone_13 : decode cX3_sumAlone 13 = .ok (.invokevirtual 46, 3) := by decide +kernel
theorem dX3_sumAlone_16 : decode cX3_sumAlone 16 = .ok (.return_, 1) := by decide +kernel
theorem dX3_run_0 : decode cX3_run 0 = .ok (.aload_n 0, 1) := by decide +kernel
theorem dX3_run_1 : decode cX3_run 1 = .ok (.invokevirtual 39, 3) := by decide +kernel
theorem dX3_run_4 : decode cX3_run 4 = .ok (.aload_n 0, 1) := by decide +kernel
theorem dX3_run_5 : decode cX3_run 5 = .ok (.invokevirtual 50, 3) := by decide +kernel
theorem dX3_run_8 : decode cX3_run 8 = .ok (.aload_n 0, 1) := by decide +kernel
theorem dX3_run_9 : decode cX3_run 9 = .ok (.aload_n 1, 1) := by decide +kernel
theorem dX3_run_10 : decode cX3_run 10 = .ok (.aload_n 3, 1) := by decide +kernel
theorem dX3_run_11 : decode cX3_run 11 = .ok (.invokevirtual 53, 3) := by decide +kernel
theorem dX3_run_14 : decode cX3_run 14 = .ok (.aload 4, 2) := by decide +kernel
theorem dX3_run_16 : decode cX3_run 16 = .ok (.lconst 0, 1) := by decide +kernel
theorem dX3_run_17 : decode cX3_run 17 = .ok (.lconst 0, 1) := by decide +kernel
theorem dX3_run_18 : decode cX3_run 18 = .ok (.invokevirtual 42, 3) := by decide +kernel
theorem dX3_run_21 : decode cX3_run 21 = .ok (.aload_n 0, 1) := by decide +kernel
theorem dX3_run_22 : decode cX3_run 22 = .ok (.aload_n 0, 1) := by decide +kernel
theorem dX3_run_23 : decode cX3_run 23 = .ok (.getfield 17, 3) := by decide +kernel
theorem dX3_run_26 : decode cX3_run 26 = .ok (.aload 4, 2) := by decide +kernel
theorem dX3_run_28 : decode cX3_run 28 = .ok (.invokevirtual 46, 3) := by decide +kernel
theorem dX3_run_31 : decode cX3_run 31 = .ok (.aload_n 0, 1) := by decide +kernel
theorem dX3_run_32 : decode cX3_run 32 = .ok (.iload_n 2, 1) := by decide +kernel
theorem dX3_run_33 : decode cX3_run 33 = .ok (.ifCond .eq 7, 3) := by decide +kernel
theorem dX3_run_36 : decode cX3_run 36 = .ok (.aload_n 1, 1) := by decide +kernel
theorem dX3_run_37 : decode cX3_run 37 = .ok (.goto 4, 3) := by decide +kernel
theorem dX3_run_40 : decode cX3_run 40 = .ok (.aload_n 3, 1) := by decide +kernel
theorem dX3_run_41 : decode cX3_run 41 = .ok (.aload 4, 2) := by decide +kernel
theorem dX3_run_43 : decode cX3_run 43 = .ok (.invokevirtual 46, 3) := by decide +kernel
theorem dX3_run_46 : decode cX3_run 46 = .ok (.aload_n 0, 1) := by decide +kernel
theorem dX3_run_47 : decode cX3_run 47 = .ok (.getfield 33, 3) := by decide +kernel
theorem dX3_run_50 : decode cX3_run 50 = .ok (.ldc2_w 57, 3) := by decide +kernel
theorem dX3_run_53 : decode cX3_run 53 = .ok (.aload_n 0, 1) := by decide +kernel
theorem dX3_run_54 : decode cX3_run 54 = .ok (.getfield 17, 3) := by decide +kernel
theorem dX3_run_57 : decode cX3_run 57 = .ok (.getfield 59, 3) := by decide +kernel
theorem dX3_run_60 : decode cX3_run 60 = .ok (.i2l, 1) := by decide +kernel
theorem dX3_run_61 : decode cX3_run 61 = .ok (.lmul, 1) := by decide +kernel
theorem dX3_run_62 : decode cX3_run 62 = .ok (.ldc2_w 57, 3) := by decide +kernel
theorem dX3_run_65 : decode cX3_run 65 = .ok (.aload_n 1, 1) := by decide +kernel
theorem dX3_run_66 : decode cX3_run 66 = .ok (.getfield 59, 3) := by decide +kernel
theorem dX3_run_69 : decode cX3_run 69 = .ok (.i2l, 1) := by decide +kernel
theorem dX3_run_70 : decode cX3_run 70 = .ok (.lmul, 1) := by decide +kernel
theorem dX3_run_71 : decode cX3_run 71 = .ok (.invokevirtual 42, 3) := by decide +kernel
theorem dX3_run_74 : decode cX3_run 74 = .ok (.aload_n 0, 1) := by decide +kernel
theorem dX3_run_75 : decode cX3_run 75 = .ok (.aload 4, 2) := by decide +kernel
theorem dX3_run_77 : decode cX3_run 77 = .ok (.invokevirtual 65, 3) := by decide +kernel
theorem dX3_run_80 : decode cX3_run 80 = .ok (.aload_n 0, 1) := by decide +kernel
theorem dX3_run_81 : decode cX3_run 81 = .ok (.getfield 7, 3) := by decide +kernel
theorem dX3_run_84 : decode cX3_run 84 = .ok (.aload_n 0, 1) := by decide +kernel
theorem dX3_run_85 : decode cX3_run 85 = .ok (.getfield 27, 3) := by decide +kernel
theorem dX3_run_88 : decode cX3_run 88 = .ok (.invokevirtual 69, 3) := by decide +kernel
theorem dX3_run_91 : decode cX3_run 91 = .ok (.aload 4, 2) := by decide +kernel
theorem dX3_run_93 : decode cX3_run 93 = .ok (.aload_n 0, 1) := by decide +kernel
theorem dX3_run_94 : decode cX3_run 94 = .ok (.getfield 27, 3) := by decide +kernel
theorem dX3_run_97 : decode cX3_run 97 = .ok (.invokevirtual 74, 3) := by decide +kernel
theorem dX3_run_100 : decode cX3_run 100 = .ok (.return_, 1) := by decide +kernel
theorem dX3_makeH_0 : decode cX3_makeH 0 = .ok (.aload_n 0, 1) := by decide +kernel
theorem dX3_makeH_1 : decode cX3_makeH 1 = .ok (.getfield 23, 3) := by decide +kernel
theorem dX3_makeH_4 : decode cX3_makeH 4 = .ok (.lconst 0, 1) := by decide +kernel
theorem dX3_makeH_5 : decode cX3_makeH 5 = .ok (.lconst 0, 1) := by decide +kernel
theorem dX3_makeH_6 : decode cX3_makeH 6 = .ok (.invokevirtual 42, 3) := by decide +kernel
theorem dX3_makeH_9 : decode cX3_makeH 9 = .ok (.aload_n 0, 1) := by decide +kernel
theorem dX3_makeH_10 : decode cX3_makeH 10 = .ok (.getfield 7, 3) := by decide +kernel
theorem dX3_makeH_13 : decode cX3_makeH 13 = .ok (.aload_n 0, 1) := by decide +kernel
theorem dX3_makeH_14 : decode cX3_makeH 14 = .ok (.getfield 23, 3) := by decide +kernel
theorem dX3_makeH_17 : decode cX3_makeH 17 = .ok (.invokevirtual 69, 3) := by decide +kernel
theorem dX3_makeH_20 : decode cX3_makeH 20 = .ok (.return_, 1) := by decide +kernel
theorem dX3_makeJ_0 : decode cX3_makeJ 0 = .ok (.aload_n 0, 1) := by decide +kernel
theorem dX3_makeJ_1 : decode cX3_makeJ 1 = .ok (.getfield 13, 3) := by decide +kernel
theorem dX3_makeJ_4 : decode cX3_makeJ 4 = .ok (.getfield 59, 3) := by decide +kernel
theorem dX3_makeJ_7 : decode cX3_makeJ 7 = .ok (.bipush 12, 2) := by decide +kernel
theorem dX3_makeJ_9 : decode cX3_makeJ 9 = .ok (.if_icmp .ne 26, 3) := by decide +kernel
theorem dX3_makeJ_12 : decode cX3_makeJ 12 = .ok (.aload_n 0, 1) := by decide +kernel
theorem dX3_makeJ_13 : decode cX3_makeJ 13 = .ok (.getfield 27, 3) := by decide +kernel
theorem dX3_makeJ_16 : decode cX3_makeJ 16 = .ok (.aload_n 0, 1) := by decide +kernel
theorem dX3_makeJ_17 : decode cX3_makeJ 17 = .ok (.getfield 13, 3) := by decide +kernel
theorem dX3_makeJ_20 : decode cX3_makeJ 20 = .ok (.iconst 0, 1) := by decide +kernel
theorem dX3_makeJ_21 : decode cX3_makeJ 21 = .ok (.invokevirtual 77, 3) := by decide +kernel
theorem dX3_makeJ_24 : decode cX3_makeJ 24 = .ok (.aload_n 0, 1) := by decide +kernel
theorem dX3_makeJ_25 : decode cX3_makeJ 25 = .ok (.getfield 27, 3) := by decide +kernel
theorem dX3_makeJ_28 : decode cX3_makeJ 28 = .ok (.bipush 15, 2) := by decide +kernel
theorem dX3_makeJ_30 : decode cX3_makeJ 30 = .ok (.iconst 1, 1) := by decide +kernel
theorem dX3_makeJ_31 : decode cX3_makeJ 31 = .ok (.invokevirtual 81, 3) := by decide +kernel
theorem dX3_makeJ_34 : decode cX3_makeJ 34 = .ok (.return_, 1) := by decide +kernel
theorem dX3_makeJ_35 : decode cX3_makeJ 35 = .ok (.aload_n 0, 1) := by decide +kernel
theorem dX3_makeJ_36 : decode cX3_makeJ 36 = .ok (.getfield 27, 3) := by decide +kernel
theorem dX3_makeJ_39 : decode cX3_makeJ 39 = .ok (.lconst 0, 1) := by decide +kernel
theorem dX3_makeJ_40 : decode cX3_makeJ 40 = .ok (.lconst 0, 1) := by decide +kernel
theorem dX3_makeJ_41 : decode cX3_makeJ 41 = .ok (.invokevirtual 42, 3) := by decide +kernel
theorem dX3_makeJ_44 : decode cX3_makeJ 44 = .ok (.aload_n 0, 1) := by decide +kernel
theorem dX3_makeJ_45 : decode cX3_makeJ 45 = .ok (.aload_n 0, 1) := by decide +kernel
theorem dX3_makeJ_46 : decode cX3_makeJ 46 = .ok (.getfield 13, 3) := by decide +kernel
theorem dX3_makeJ_49 : decode cX3_makeJ 49 = .ok (.aload_n 0, 1) := by decide +kernel
theorem dX3_makeJ_50 : decode cX3_makeJ 50 = .ok (.getfield 27, 3) := by decide +kernel
theorem dX3_makeJ_53 : decode cX3_makeJ 53 = .ok (.invokevirtual 46, 3) := by decide +kernel
theorem dX3_makeJ_56 : decode cX3_makeJ 56 = .ok (.aload_n 0, 1) := by decide +kernel
theorem dX3_makeJ_57 : decode cX3_makeJ 57 = .ok (.getfield 33, 3) := by decide +kernel
theorem dX3_makeJ_60 : decode cX3_makeJ 60 = .ok (.lconst 0, 1) := by decide +kernel
theorem dX3_makeJ_61 : decode cX3_makeJ 61 = .ok (.ldc2_w 57, 3) := by decide +kernel
theorem dX3_makeJ_64 : decode cX3_makeJ 64 = .ok (.aload_n 0, 1) := by decide +kernel
theorem dX3_makeJ_65 : decode cX3_makeJ 65 = .ok (.getfield 13, 3) := by decide +kernel
theorem dX3_makeJ_68 : decode cX3_makeJ 68 = .ok (.getfield 59, 3) := by decide +kernel
theorem dX3_makeJ_71 : decode cX3_makeJ 71 = .ok (.i2l, 1) := by decide +kernel
theorem dX3_makeJ_72 : decode cX3_makeJ 72 = .ok (.lmul, 1) := by decide +kernel
theorem dX3_makeJ_73 : decode cX3_makeJ 73 = .ok (.invokevirtual 42, 3) := by decide +kernel
theorem dX3_makeJ_76 : decode cX3_makeJ 76 = .ok (.aload_n 0, 1) := by decide +kernel
theorem dX3_makeJ_77 : decode cX3_makeJ 77 = .ok (.aload_n 0, 1) := by decide +kernel
theorem dX3_makeJ_78 : decode cX3_makeJ 78 = .ok (.getfield 27, 3) := by decide +kernel
theorem dX3_makeJ_81 : decode cX3_makeJ 81 = .ok (.invokevirtual 65, 3) := by decide +kernel
theorem dX3_makeJ_84 : decode cX3_makeJ 84 = .ok (.return_, 1) := by decide +kernel
theorem dX3_absorb_0 : decode cX3_absorb 0 = .ok (.iconst 0, 1) := by decide +kernel
theorem dX3_absorb_1 : decode cX3_absorb 1 = .ok (.istore_n 3, 1) := by decide +kernel
theorem dX3_absorb_2 : decode cX3_absorb 2 = .ok (.iload_n 3, 1) := by decide +kernel
theorem dX3_absorb_3 : decode cX3_absorb 3 = .ok (.aload_n 1, 1) := by decide +kernel
theorem dX3_absorb_4 : decode cX3_absorb 4 = .ok (.getfield 59, 3) := by decide +kernel
theorem dX3_absorb_7 : decode cX3_absorb 7 = .ok (.if_icmp .ge 23, 3) := by decide +kernel
theorem dX3_absorb_10 : decode cX3_absorb 10 = .ok (.aload_n 0, 1) := by decide +kernel
theorem dX3_absorb_11 : decode cX3_absorb 11 = .ok (.getfield 33, 3) := by decide +kernel
theorem dX3_absorb_14 : decode cX3_absorb 14 = .ok (.aload_n 1, 1) := by decide +kernel
theorem dX3_absorb_15 : decode cX3_absorb 15 = .ok (.iload_n 3, 1) := by decide +kernel
theorem dX3_absorb_16 : decode cX3_absorb 16 = .ok (.invokevirtual 77, 3) := by decide +kernel
theorem dX3_absorb_19 : decode cX3_absorb 19 = .ok (.aload_n 0, 1) := by decide +kernel
theorem dX3_absorb_20 : decode cX3_absorb 20 = .ok (.aload_n 2, 1) := by decide +kernel
theorem dX3_absorb_21 : decode cX3_absorb 21 = .ok (.invokevirtual 65, 3) := by decide +kernel
theorem dX3_absorb_24 : decode cX3_absorb 24 = .ok (.iinc 3 16, 3) := by decide +kernel
theorem dX3_absorb_27 : decode cX3_absorb 27 = .ok (.goto (-25), 3) := by decide +kernel
theorem dX3_absorb_30 : decode cX3_absorb 30 = .ok (.return_, 1) := by decide +kernel
theorem dX3_absorbBlock_0 : decode cX3_absorbBlock 0 = .ok (.aload_n 1, 1) := by decide +kernel
theorem dX3_absorbBlock_1 : decode cX3_absorbBlock 1 = .ok (.aload_n 0, 1) := by decide +kernel
theorem dX3_absorbBlock_2 : decode cX3_absorbBlock 2 = .ok (.getfield 33, 3) := by decide +kernel
theorem dX3_absorbBlock_5 : decode cX3_absorbBlock 5 = .ok (.invokevirtual 74, 3) := by decide +kernel
theorem dX3_absorbBlock_8 : decode cX3_absorbBlock 8 = .ok (.aload_n 1, 1) := by decide +kernel
theorem dX3_absorbBlock_9 : decode cX3_absorbBlock 9 = .ok (.aload_n 0, 1) := by decide +kernel
theorem dX3_absorbBlock_10 : decode cX3_absorbBlock 10 = .ok (.getfield 23, 3) := by decide +kernel
theorem dX3_absorbBlock_13 : decode cX3_absorbBlock 13 = .ok (.invokevirtual 85, 3) := by decide +kernel
theorem dX3_absorbBlock_16 : decode cX3_absorbBlock 16 = .ok (.return_, 1) := by decide +kernel
theorem dX3_count_0 : decode cX3_count 0 = .ok (.aload_n 0, 1) := by decide +kernel
theorem dX3_count_1 : decode cX3_count 1 = .ok (.getfield 30, 3) := by decide +kernel
theorem dX3_count_4 : decode cX3_count 4 = .ok (.aload_n 0, 1) := by decide +kernel
theorem dX3_count_5 : decode cX3_count 5 = .ok (.getfield 27, 3) := by decide +kernel
theorem dX3_count_8 : decode cX3_count 8 = .ok (.invokevirtual 88, 3) := by decide +kernel
theorem dX3_count_11 : decode cX3_count 11 = .ok (.iconst 0, 1) := by decide +kernel
theorem dX3_count_12 : decode cX3_count 12 = .ok (.istore_n 3, 1) := by decide +kernel
theorem dX3_count_13 : decode cX3_count 13 = .ok (.iload_n 3, 1) := by decide +kernel
theorem dX3_count_14 : decode cX3_count 14 = .ok (.aload_n 1, 1) := by decide +kernel
theorem dX3_count_15 : decode cX3_count 15 = .ok (.getfield 59, 3) := by decide +kernel
theorem dX3_count_18 : decode cX3_count 18 = .ok (.if_icmp .ge 77, 3) := by decide +kernel
theorem dX3_count_21 : decode cX3_count 21 = .ok (.aload_n 0, 1) := by decide +kernel
theorem dX3_count_22 : decode cX3_count 22 = .ok (.getfield 30, 3) := by decide +kernel
theorem dX3_count_25 : decode cX3_count 25 = .ok (.invokevirtual 91, 3) := by decide +kernel
theorem dX3_count_28 : decode cX3_count 28 = .ok (.aload_n 0, 1) := by decide +kernel
theorem dX3_count_29 : decode cX3_count 29 = .ok (.getfield 36, 3) := by decide +kernel
theorem dX3_count_32 : decode cX3_count 32 = .ok (.aload_n 0, 1) := by decide +kernel
theorem dX3_count_33 : decode cX3_count 33 = .ok (.getfield 30, 3) := by decide +kernel
theorem dX3_count_36 : decode cX3_count 36 = .ok (.invokevirtual 88, 3) := by decide +kernel
theorem dX3_count_39 : decode cX3_count 39 = .ok (.aload_n 0, 1) := by decide +kernel
theorem dX3_count_40 : decode cX3_count 40 = .ok (.getfield 7, 3) := by decide +kernel
theorem dX3_count_43 : decode cX3_count 43 = .ok (.aload_n 0, 1) := by decide +kernel
theorem dX3_count_44 : decode cX3_count 44 = .ok (.getfield 36, 3) := by decide +kernel
theorem dX3_count_47 : decode cX3_count 47 = .ok (.invokevirtual 69, 3) := by decide +kernel
theorem dX3_count_50 : decode cX3_count 50 = .ok (.aload_n 0, 1) := by decide +kernel
theorem dX3_count_51 : decode cX3_count 51 = .ok (.getfield 33, 3) := by decide +kernel
theorem dX3_count_54 : decode cX3_count 54 = .ok (.aload_n 1, 1) := by decide +kernel
theorem dX3_count_55 : decode cX3_count 55 = .ok (.iload_n 3, 1) := by decide +kernel
theorem dX3_count_56 : decode cX3_count 56 = .ok (.invokevirtual 77, 3) := by decide +kernel
theorem dX3_count_59 : decode cX3_count 59 = .ok (.aload_n 0, 1) := by decide +kernel
theorem dX3_count_60 : decode cX3_count 60 = .ok (.getfield 33, 3) := by decide +kernel
theorem dX3_count_63 : decode cX3_count 63 = .ok (.aload_n 0, 1) := by decide +kernel
theorem dX3_count_64 : decode cX3_count 64 = .ok (.getfield 36, 3) := by decide +kernel
theorem dX3_count_67 : decode cX3_count 67 = .ok (.invokevirtual 74, 3) := by decide +kernel
theorem dX3_count_70 : decode cX3_count 70 = .ok (.aload_n 2, 1) := by decide +kernel
theorem dX3_count_71 : decode cX3_count 71 = .ok (.aload_n 0, 1) := by decide +kernel
theorem dX3_count_72 : decode cX3_count 72 = .ok (.getfield 33, 3) := by decide +kernel
theorem dX3_count_75 : decode cX3_count 75 = .ok (.bipush 16, 2) := by decide +kernel
theorem dX3_count_77 : decode cX3_count 77 = .ok (.aload_n 1, 1) := by decide +kernel
theorem dX3_count_78 : decode cX3_count 78 = .ok (.getfield 59, 3) := by decide +kernel
theorem dX3_count_81 : decode cX3_count 81 = .ok (.iload_n 3, 1) := by decide +kernel
theorem dX3_count_82 : decode cX3_count 82 = .ok (.isub, 1) := by decide +kernel
theorem dX3_count_83 : decode cX3_count 83 = .ok (.invokestatic 94, 3) := by decide +kernel
theorem dX3_count_86 : decode cX3_count 86 = .ok (.invokevirtual 100, 3) := by decide +kernel
theorem dX3_count_89 : decode cX3_count 89 = .ok (.iinc 3 16, 3) := by decide +kernel
theorem dX3_count_92 : decode cX3_count 92 = .ok (.goto (-79), 3) := by decide +kernel
theorem dX3_count_95 : decode cX3_count 95 = .ok (.return_, 1) := by decide +kernel

theorem dX4_init_0 : decode cX4_init 0 = .ok (.aload_n 0, 1) := by decide +kernel
theorem dX4_init_1 : decode cX4_init 1 = .ok (.invokespecial 1, 3) := by decide +kernel
theorem dX4_init_4 : decode cX4_init 4 = .ok (.aload_n 0, 1) := by decide +kernel
theorem dX4_init_5 : decode cX4_init 5 = .ok (.aload_n 1, 1) := by decide +kernel
theorem dX4_init_6 : decode cX4_init 6 = .ok (.putfield 7, 3) := by decide +kernel
theorem dX4_init_9 : decode cX4_init 9 = .ok (.aload_n 0, 1) := by decide +kernel
theorem dX4_init_10 : decode cX4_init 10 = .ok (.aload_n 2, 1) := by decide +kernel
theorem dX4_init_11 : decode cX4_init 11 = .ok (.putfield 13, 3) := by decide +kernel
theorem dX4_init_14 : decode cX4_init 14 = .ok (.aload_n 0, 1) := by decide +kernel
theorem dX4_init_15 : decode cX4_init 15 = .ok (.aload_n 3, 1) := by decide +kernel
theorem dX4_init_16 : decode cX4_init 16 = .ok (.putfield 16, 3) := by decide +kernel
theorem dX4_init_19 : decode cX4_init 19 = .ok (.aload_n 0, 1) := by decide +kernel
theorem dX4_init_20 : decode cX4_init 20 = .ok (.aload 4, 2) := by decide +kernel
theorem dX4_init_22 : decode cX4_init 22 = .ok (.putfield 20, 3) := by decide +kernel
theorem dX4_init_25 : decode cX4_init 25 = .ok (.aload_n 0, 1) := by decide +kernel
theorem dX4_init_26 : decode cX4_init 26 = .ok (.aload 5, 2) := by decide +kernel
theorem dX4_init_28 : decode cX4_init 28 = .ok (.putfield 24, 3) := by decide +kernel
theorem dX4_init_31 : decode cX4_init 31 = .ok (.aload_n 0, 1) := by decide +kernel
theorem dX4_init_32 : decode cX4_init 32 = .ok (.aload 6, 2) := by decide +kernel
theorem dX4_init_34 : decode cX4_init 34 = .ok (.putfield 27, 3) := by decide +kernel
theorem dX4_init_37 : decode cX4_init 37 = .ok (.aload_n 0, 1) := by decide +kernel
theorem dX4_init_38 : decode cX4_init 38 = .ok (.new 30, 3) := by decide +kernel
theorem dX4_init_41 : decode cX4_init 41 = .ok (.dup, 1) := by decide +kernel
theorem dX4_init_42 : decode cX4_init 42 = .ok (.invokespecial 32, 3) := by decide +kernel
theorem dX4_init_45 : decode cX4_init 45 = .ok (.putfield 33, 3) := by decide +kernel
theorem dX4_init_48 : decode cX4_init 48 = .ok (.aload_n 0, 1) := by decide +kernel
theorem dX4_init_49 : decode cX4_init 49 = .ok (.new 30, 3) := by decide +kernel
theorem dX4_init_52 : decode cX4_init 52 = .ok (.dup, 1) := by decide +kernel
theorem dX4_init_53 : decode cX4_init 53 = .ok (.invokespecial 32, 3) := by decide +kernel
theorem dX4_init_56 : decode cX4_init 56 = .ok (.putfield 37, 3) := by decide +kernel
theorem dX4_init_59 : decode cX4_init 59 = .ok (.aload_n 0, 1) := by decide +kernel
theorem dX4_init_60 : decode cX4_init 60 = .ok (.new 30, 3) := by decide +kernel
theorem dX4_init_63 : decode cX4_init 63 = .ok (.dup, 1) := by decide +kernel
theorem dX4_init_64 : decode cX4_init 64 = .ok (.invokespecial 32, 3) := by decide +kernel
theorem dX4_init_67 : decode cX4_init 67 = .ok (.putfield 40, 3) := by decide +kernel
theorem dX4_init_70 : decode cX4_init 70 = .ok (.return_, 1) := by decide +kernel
theorem dX4_chainSum_0 : decode cX4_chainSum 0 = .ok (.aload_n 2, 1) := by decide +kernel
theorem dX4_chainSum_1 : decode cX4_chainSum 1 = .ok (.lconst 0, 1) := by decide +kernel
theorem dX4_chainSum_2 : decode cX4_chainSum 2 = .ok (.lconst 0, 1) := by decide +kernel
theorem dX4_chainSum_3 : decode cX4_chainSum 3 = .ok (.invokevirtual 43, 3) := by decide +kernel
theorem dX4_chainSum_6 : decode cX4_chainSum 6 = .ok (.iconst 0, 1) := by decide +kernel
theorem dX4_chainSum_7 : decode cX4_chainSum 7 = .ok (.istore_n 3, 1) := by decide +kernel
theorem dX4_chainSum_8 : decode cX4_chainSum 8 = .ok (.iload_n 3, 1) := by decide +kernel
theorem dX4_chainSum_9 : decode cX4_chainSum 9 = .ok (.aload_n 1, 1) := by decide +kernel
theorem dX4_chainSum_10 : decode cX4_chainSum 10 = .ok (.getfield 47, 3) := by decide +kernel
theorem dX4_chainSum_13 : decode cX4_chainSum 13 = .ok (.if_icmp .ge 23, 3) := by decide +kernel
theorem dX4_chainSum_16 : decode cX4_chainSum 16 = .ok (.aload_n 2, 1) := by decide +kernel
theorem dX4_chainSum_17 : decode cX4_chainSum 17 = .ok (.aload_n 1, 1) := by decide +kernel
theorem dX4_chainSum_18 : decode cX4_chainSum 18 = .ok (.iload_n 3, 1) := by decide +kernel
theorem dX4_chainSum_19 : decode cX4_chainSum 19 = .ok (.invokevirtual 53, 3) := by decide +kernel
theorem dX4_chainSum_22 : decode cX4_chainSum 22 = .ok (.aload_n 0, 1) := by decide +kernel
theorem dX4_chainSum_23 : decode cX4_chainSum 23 = .ok (.getfield 7, 3) := by decide +kernel
theorem dX4_chainSum_26 : decode cX4_chainSum 26 = .ok (.aload_n 2, 1) := by decide +kernel
theorem dX4_chainSum_27 : decode cX4_chainSum 27 = .ok (.invokevirtual 57, 3) := by decide +kernel
theorem dX4_chainSum_30 : decode cX4_chainSum 30 = .ok (.iinc 3 16, 3) := by decide +kernel
theorem dX4_chainSum_33 : decode cX4_chainSum 33 = .ok (.goto (-25), 3) := by decide +kernel
theorem dX4_chainSum_36 : decode cX4_chainSum 36 = .ok (.return_, 1) := by decide +kernel
theorem dX4_mac_0 : decode cX4_mac 0 = .ok (.aload_n 1, 1) := by decide +kernel
theorem dX4_mac_1 : decode cX4_mac 1 = .ok (.getfield 47, 3) := by decide +kernel
theorem dX4_mac_4 : decode cX4_mac 4 = .ok (.ifCond .ne 7, 3) := by decide +kernel
theorem dX4_mac_7 : decode cX4_mac 7 = .ok (.iconst 0, 1) := by decide +kernel
theorem dX4_mac_8 : decode cX4_mac 8 = .ok (.goto 12, 3) := by decide +kernel
theorem dX4_mac_11 : decode cX4_mac 11 = .ok (.aload_n 1, 1) := by decide +kernel
theorem dX4_mac_12 : decode cX4_mac 12 = .ok (.getfield 47, 3) := by decide +kernel
theorem dX4_mac_15 : decode cX4_mac 15 = .ok (.iconst 1, 1) := by decide +kernel
theorem dX4_mac_16 : decode cX4_mac 16 = .ok (.isub, 1) := by decide +kernel
theorem dX4_mac_17 : decode cX4_mac 17 = .ok (.bipush (-16), 2) := by decide +kernel
theorem dX4_mac_19 : decode cX4_mac 19 = .ok (.iand, 1) := by decide +kernel
theorem dX4_mac_20 : decode cX4_mac 20 = .ok (.istore_n 3, 1) := by decide +kernel
theorem dX4_mac_21 : decode cX4_mac 21 = .ok (.aload_n 2, 1) := by decide +kernel
theorem dX4_mac_22 : decode cX4_mac 22 = .ok (.lconst 0, 1) := by decide +kernel
theorem dX4_mac_23 : decode cX4_mac 23 = .ok (.lconst 0, 1) := by decide +kernel
theorem dX4_mac_24 : decode cX4_mac 24 = .ok (.invokevirtual 43, 3) := by decide +kernel
theorem dX4_mac_27 : decode cX4_mac 27 = .ok (.iconst 0, 1) := by decide +kernel
theorem dX4_mac_28 : decode cX4_mac 28 = .ok (.istore 4, 2) := by decide +kernel
theorem dX4_mac_30 : decode cX4_mac 30 = .ok (.iload 4, 2) := by decide +kernel
theorem dX4_mac_32 : decode cX4_mac 32 = .ok (.iload_n 3, 1) := by decide +kernel
theorem dX4_mac_33 : decode cX4_mac 33 = .ok (.if_icmp .ge 24, 3) := by decide +kernel
theorem dX4_mac_36 : decode cX4_mac 36 = .ok (.aload_n 2, 1) := by decide +kernel
theorem dX4_mac_37 : decode cX4_mac 37 = .ok (.aload_n 1, 1) := by decide +kernel
theorem dX4_mac_38 : decode cX4_mac 38 = .ok (.iload 4, 2) := by decide +kernel
theorem dX4_mac_40 : decode cX4_mac 40 = .ok (.invokevirtual 53, 3) := by decide +kernel
theorem dX4_mac_43 : decode cX4_mac 43 = .ok (.aload_n 0, 1) := by decide +kernel
theorem dX4_mac_44 : decode cX4_mac 44 = .ok (.getfield 7, 3) := by decide +kernel
theorem dX4_mac_47 : decode cX4_mac 47 = .ok (.aload_n 2, 1) := by decide +kernel
theorem dX4_mac_48 : decode cX4_mac 48 = .ok (.invokevirtual 57, 3) := by decide +kernel
theorem dX4_mac_51 : decode cX4_mac 51 = .ok (.iinc 4 16, 3) := by decide +kernel
theorem dX4_mac_54 : decode cX4_mac 54 = .ok (.goto (-24), 3) := by decide +kernel
theorem dX4_mac_57 : decode cX4_mac 57 = .ok (.aload_n 0, 1) := by decide +kernel
theorem dX4_mac_58 : decode cX4_mac 58 = .ok (.getfield 33, 3) := by decide +kernel
theorem dX4_mac_61 : decode cX4_mac 61 = .ok (.lconst 0, 1) := by decide +kernel
theorem dX4_mac_62 : decode cX4_mac 62 = .ok (.lconst 0, 1) := by decide +kernel
theorem dX4_mac_63 : decode cX4_mac 63 = .ok (.invokevirtual 43, 3) := by decide +kernel
theorem dX4_mac_66 : decode cX4_mac 66 = .ok (.aload_n 0, 1) := by decide +kernel
theorem dX4_mac_67 : decode cX4_mac 67 = .ok (.getfield 7, 3) := by decide +kernel
theorem dX4_mac_70 : decode cX4_mac 70 = .ok (.aload_n 0, 1) := by decide +kernel
theorem dX4_mac_71 : decode cX4_mac 71 = .ok (.getfield 33, 3) := by decide +kernel
theorem dX4_mac_74 : decode cX4_mac 74 = .ok (.invokevirtual 57, 3) := by decide +kernel
theorem dX4_mac_77 : decode cX4_mac 77 = .ok (.aload_n 0, 1) := by decide +kernel
theorem dX4_mac_78 : decode cX4_mac 78 = .ok (.getfield 33, 3) := by decide +kernel
theorem dX4_mac_81 : decode cX4_mac 81 = .ok (.invokevirtual 63, 3) := by decide +kernel
theorem dX4_mac_84 : decode cX4_mac 84 = .ok (.aload_n 2, 1) := by decide +kernel
theorem dX4_mac_85 : decode cX4_mac 85 = .ok (.aload_n 1, 1) := by decide +kernel
theorem dX4_mac_86 : decode cX4_mac 86 = .ok (.iload_n 3, 1) := by decide +kernel
theorem dX4_mac_87 : decode cX4_mac 87 = .ok (.invokevirtual 53, 3) := by decide +kernel
theorem dX4_mac_90 : decode cX4_mac 90 = .ok (.aload_n 1, 1) := by decide +kernel
theorem dX4_mac_91 : decode cX4_mac 91 = .ok (.getfield 47, 3) := by decide +kernel
theorem dX4_mac_94 : decode cX4_mac 94 = .ok (.iload_n 3, 1) := by decide +kernel
theorem dX4_mac_95 : decode cX4_mac 95 = .ok (.isub, 1) := by decide +kernel
theorem dX4_mac_96 : decode cX4_mac 96 = .ok (.bipush 16, 2) := by decide +kernel
theorem dX4_mac_98 : decode cX4_mac 98 = .ok (.if_icmp .ge 23, 3) := by decide +kernel
theorem dX4_mac_101 : decode cX4_mac 101 = .ok (.aload_n 2, 1) := by decide +kernel
theorem dX4_mac_102 : decode cX4_mac 102 = .ok (.aload_n 1, 1) := by decide +kernel
theorem dX4_mac_103 : decode cX4_mac 103 = .ok (.getfield 47, 3) := by decide +kernel
theorem dX4_mac_106 : decode cX4_mac 106 = .ok (.iload_n 3, 1) := by decide +kernel
theorem dX4_mac_107 : decode cX4_mac 107 = .ok (.isub, 1) := by decide +kernel
theorem dX4_mac_108 : decode cX4_mac 108 = .ok (.sipush 128, 3) := by decide +kernel
theorem dX4_mac_111 : decode cX4_mac 111 = .ok (.invokevirtual 66, 3) := by decide +kernel
theorem dX4_mac_114 : decode cX4_mac 114 = .ok (.aload_n 0, 1) := by decide +kernel
theorem dX4_mac_115 : decode cX4_mac 115 = .ok (.getfield 33, 3) := by decide +kernel
theorem dX4_mac_118 : decode cX4_mac 118 = .ok (.invokevirtual 63, 3) := by decide +kernel
theorem dX4_mac_121 : decode cX4_mac 121 = .ok (.aload_n 2, 1) := by decide +kernel
theorem dX4_mac_122 : decode cX4_mac 122 = .ok (.aload_n 0, 1) := by decide +kernel
theorem dX4_mac_123 : decode cX4_mac 123 = .ok (.getfield 33, 3) := by decide +kernel
theorem dX4_mac_126 : decode cX4_mac 126 = .ok (.invokevirtual 70, 3) := by decide +kernel
theorem dX4_mac_129 : decode cX4_mac 129 = .ok (.aload_n 0, 1) := by decide +kernel
theorem dX4_mac_130 : decode cX4_mac 130 = .ok (.getfield 7, 3) := by decide +kernel
theorem dX4_mac_133 : decode cX4_mac 133 = .ok (.aload_n 2, 1) := by decide +kernel
theorem dX4_mac_134 : decode cX4_mac 134 = .ok (.invokevirtual 57, 3) := by decide +kernel
theorem dX4_mac_137 : decode cX4_mac 137 = .ok (.return_, 1) := by decide +kernel
theorem dX4_runCounted_0 : decode cX4_runCounted 0 = .ok (.bipush 15, 2) := by decide +kernel
theorem dX4_runCounted_2 : decode cX4_runCounted 2 = .ok (.aload_n 0, 1) := by decide +kernel
theorem dX4_runCounted_3 : decode cX4_runCounted 3 = .ok (.getfield 20, 3) := by decide +kernel
theorem dX4_runCounted_6 : decode cX4_runCounted 6 = .ok (.getfield 47, 3) := by decide +kernel
theorem dX4_runCounted_9 : decode cX4_runCounted 9 = .ok (.isub, 1) := by decide +kernel
theorem dX4_runCounted_10 : decode cX4_runCounted 10 = .ok (.istore 6, 2) := by decide +kernel
theorem dX4_runCounted_12 : decode cX4_runCounted 12 = .ok (.aload_n 0, 1) := by decide +kernel
theorem dX4_runCounted_13 : decode cX4_runCounted 13 = .ok (.getfield 40, 3) := by decide +kernel
theorem dX4_runCounted_16 : decode cX4_runCounted 16 = .ok (.lconst 0, 1) := by decide +kernel
theorem dX4_runCounted_17 : decode cX4_runCounted 17 = .ok (.lconst 0, 1) := by decide +kernel
theorem dX4_runCounted_18 : decode cX4_runCounted 18 = .ok (.invokevirtual 43, 3) := by decide +kernel
theorem dX4_runCounted_21 : decode cX4_runCounted 21 = .ok (.aload_n 0, 1) := by decide +kernel
theorem dX4_runCounted_22 : decode cX4_runCounted 22 = .ok (.getfield 40, 3) := by decide +kernel
theorem dX4_runCounted_25 : decode cX4_runCounted 25 = .ok (.iconst 0, 1) := by decide +kernel
theorem dX4_runCounted_26 : decode cX4_runCounted 26 = .ok (.iload 6, 2) := by decide +kernel
theorem dX4_runCounted_28 : decode cX4_runCounted 28 = .ok (.iconst 1, 1) := by decide +kernel
theorem dX4_runCounted_29 : decode cX4_runCounted 29 = .ok (.isub, 1) := by decide +kernel
theorem dX4_runCounted_30 : decode cX4_runCounted 30 = .ok (.invokevirtual 66, 3) := by decide +kernel
theorem dX4_runCounted_33 : decode cX4_runCounted 33 = .ok (.iconst 0, 1) := by decide +kernel
theorem dX4_runCounted_34 : decode cX4_runCounted 34 = .ok (.istore 7, 2) := by decide +kernel
theorem dX4_runCounted_36 : decode cX4_runCounted 36 = .ok (.iload 7, 2) := by decide +kernel
theorem dX4_runCounted_38 : decode cX4_runCounted 38 = .ok (.aload_n 0, 1) := by decide +kernel
theorem dX4_runCounted_39 : decode cX4_runCounted 39 = .ok (.getfield 20, 3) := by decide +kernel
theorem dX4_runCounted_42 : decode cX4_runCounted 42 = .ok (.getfield 47, 3) := by decide +kernel
theorem dX4_runCounted_45 : decode cX4_runCounted 45 = .ok (.if_icmp .ge 29, 3) := by decide +kernel
theorem dX4_runCounted_48 : decode cX4_runCounted 48 = .ok (.aload_n 0, 1) := by decide +kernel
theorem dX4_runCounted_49 : decode cX4_runCounted 49 = .ok (.getfield 40, 3) := by decide +kernel
theorem dX4_runCounted_52 : decode cX4_runCounted 52 = .ok (.iconst 1, 1) := by decide +kernel
theorem dX4_runCounted_53 : decode cX4_runCounted 53 = .ok (.iload 7, 2) := by decide +kernel
theorem dX4_runCounted_55 : decode cX4_runCounted 55 = .ok (.iadd, 1) := by decide +kernel
theorem dX4_runCounted_56 : decode cX4_runCounted 56 = .ok (.aload_n 0, 1) := by decide +kernel
theorem dX4_runCounted_57 : decode cX4_runCounted 57 = .ok (.getfield 20, 3) := by decide +kernel
theorem dX4_runCounted_60 : decode cX4_runCounted 60 = .ok (.iload 7, 2) := by decide +kernel
theorem dX4_runCounted_62 : decode cX4_runCounted 62 = .ok (.invokevirtual 73, 3) := by decide +kernel
theorem dX4_runCounted_65 : decode cX4_runCounted 65 = .ok (.invokevirtual 66, 3) := by decide +kernel
theorem dX4_runCounted_68 : decode cX4_runCounted 68 = .ok (.iinc 7 1, 3) := by decide +kernel
theorem dX4_runCounted_71 : decode cX4_runCounted 71 = .ok (.goto (-35), 3) := by decide +kernel
theorem dX4_runCounted_74 : decode cX4_runCounted 74 = .ok (.aload_n 0, 1) := by decide +kernel
theorem dX4_runCounted_75 : decode cX4_runCounted 75 = .ok (.getfield 37, 3) := by decide +kernel
theorem dX4_runCounted_78 : decode cX4_runCounted 78 = .ok (.aload_n 0, 1) := by decide +kernel
theorem dX4_runCounted_79 : decode cX4_runCounted 79 = .ok (.getfield 40, 3) := by decide +kernel
theorem dX4_runCounted_82 : decode cX4_runCounted 82 = .ok (.invokevirtual 77, 3) := by decide +kernel
theorem dX4_runCounted_85 : decode cX4_runCounted 85 = .ok (.aload_n 0, 1) := by decide +kernel
theorem dX4_runCounted_86 : decode cX4_runCounted 86 = .ok (.getfield 7, 3) := by decide +kernel
theorem dX4_runCounted_89 : decode cX4_runCounted 89 = .ok (.aload_n 0, 1) := by decide +kernel
theorem dX4_runCounted_90 : decode cX4_runCounted 90 = .ok (.getfield 37, 3) := by decide +kernel
theorem dX4_runCounted_93 : decode cX4_runCounted 93 = .ok (.invokevirtual 57, 3) := by decide +kernel
theorem dX4_runCounted_96 : decode cX4_runCounted 96 = .ok (.aload_n 0, 1) := by decide +kernel
theorem dX4_runCounted_97 : decode cX4_runCounted 97 = .ok (.getfield 40, 3) := by decide +kernel
theorem dX4_runCounted_100 : decode cX4_runCounted 100 = .ok (.invokevirtual 80, 3) := by decide +kernel
theorem dX4_runCounted_103 : decode cX4_runCounted 103 = .ok (.aload_n 0, 1) := by decide +kernel
theorem dX4_runCounted_104 : decode cX4_runCounted 104 = .ok (.getfield 16, 3) := by decide +kernel
theorem dX4_runCounted_107 : decode cX4_runCounted 107 = .ok (.aload_n 0, 1) := by decide +kernel
theorem dX4_runCounted_108 : decode cX4_runCounted 108 = .ok (.getfield 7, 3) := by decide +kernel
theorem dX4_runCounted_111 : decode cX4_runCounted 111 = .ok (.aload_n 0, 1) := by decide +kernel
theorem dX4_runCounted_112 : decode cX4_runCounted 112 = .ok (.getfield 40, 3) := by decide +kernel
theorem dX4_runCounted_115 : decode cX4_runCounted 115 = .ok (.aload_n 1, 1) := by decide +kernel
theorem dX4_runCounted_116 : decode cX4_runCounted 116 = .ok (.aload 4, 2) := by decide +kernel
theorem dX4_runCounted_118 : decode cX4_runCounted 118 = .ok (.invokevirtual 83, 3) := by decide +kernel
theorem dX4_runCounted_121 : decode cX4_runCounted 121 = .ok (.aload_n 0, 1) := by decide +kernel
theorem dX4_runCounted_122 : decode cX4_runCounted 122 = .ok (.iload_n 2, 1) := by decide +kernel
theorem dX4_runCounted_123 : decode cX4_runCounted 123 = .ok (.ifCond .eq 8, 3) := by decide +kernel
theorem dX4_runCounted_126 : decode cX4_runCounted 126 = .ok (.aload 4, 2) := by decide +kernel
theorem dX4_runCounted_128 : decode cX4_runCounted 128 = .ok (.goto 4, 3) := by decide +kernel
theorem dX4_runCounted_131 : decode cX4_runCounted 131 = .ok (.aload_n 1, 1) := by decide +kernel
theorem dX4_runCounted_132 : decode cX4_runCounted 132 = .ok (.iload 6, 2) := by decide +kernel
theorem dX4_runCounted_134 : decode cX4_runCounted 134 = .ok (.iload_n 3, 1) := by decide +kernel
theorem dX4_runCounted_135 : decode cX4_runCounted 135 = .ok (.invokevirtual 89, 3) := by decide +kernel
theorem dX4_runCounted_138 : decode cX4_runCounted 138 = .ok (.aload_n 0, 1) := by decide +kernel
theorem dX4_runCounted_139 : decode cX4_runCounted 139 = .ok (.aload_n 0, 1) := by decide +kernel
theorem dX4_runCounted_140 : decode cX4_runCounted 140 = .ok (.getfield 27, 3) := by decide +kernel
theorem dX4_runCounted_143 : decode cX4_runCounted 143 = .ok (.aload 5, 2) := by decide +kernel
theorem dX4_runCounted_145 : decode cX4_runCounted 145 = .ok (.invokevirtual 93, 3) := by decide +kernel
theorem dX4_runCounted_148 : decode cX4_runCounted 148 = .ok (.aload 5, 2) := by decide +kernel
theorem dX4_runCounted_150 : decode cX4_runCounted 150 = .ok (.aload_n 0, 1) := by decide +kernel
theorem dX4_runCounted_151 : decode cX4_runCounted 151 = .ok (.getfield 37, 3) := by decide +kernel
theorem dX4_runCounted_154 : decode cX4_runCounted 154 = .ok (.invokevirtual 70, 3) := by decide +kernel
theorem dX4_runCounted_157 : decode cX4_runCounted 157 = .ok (.return_, 1) := by decide +kernel
theorem dX4_layCounted_0 : decode cX4_layCounted 0 = .ok (.aload_n 0, 1) := by decide +kernel
theorem dX4_layCounted_1 : decode cX4_layCounted 1 = .ok (.getfield 27, 3) := by decide +kernel
theorem dX4_layCounted_4 : decode cX4_layCounted 4 = .ok (.iconst 0, 1) := by decide +kernel
theorem dX4_layCounted_5 : decode cX4_layCounted 5 = .ok (.invokevirtual 97, 3) := by decide +kernel
theorem dX4_layCounted_8 : decode cX4_layCounted 8 = .ok (.aload_n 0, 1) := by decide +kernel
theorem dX4_layCounted_9 : decode cX4_layCounted 9 = .ok (.getfield 27, 3) := by decide +kernel
theorem dX4_layCounted_12 : decode cX4_layCounted 12 = .ok (.aload_n 0, 1) := by decide +kernel
theorem dX4_layCounted_13 : decode cX4_layCounted 13 = .ok (.getfield 24, 3) := by decide +kernel
theorem dX4_layCounted_16 : decode cX4_layCounted 16 = .ok (.getfield 47, 3) := by decide +kernel
theorem dX4_layCounted_19 : decode cX4_layCounted 19 = .ok (.ifCond .le 8, 3) := by decide +kernel
theorem dX4_layCounted_22 : decode cX4_layCounted 22 = .ok (.bipush 64, 2) := by decide +kernel
theorem dX4_layCounted_24 : decode cX4_layCounted 24 = .ok (.goto 4, 3) := by decide +kernel
theorem dX4_layCounted_27 : decode cX4_layCounted 27 = .ok (.iconst 0, 1) := by decide +kernel
theorem dX4_layCounted_28 : decode cX4_layCounted 28 = .ok (.bipush 8, 2) := by decide +kernel
theorem dX4_layCounted_30 : decode cX4_layCounted 30 = .ok (.iload_n 3, 1) := by decide +kernel
theorem dX4_layCounted_31 : decode cX4_layCounted 31 = .ok (.iconst 2, 1) := by decide +kernel
theorem dX4_layCounted_32 : decode cX4_layCounted 32 = .ok (.isub, 1) := by decide +kernel
theorem dX4_layCounted_33 : decode cX4_layCounted 33 = .ok (.iconst 2, 1) := by decide +kernel
theorem dX4_layCounted_34 : decode cX4_layCounted 34 = .ok (.idiv, 1) := by decide +kernel
theorem dX4_layCounted_35 : decode cX4_layCounted 35 = .ok (.imul, 1) := by decide +kernel
theorem dX4_layCounted_36 : decode cX4_layCounted 36 = .ok (.iadd, 1) := by decide +kernel
theorem dX4_layCounted_37 : decode cX4_layCounted 37 = .ok (.iload_n 2, 1) := by decide +kernel
theorem dX4_layCounted_38 : decode cX4_layCounted 38 = .ok (.iadd, 1) := by decide +kernel
theorem dX4_layCounted_39 : decode cX4_layCounted 39 = .ok (.iconst 1, 1) := by decide +kernel
theorem dX4_layCounted_40 : decode cX4_layCounted 40 = .ok (.isub, 1) := by decide +kernel
theorem dX4_layCounted_41 : decode cX4_layCounted 41 = .ok (.invokevirtual 101, 3) := by decide +kernel
theorem dX4_layCounted_44 : decode cX4_layCounted 44 = .ok (.aload_n 0, 1) := by decide +kernel
theorem dX4_layCounted_45 : decode cX4_layCounted 45 = .ok (.getfield 27, 3) := by decide +kernel
theorem dX4_layCounted_48 : decode cX4_layCounted 48 = .ok (.aload_n 0, 1) := by decide +kernel
theorem dX4_layCounted_49 : decode cX4_layCounted 49 = .ok (.getfield 20, 3) := by decide +kernel
theorem dX4_layCounted_52 : decode cX4_layCounted 52 = .ok (.invokevirtual 104, 3) := by decide +kernel
theorem dX4_layCounted_55 : decode cX4_layCounted 55 = .ok (.iload_n 2, 1) := by decide +kernel
theorem dX4_layCounted_56 : decode cX4_layCounted 56 = .ok (.iconst 1, 1) := by decide +kernel
theorem dX4_layCounted_57 : decode cX4_layCounted 57 = .ok (.isub, 1) := by decide +kernel
theorem dX4_layCounted_58 : decode cX4_layCounted 58 = .ok (.istore 4, 2) := by decide +kernel
theorem dX4_layCounted_60 : decode cX4_layCounted 60 = .ok (.iload 4, 2) := by decide +kernel
theorem dX4_layCounted_62 : decode cX4_layCounted 62 = .ok (.ifCond .lt 28, 3) := by decide +kernel
theorem dX4_layCounted_65 : decode cX4_layCounted 65 = .ok (.aload_n 0, 1) := by decide +kernel
theorem dX4_layCounted_66 : decode cX4_layCounted 66 = .ok (.getfield 27, 3) := by decide +kernel
theorem dX4_layCounted_69 : decode cX4_layCounted 69 = .ok (.aload_n 1, 1) := by decide +kernel
theorem dX4_layCounted_70 : decode cX4_layCounted 70 = .ok (.getfield 47, 3) := by decide +kernel
theorem dX4_layCounted_73 : decode cX4_layCounted 73 = .ok (.i2l, 1) := by decide +kernel
theorem dX4_layCounted_74 : decode cX4_layCounted 74 = .ok (.bipush 8, 2) := by decide +kernel
theorem dX4_layCounted_76 : decode cX4_layCounted 76 = .ok (.iload 4, 2) := by decide +kernel
theorem dX4_layCounted_78 : decode cX4_layCounted 78 = .ok (.imul, 1) := by decide +kernel
theorem dX4_layCounted_79 : decode cX4_layCounted 79 = .ok (.lushr, 1) := by decide +kernel
theorem dX4_layCounted_80 : decode cX4_layCounted 80 = .ok (.l2i, 1) := by decide +kernel
theorem dX4_layCounted_81 : decode cX4_layCounted 81 = .ok (.invokevirtual 101, 3) := by decide +kernel
theorem dX4_layCounted_84 : decode cX4_layCounted 84 = .ok (.iinc 4 (-1), 3) := by decide +kernel
theorem dX4_layCounted_87 : decode cX4_layCounted 87 = .ok (.goto (-27), 3) := by decide +kernel
theorem dX4_layCounted_90 : decode cX4_layCounted 90 = .ok (.aload_n 0, 1) := by decide +kernel
theorem dX4_layCounted_91 : decode cX4_layCounted 91 = .ok (.getfield 24, 3) := by decide +kernel
theorem dX4_layCounted_94 : decode cX4_layCounted 94 = .ok (.getfield 47, 3) := by decide +kernel
theorem dX4_layCounted_97 : decode cX4_layCounted 97 = .ok (.ifCond .le 54, 3) := by decide +kernel
theorem dX4_layCounted_100 : decode cX4_layCounted 100 = .ok (.aload_n 0, 1) := by decide +kernel
theorem dX4_layCounted_101 : decode cX4_layCounted 101 = .ok (.getfield 27, 3) := by decide +kernel
theorem dX4_layCounted_104 : decode cX4_layCounted 104 = .ok (.aload_n 0, 1) := by decide +kernel
theorem dX4_layCounted_105 : decode cX4_layCounted 105 = .ok (.getfield 24, 3) := by decide +kernel
theorem dX4_layCounted_108 : decode cX4_layCounted 108 = .ok (.getfield 47, 3) := by decide +kernel
theorem dX4_layCounted_111 : decode cX4_layCounted 111 = .ok (.bipush 8, 2) := by decide +kernel
theorem dX4_layCounted_113 : decode cX4_layCounted 113 = .ok (.ishr, 1) := by decide +kernel
theorem dX4_layCounted_114 : decode cX4_layCounted 114 = .ok (.invokevirtual 101, 3) := by decide +kernel
theorem dX4_layCounted_117 : decode cX4_layCounted 117 = .ok (.aload_n 0, 1) := by decide +kernel
theorem dX4_layCounted_118 : decode cX4_layCounted 118 = .ok (.getfield 27, 3) := by decide +kernel
theorem dX4_layCounted_121 : decode cX4_layCounted 121 = .ok (.aload_n 0, 1) := by decide +kernel
theorem dX4_layCounted_122 : decode cX4_layCounted 122 = .ok (.getfield 24, 3) := by decide +kernel
theorem dX4_layCounted_125 : decode cX4_layCounted 125 = .ok (.getfield 47, 3) := by decide +kernel
theorem dX4_layCounted_128 : decode cX4_layCounted 128 = .ok (.invokevirtual 101, 3) := by decide +kernel
theorem dX4_layCounted_131 : decode cX4_layCounted 131 = .ok (.aload_n 0, 1) := by decide +kernel
theorem dX4_layCounted_132 : decode cX4_layCounted 132 = .ok (.getfield 27, 3) := by decide +kernel
theorem dX4_layCounted_135 : decode cX4_layCounted 135 = .ok (.aload_n 0, 1) := by decide +kernel
theorem dX4_layCounted_136 : decode cX4_layCounted 136 = .ok (.getfield 24, 3) := by decide +kernel
theorem dX4_layCounted_139 : decode cX4_layCounted 139 = .ok (.invokevirtual 104, 3) := by decide +kernel
theorem dX4_layCounted_142 : decode cX4_layCounted 142 = .ok (.aload_n 0, 1) := by decide +kernel
theorem dX4_layCounted_143 : decode cX4_layCounted 143 = .ok (.getfield 27, 3) := by decide +kernel
theorem dX4_layCounted_146 : decode cX4_layCounted 146 = .ok (.bipush 16, 2) := by decide +kernel
theorem dX4_layCounted_148 : decode cX4_layCounted 148 = .ok (.invokevirtual 108, 3) := by decide +kernel
theorem dX4_layCounted_151 : decode cX4_layCounted 151 = .ok (.aload_n 0, 1) := by decide +kernel
theorem dX4_layCounted_152 : decode cX4_layCounted 152 = .ok (.getfield 27, 3) := by decide +kernel
theorem dX4_layCounted_155 : decode cX4_layCounted 155 = .ok (.aload_n 1, 1) := by decide +kernel
theorem dX4_layCounted_156 : decode cX4_layCounted 156 = .ok (.invokevirtual 104, 3) := by decide +kernel
theorem dX4_layCounted_159 : decode cX4_layCounted 159 = .ok (.aload_n 0, 1) := by decide +kernel
theorem dX4_layCounted_160 : decode cX4_layCounted 160 = .ok (.getfield 27, 3) := by decide +kernel
theorem dX4_layCounted_163 : decode cX4_layCounted 163 = .ok (.bipush 16, 2) := by decide +kernel
theorem dX4_layCounted_165 : decode cX4_layCounted 165 = .ok (.invokevirtual 108, 3) := by decide +kernel
theorem dX4_layCounted_168 : decode cX4_layCounted 168 = .ok (.return_, 1) := by decide +kernel
theorem dX4_runTwice_0 : decode cX4_runTwice 0 = .ok (.aload_n 0, 1) := by decide +kernel
theorem dX4_runTwice_1 : decode cX4_runTwice 1 = .ok (.iconst 0, 1) := by decide +kernel
theorem dX4_runTwice_2 : decode cX4_runTwice 2 = .ok (.aload_n 0, 1) := by decide +kernel
theorem dX4_runTwice_3 : decode cX4_runTwice 3 = .ok (.getfield 20, 3) := by decide +kernel
theorem dX4_runTwice_6 : decode cX4_runTwice 6 = .ok (.invokevirtual 111, 3) := by decide +kernel
theorem dX4_runTwice_9 : decode cX4_runTwice 9 = .ok (.aload_n 0, 1) := by decide +kernel
theorem dX4_runTwice_10 : decode cX4_runTwice 10 = .ok (.aload_n 0, 1) := by decide +kernel
theorem dX4_runTwice_11 : decode cX4_runTwice 11 = .ok (.getfield 27, 3) := by decide +kernel
theorem dX4_runTwice_14 : decode cX4_runTwice 14 = .ok (.aload_n 0, 1) := by decide +kernel
theorem dX4_runTwice_15 : decode cX4_runTwice 15 = .ok (.getfield 40, 3) := by decide +kernel
theorem dX4_runTwice_18 : decode cX4_runTwice 18 = .ok (.invokevirtual 115, 3) := by decide +kernel
theorem dX4_runTwice_21 : decode cX4_runTwice 21 = .ok (.aload_n 0, 1) := by decide +kernel
theorem dX4_runTwice_22 : decode cX4_runTwice 22 = .ok (.getfield 16, 3) := by decide +kernel
theorem dX4_runTwice_25 : decode cX4_runTwice 25 = .ok (.aload_n 0, 1) := by decide +kernel
theorem dX4_runTwice_26 : decode cX4_runTwice 26 = .ok (.getfield 7, 3) := by decide +kernel
theorem dX4_runTwice_29 : decode cX4_runTwice 29 = .ok (.aload_n 0, 1) := by decide +kernel
theorem dX4_runTwice_30 : decode cX4_runTwice 30 = .ok (.getfield 40, 3) := by decide +kernel
theorem dX4_runTwice_33 : decode cX4_runTwice 33 = .ok (.aload_n 1, 1) := by decide +kernel
theorem dX4_runTwice_34 : decode cX4_runTwice 34 = .ok (.aload_n 3, 1) := by decide +kernel
theorem dX4_runTwice_35 : decode cX4_runTwice 35 = .ok (.invokevirtual 83, 3) := by decide +kernel
theorem dX4_runTwice_38 : decode cX4_runTwice 38 = .ok (.aload 4, 2) := by decide +kernel
theorem dX4_runTwice_40 : decode cX4_runTwice 40 = .ok (.aload_n 0, 1) := by decide +kernel
theorem dX4_runTwice_41 : decode cX4_runTwice 41 = .ok (.getfield 40, 3) := by decide +kernel
theorem dX4_runTwice_44 : decode cX4_runTwice 44 = .ok (.invokevirtual 77, 3) := by decide +kernel
theorem dX4_runTwice_47 : decode cX4_runTwice 47 = .ok (.aload_n 0, 1) := by decide +kernel
theorem dX4_runTwice_48 : decode cX4_runTwice 48 = .ok (.iconst 1, 1) := by decide +kernel
theorem dX4_runTwice_49 : decode cX4_runTwice 49 = .ok (.aload_n 0, 1) := by decide +kernel
theorem dX4_runTwice_50 : decode cX4_runTwice 50 = .ok (.getfield 24, 3) := by decide +kernel
theorem dX4_runTwice_53 : decode cX4_runTwice 53 = .ok (.invokevirtual 111, 3) := by decide +kernel
theorem dX4_runTwice_56 : decode cX4_runTwice 56 = .ok (.aload_n 0, 1) := by decide +kernel
theorem dX4_runTwice_57 : decode cX4_runTwice 57 = .ok (.aload_n 0, 1) := by decide +kernel
theorem dX4_runTwice_58 : decode cX4_runTwice 58 = .ok (.getfield 27, 3) := by decide +kernel
theorem dX4_runTwice_61 : decode cX4_runTwice 61 = .ok (.aload_n 0, 1) := by decide +kernel
theorem dX4_runTwice_62 : decode cX4_runTwice 62 = .ok (.getfield 37, 3) := by decide +kernel
theorem dX4_runTwice_65 : decode cX4_runTwice 65 = .ok (.invokevirtual 115, 3) := by decide +kernel
theorem dX4_runTwice_68 : decode cX4_runTwice 68 = .ok (.aload 4, 2) := by decide +kernel
theorem dX4_runTwice_70 : decode cX4_runTwice 70 = .ok (.aload_n 0, 1) := by decide +kernel
theorem dX4_runTwice_71 : decode cX4_runTwice 71 = .ok (.getfield 37, 3) := by decide +kernel
theorem dX4_runTwice_74 : decode cX4_runTwice 74 = .ok (.invokevirtual 70, 3) := by decide +kernel
theorem dX4_runTwice_77 : decode cX4_runTwice 77 = .ok (.aload_n 0, 1) := by decide +kernel
theorem dX4_runTwice_78 : decode cX4_runTwice 78 = .ok (.iconst 2, 1) := by decide +kernel
theorem dX4_runTwice_79 : decode cX4_runTwice 79 = .ok (.iload_n 2, 1) := by decide +kernel
theorem dX4_runTwice_80 : decode cX4_runTwice 80 = .ok (.ifCond .eq 7, 3) := by decide +kernel
theorem dX4_runTwice_83 : decode cX4_runTwice 83 = .ok (.aload_n 1, 1) := by decide +kernel
theorem dX4_runTwice_84 : decode cX4_runTwice 84 = .ok (.goto 4, 3) := by decide +kernel
theorem dX4_runTwice_87 : decode cX4_runTwice 87 = .ok (.aload_n 3, 1) := by decide +kernel
theorem dX4_runTwice_88 : decode cX4_runTwice 88 = .ok (.invokevirtual 111, 3) := by decide +kernel
theorem dX4_runTwice_91 : decode cX4_runTwice 91 = .ok (.aload_n 0, 1) := by decide +kernel
theorem dX4_runTwice_92 : decode cX4_runTwice 92 = .ok (.aload_n 0, 1) := by decide +kernel
theorem dX4_runTwice_93 : decode cX4_runTwice 93 = .ok (.getfield 27, 3) := by decide +kernel
theorem dX4_runTwice_96 : decode cX4_runTwice 96 = .ok (.aload_n 0, 1) := by decide +kernel
theorem dX4_runTwice_97 : decode cX4_runTwice 97 = .ok (.getfield 37, 3) := by decide +kernel
theorem dX4_runTwice_100 : decode cX4_runTwice 100 = .ok (.invokevirtual 115, 3) := by decide +kernel
theorem dX4_runTwice_103 : decode cX4_runTwice 103 = .ok (.aload 4, 2) := by decide +kernel
theorem dX4_runTwice_105 : decode cX4_runTwice 105 = .ok (.aload_n 0, 1) := by decide +kernel
theorem dX4_runTwice_106 : decode cX4_runTwice 106 = .ok (.getfield 37, 3) := by decide +kernel
theorem dX4_runTwice_109 : decode cX4_runTwice 109 = .ok (.invokevirtual 70, 3) := by decide +kernel
theorem dX4_runTwice_112 : decode cX4_runTwice 112 = .ok (.return_, 1) := by decide +kernel
theorem dX4_layNumbered_0 : decode cX4_layNumbered 0 = .ok (.aload_n 0, 1) := by decide +kernel
theorem dX4_layNumbered_1 : decode cX4_layNumbered 1 = .ok (.getfield 27, 3) := by decide +kernel
theorem dX4_layNumbered_4 : decode cX4_layNumbered 4 = .ok (.iconst 0, 1) := by decide +kernel
theorem dX4_layNumbered_5 : decode cX4_layNumbered 5 = .ok (.invokevirtual 97, 3) := by decide +kernel
theorem dX4_layNumbered_8 : decode cX4_layNumbered 8 = .ok (.iconst 0, 1) := by decide +kernel
theorem dX4_layNumbered_9 : decode cX4_layNumbered 9 = .ok (.istore_n 3, 1) := by decide +kernel
theorem dX4_layNumbered_10 : decode cX4_layNumbered 10 = .ok (.iload_n 3, 1) := by decide +kernel
theorem dX4_layNumbered_11 : decode cX4_layNumbered 11 = .ok (.bipush 15, 2) := by decide +kernel
theorem dX4_layNumbered_13 : decode cX4_layNumbered 13 = .ok (.if_icmp .ge 17, 3) := by decide +kernel
theorem dX4_layNumbered_16 : decode cX4_layNumbered 16 = .ok (.aload_n 0, 1) := by decide +kernel
theorem dX4_layNumbered_17 : decode cX4_layNumbered 17 = .ok (.getfield 27, 3) := by decide +kernel
theorem dX4_layNumbered_20 : decode cX4_layNumbered 20 = .ok (.iconst 0, 1) := by decide +kernel
theorem dX4_layNumbered_21 : decode cX4_layNumbered 21 = .ok (.invokevirtual 101, 3) := by decide +kernel
theorem dX4_layNumbered_24 : decode cX4_layNumbered 24 = .ok (.iinc 3 1, 3) := by decide +kernel
theorem dX4_layNumbered_27 : decode cX4_layNumbered 27 = .ok (.goto (-17), 3) := by decide +kernel
theorem dX4_layNumbered_30 : decode cX4_layNumbered 30 = .ok (.aload_n 0, 1) := by decide +kernel
theorem dX4_layNumbered_31 : decode cX4_layNumbered 31 = .ok (.getfield 27, 3) := by decide +kernel
theorem dX4_layNumbered_34 : decode cX4_layNumbered 34 = .ok (.iload_n 1, 1) := by decide +kernel
theorem dX4_layNumbered_35 : decode cX4_layNumbered 35 = .ok (.invokevirtual 101, 3) := by decide +kernel
theorem dX4_layNumbered_38 : decode cX4_layNumbered 38 = .ok (.aload_n 0, 1) := by decide +kernel
theorem dX4_layNumbered_39 : decode cX4_layNumbered 39 = .ok (.getfield 27, 3) := by decide +kernel
theorem dX4_layNumbered_42 : decode cX4_layNumbered 42 = .ok (.aload_n 2, 1) := by decide +kernel
theorem dX4_layNumbered_43 : decode cX4_layNumbered 43 = .ok (.invokevirtual 104, 3) := by decide +kernel
theorem dX4_layNumbered_46 : decode cX4_layNumbered 46 = .ok (.return_, 1) := by decide +kernel
theorem dX4_lockMade_0 : decode cX4_lockMade 0 = .ok (.aload_n 0, 1) := by decide +kernel
theorem dX4_lockMade_1 : decode cX4_lockMade 1 = .ok (.aload_n 1, 1) := by decide +kernel
theorem dX4_lockMade_2 : decode cX4_lockMade 2 = .ok (.invokevirtual 118, 3) := by decide +kernel
theorem dX4_lockMade_5 : decode cX4_lockMade 5 = .ok (.aload_n 2, 1) := by decide +kernel
theorem dX4_lockMade_6 : decode cX4_lockMade 6 = .ok (.aload_n 0, 1) := by decide +kernel
theorem dX4_lockMade_7 : decode cX4_lockMade 7 = .ok (.getfield 40, 3) := by decide +kernel
theorem dX4_lockMade_10 : decode cX4_lockMade 10 = .ok (.bipush 16, 2) := by decide +kernel
theorem dX4_lockMade_12 : decode cX4_lockMade 12 = .ok (.invokevirtual 121, 3) := by decide +kernel
theorem dX4_lockMade_15 : decode cX4_lockMade 15 = .ok (.aload_n 0, 1) := by decide +kernel
theorem dX4_lockMade_16 : decode cX4_lockMade 16 = .ok (.aload_n 0, 1) := by decide +kernel
theorem dX4_lockMade_17 : decode cX4_lockMade 17 = .ok (.getfield 40, 3) := by decide +kernel
theorem dX4_lockMade_20 : decode cX4_lockMade 20 = .ok (.aload_n 1, 1) := by decide +kernel
theorem dX4_lockMade_21 : decode cX4_lockMade 21 = .ok (.aload_n 2, 1) := by decide +kernel
theorem dX4_lockMade_22 : decode cX4_lockMade 22 = .ok (.invokevirtual 125, 3) := by decide +kernel
theorem dX4_lockMade_25 : decode cX4_lockMade 25 = .ok (.return_, 1) := by decide +kernel
theorem dX4_unlockMade_0 : decode cX4_unlockMade 0 = .ok (.aload_n 0, 1) := by decide +kernel
theorem dX4_unlockMade_1 : decode cX4_unlockMade 1 = .ok (.aload_n 1, 1) := by decide +kernel
theorem dX4_unlockMade_2 : decode cX4_unlockMade 2 = .ok (.aload_n 2, 1) := by decide +kernel
theorem dX4_unlockMade_3 : decode cX4_unlockMade 3 = .ok (.aload_n 3, 1) := by decide +kernel
theorem dX4_unlockMade_4 : decode cX4_unlockMade 4 = .ok (.invokevirtual 125, 3) := by decide +kernel
theorem dX4_unlockMade_7 : decode cX4_unlockMade 7 = .ok (.aload_n 0, 1) := by decide +kernel
theorem dX4_unlockMade_8 : decode cX4_unlockMade 8 = .ok (.aload_n 3, 1) := by decide +kernel
theorem dX4_unlockMade_9 : decode cX4_unlockMade 9 = .ok (.invokevirtual 118, 3) := by decide +kernel
theorem dX4_unlockMade_12 : decode cX4_unlockMade 12 = .ok (.aload_n 0, 1) := by decide +kernel
theorem dX4_unlockMade_13 : decode cX4_unlockMade 13 = .ok (.getfield 40, 3) := by decide +kernel
theorem dX4_unlockMade_16 : decode cX4_unlockMade 16 = .ok (.aload_n 1, 1) := by decide +kernel
theorem dX4_unlockMade_17 : decode cX4_unlockMade 17 = .ok (.invokevirtual 129, 3) := by decide +kernel
theorem dX4_unlockMade_20 : decode cX4_unlockMade 20 = .ok (.ireturn, 1) := by decide +kernel
theorem dX4_countFrom_0 : decode cX4_countFrom 0 = .ok (.aload_n 0, 1) := by decide +kernel
theorem dX4_countFrom_1 : decode cX4_countFrom 1 = .ok (.getfield 37, 3) := by decide +kernel
theorem dX4_countFrom_4 : decode cX4_countFrom 4 = .ok (.aload_n 1, 1) := by decide +kernel
theorem dX4_countFrom_5 : decode cX4_countFrom 5 = .ok (.getfield 133, 3) := by decide +kernel
theorem dX4_countFrom_8 : decode cX4_countFrom 8 = .ok (.aload_n 1, 1) := by decide +kernel
theorem dX4_countFrom_9 : decode cX4_countFrom 9 = .ok (.getfield 137, 3) := by decide +kernel
theorem dX4_countFrom_12 : decode cX4_countFrom 12 = .ok (.ldc2_w 140, 3) := by decide +kernel
theorem dX4_countFrom_15 : decode cX4_countFrom 15 = .ok (.land, 1) := by decide +kernel
theorem dX4_countFrom_16 : decode cX4_countFrom 16 = .ok (.invokevirtual 43, 3) := by decide +kernel
theorem dX4_countFrom_19 : decode cX4_countFrom 19 = .ok (.aload_n 0, 1) := by decide +kernel
theorem dX4_countFrom_20 : decode cX4_countFrom 20 = .ok (.getfield 16, 3) := by decide +kernel
theorem dX4_countFrom_23 : decode cX4_countFrom 23 = .ok (.aload_n 0, 1) := by decide +kernel
theorem dX4_countFrom_24 : decode cX4_countFrom 24 = .ok (.getfield 13, 3) := by decide +kernel
theorem dX4_countFrom_27 : decode cX4_countFrom 27 = .ok (.aload_n 0, 1) := by decide +kernel
theorem dX4_countFrom_28 : decode cX4_countFrom 28 = .ok (.getfield 37, 3) := by decide +kernel
theorem dX4_countFrom_31 : decode cX4_countFrom 31 = .ok (.aload_n 2, 1) := by decide +kernel
theorem dX4_countFrom_32 : decode cX4_countFrom 32 = .ok (.aload_n 3, 1) := by decide +kernel
theorem dX4_countFrom_33 : decode cX4_countFrom 33 = .ok (.invokevirtual 83, 3) := by decide +kernel
theorem dX4_countFrom_36 : decode cX4_countFrom 36 = .ok (.return_, 1) := by decide +kernel
theorem dX4_makeV_0 : decode cX4_makeV 0 = .ok (.aload_n 0, 1) := by decide +kernel
theorem dX4_makeV_1 : decode cX4_makeV 1 = .ok (.getfield 27, 3) := by decide +kernel
theorem dX4_makeV_4 : decode cX4_makeV 4 = .ok (.iconst 0, 1) := by decide +kernel
theorem dX4_makeV_5 : decode cX4_makeV 5 = .ok (.invokevirtual 97, 3) := by decide +kernel
theorem dX4_makeV_8 : decode cX4_makeV 8 = .ok (.aload_n 0, 1) := by decide +kernel
theorem dX4_makeV_9 : decode cX4_makeV 9 = .ok (.getfield 27, 3) := by decide +kernel
theorem dX4_makeV_12 : decode cX4_makeV 12 = .ok (.iconst 0, 1) := by decide +kernel
theorem dX4_makeV_13 : decode cX4_makeV 13 = .ok (.invokevirtual 101, 3) := by decide +kernel
theorem dX4_makeV_16 : decode cX4_makeV 16 = .ok (.aload_n 0, 1) := by decide +kernel
theorem dX4_makeV_17 : decode cX4_makeV 17 = .ok (.getfield 27, 3) := by decide +kernel
theorem dX4_makeV_20 : decode cX4_makeV 20 = .ok (.bipush 16, 2) := by decide +kernel
theorem dX4_makeV_22 : decode cX4_makeV 22 = .ok (.invokevirtual 108, 3) := by decide +kernel
theorem dX4_makeV_25 : decode cX4_makeV 25 = .ok (.aload_n 0, 1) := by decide +kernel
theorem dX4_makeV_26 : decode cX4_makeV 26 = .ok (.aload_n 0, 1) := by decide +kernel
theorem dX4_makeV_27 : decode cX4_makeV 27 = .ok (.getfield 27, 3) := by decide +kernel
theorem dX4_makeV_30 : decode cX4_makeV 30 = .ok (.aload_n 0, 1) := by decide +kernel
theorem dX4_makeV_31 : decode cX4_makeV 31 = .ok (.getfield 37, 3) := by decide +kernel
theorem dX4_makeV_34 : decode cX4_makeV 34 = .ok (.invokevirtual 115, 3) := by decide +kernel
theorem dX4_makeV_37 : decode cX4_makeV 37 = .ok (.aload_n 0, 1) := by decide +kernel
theorem dX4_makeV_38 : decode cX4_makeV 38 = .ok (.getfield 24, 3) := by decide +kernel
theorem dX4_makeV_41 : decode cX4_makeV 41 = .ok (.getfield 47, 3) := by decide +kernel
theorem dX4_makeV_44 : decode cX4_makeV 44 = .ok (.ifCond .le 33, 3) := by decide +kernel
theorem dX4_makeV_47 : decode cX4_makeV 47 = .ok (.aload_n 0, 1) := by decide +kernel
theorem dX4_makeV_48 : decode cX4_makeV 48 = .ok (.aload_n 0, 1) := by decide +kernel
theorem dX4_makeV_49 : decode cX4_makeV 49 = .ok (.getfield 24, 3) := by decide +kernel
theorem dX4_makeV_52 : decode cX4_makeV 52 = .ok (.aload_n 0, 1) := by decide +kernel
theorem dX4_makeV_53 : decode cX4_makeV 53 = .ok (.getfield 40, 3) := by decide +kernel
theorem dX4_makeV_56 : decode cX4_makeV 56 = .ok (.invokevirtual 115, 3) := by decide +kernel
theorem dX4_makeV_59 : decode cX4_makeV 59 = .ok (.aload_n 0, 1) := by decide +kernel
theorem dX4_makeV_60 : decode cX4_makeV 60 = .ok (.getfield 37, 3) := by decide +kernel
theorem dX4_makeV_63 : decode cX4_makeV 63 = .ok (.invokevirtual 63, 3) := by decide +kernel
theorem dX4_makeV_66 : decode cX4_makeV 66 = .ok (.aload_n 0, 1) := by decide +kernel
theorem dX4_makeV_67 : decode cX4_makeV 67 = .ok (.getfield 37, 3) := by decide +kernel
theorem dX4_makeV_70 : decode cX4_makeV 70 = .ok (.aload_n 0, 1) := by decide +kernel
theorem dX4_makeV_71 : decode cX4_makeV 71 = .ok (.getfield 40, 3) := by decide +kernel
theorem dX4_makeV_74 : decode cX4_makeV 74 = .ok (.invokevirtual 70, 3) := by decide +kernel
theorem dX4_makeV_77 : decode cX4_makeV 77 = .ok (.aload_n 0, 1) := by decide +kernel
theorem dX4_makeV_78 : decode cX4_makeV 78 = .ok (.getfield 20, 3) := by decide +kernel
theorem dX4_makeV_81 : decode cX4_makeV 81 = .ok (.getfield 47, 3) := by decide +kernel
theorem dX4_makeV_84 : decode cX4_makeV 84 = .ok (.ifCond .le 33, 3) := by decide +kernel
theorem dX4_makeV_87 : decode cX4_makeV 87 = .ok (.aload_n 0, 1) := by decide +kernel
theorem dX4_makeV_88 : decode cX4_makeV 88 = .ok (.aload_n 0, 1) := by decide +kernel
theorem dX4_makeV_89 : decode cX4_makeV 89 = .ok (.getfield 20, 3) := by decide +kernel
theorem dX4_makeV_92 : decode cX4_makeV 92 = .ok (.aload_n 0, 1) := by decide +kernel
theorem dX4_makeV_93 : decode cX4_makeV 93 = .ok (.getfield 40, 3) := by decide +kernel
theorem dX4_makeV_96 : decode cX4_makeV 96 = .ok (.invokevirtual 115, 3) := by decide +kernel
theorem dX4_makeV_99 : decode cX4_makeV 99 = .ok (.aload_n 0, 1) := by decide +kernel
theorem dX4_makeV_100 : decode cX4_makeV 100 = .ok (.getfield 37, 3) := by decide +kernel
theorem dX4_makeV_103 : decode cX4_makeV 103 = .ok (.invokevirtual 63, 3) := by decide +kernel
theorem dX4_makeV_106 : decode cX4_makeV 106 = .ok (.aload_n 0, 1) := by decide +kernel
theorem dX4_makeV_107 : decode cX4_makeV 107 = .ok (.getfield 37, 3) := by decide +kernel
theorem dX4_makeV_110 : decode cX4_makeV 110 = .ok (.aload_n 0, 1) := by decide +kernel
theorem dX4_makeV_111 : decode cX4_makeV 111 = .ok (.getfield 40, 3) := by decide +kernel
theorem dX4_makeV_114 : decode cX4_makeV 114 = .ok (.invokevirtual 70, 3) := by decide +kernel
theorem dX4_makeV_117 : decode cX4_makeV 117 = .ok (.aload_n 0, 1) := by decide +kernel
theorem dX4_makeV_118 : decode cX4_makeV 118 = .ok (.getfield 27, 3) := by decide +kernel
theorem dX4_makeV_121 : decode cX4_makeV 121 = .ok (.aload_n 1, 1) := by decide +kernel
theorem dX4_makeV_122 : decode cX4_makeV 122 = .ok (.iconst 0, 1) := by decide +kernel
theorem dX4_makeV_123 : decode cX4_makeV 123 = .ok (.aload_n 1, 1) := by decide +kernel
theorem dX4_makeV_124 : decode cX4_makeV 124 = .ok (.getfield 47, 3) := by decide +kernel
theorem dX4_makeV_127 : decode cX4_makeV 127 = .ok (.invokevirtual 142, 3) := by decide +kernel
theorem dX4_makeV_130 : decode cX4_makeV 130 = .ok (.aload_n 0, 1) := by decide +kernel
theorem dX4_makeV_131 : decode cX4_makeV 131 = .ok (.aload_n 1, 1) := by decide +kernel
theorem dX4_makeV_132 : decode cX4_makeV 132 = .ok (.getfield 47, 3) := by decide +kernel
theorem dX4_makeV_135 : decode cX4_makeV 135 = .ok (.invokevirtual 145, 3) := by decide +kernel
theorem dX4_makeV_138 : decode cX4_makeV 138 = .ok (.aload_n 0, 1) := by decide +kernel
theorem dX4_makeV_139 : decode cX4_makeV 139 = .ok (.aload_n 0, 1) := by decide +kernel
theorem dX4_makeV_140 : decode cX4_makeV 140 = .ok (.getfield 27, 3) := by decide +kernel
theorem dX4_makeV_143 : decode cX4_makeV 143 = .ok (.aload_n 0, 1) := by decide +kernel
theorem dX4_makeV_144 : decode cX4_makeV 144 = .ok (.getfield 40, 3) := by decide +kernel
theorem dX4_makeV_147 : decode cX4_makeV 147 = .ok (.invokevirtual 115, 3) := by decide +kernel
theorem dX4_makeV_150 : decode cX4_makeV 150 = .ok (.return_, 1) := by decide +kernel
theorem dX4_layEnd_0 : decode cX4_layEnd 0 = .ok (.iload_n 1, 1) := by decide +kernel
theorem dX4_layEnd_1 : decode cX4_layEnd 1 = .ok (.bipush 16, 2) := by decide +kernel
theorem dX4_layEnd_3 : decode cX4_layEnd 3 = .ok (.if_icmp .ge 29, 3) := by decide +kernel
theorem dX4_layEnd_6 : decode cX4_layEnd 6 = .ok (.aload_n 0, 1) := by decide +kernel
theorem dX4_layEnd_7 : decode cX4_layEnd 7 = .ok (.getfield 27, 3) := by decide +kernel
theorem dX4_layEnd_10 : decode cX4_layEnd 10 = .ok (.sipush 128, 3) := by decide +kernel
theorem dX4_layEnd_13 : decode cX4_layEnd 13 = .ok (.invokevirtual 101, 3) := by decide +kernel
theorem dX4_layEnd_16 : decode cX4_layEnd 16 = .ok (.aload_n 0, 1) := by decide +kernel
theorem dX4_layEnd_17 : decode cX4_layEnd 17 = .ok (.getfield 27, 3) := by decide +kernel
theorem dX4_layEnd_20 : decode cX4_layEnd 20 = .ok (.bipush 16, 2) := by decide +kernel
theorem dX4_layEnd_22 : decode cX4_layEnd 22 = .ok (.invokevirtual 108, 3) := by decide +kernel
theorem dX4_layEnd_25 : decode cX4_layEnd 25 = .ok (.aload_n 0, 1) := by decide +kernel
theorem dX4_layEnd_26 : decode cX4_layEnd 26 = .ok (.getfield 37, 3) := by decide +kernel
theorem dX4_layEnd_29 : decode cX4_layEnd 29 = .ok (.invokevirtual 63, 3) := by decide +kernel
theorem dX4_layEnd_32 : decode cX4_layEnd 32 = .ok (.aload_n 0, 1) := by decide +kernel
theorem dX4_layEnd_33 : decode cX4_layEnd 33 = .ok (.getfield 27, 3) := by decide +kernel
theorem dX4_layEnd_36 : decode cX4_layEnd 36 = .ok (.getfield 47, 3) := by decide +kernel
theorem dX4_layEnd_39 : decode cX4_layEnd 39 = .ok (.bipush 16, 2) := by decide +kernel
theorem dX4_layEnd_41 : decode cX4_layEnd 41 = .ok (.isub, 1) := by decide +kernel
theorem dX4_layEnd_42 : decode cX4_layEnd 42 = .ok (.istore_n 2, 1) := by decide +kernel
theorem dX4_layEnd_43 : decode cX4_layEnd 43 = .ok (.aload_n 0, 1) := by decide +kernel
theorem dX4_layEnd_44 : decode cX4_layEnd 44 = .ok (.getfield 40, 3) := by decide +kernel
theorem dX4_layEnd_47 : decode cX4_layEnd 47 = .ok (.aload_n 0, 1) := by decide +kernel
theorem dX4_layEnd_48 : decode cX4_layEnd 48 = .ok (.getfield 27, 3) := by decide +kernel
theorem dX4_layEnd_51 : decode cX4_layEnd 51 = .ok (.iload_n 2, 1) := by decide +kernel
theorem dX4_layEnd_52 : decode cX4_layEnd 52 = .ok (.invokevirtual 148, 3) := by decide +kernel
theorem dX4_layEnd_55 : decode cX4_layEnd 55 = .ok (.aload_n 0, 1) := by decide +kernel
theorem dX4_layEnd_56 : decode cX4_layEnd 56 = .ok (.getfield 40, 3) := by decide +kernel
theorem dX4_layEnd_59 : decode cX4_layEnd 59 = .ok (.aload_n 0, 1) := by decide +kernel
theorem dX4_layEnd_60 : decode cX4_layEnd 60 = .ok (.getfield 37, 3) := by decide +kernel
theorem dX4_layEnd_63 : decode cX4_layEnd 63 = .ok (.invokevirtual 70, 3) := by decide +kernel
theorem dX4_layEnd_66 : decode cX4_layEnd 66 = .ok (.aload_n 0, 1) := by decide +kernel
theorem dX4_layEnd_67 : decode cX4_layEnd 67 = .ok (.getfield 27, 3) := by decide +kernel
theorem dX4_layEnd_70 : decode cX4_layEnd 70 = .ok (.iload_n 2, 1) := by decide +kernel
theorem dX4_layEnd_71 : decode cX4_layEnd 71 = .ok (.invokevirtual 97, 3) := by decide +kernel
theorem dX4_layEnd_74 : decode cX4_layEnd 74 = .ok (.aload_n 0, 1) := by decide +kernel
theorem dX4_layEnd_75 : decode cX4_layEnd 75 = .ok (.getfield 27, 3) := by decide +kernel
theorem dX4_layEnd_78 : decode cX4_layEnd 78 = .ok (.aload_n 0, 1) := by decide +kernel
theorem dX4_layEnd_79 : decode cX4_layEnd 79 = .ok (.getfield 40, 3) := by decide +kernel
theorem dX4_layEnd_82 : decode cX4_layEnd 82 = .ok (.bipush 16, 2) := by decide +kernel
theorem dX4_layEnd_84 : decode cX4_layEnd 84 = .ok (.invokevirtual 121, 3) := by decide +kernel
theorem dX4_layEnd_87 : decode cX4_layEnd 87 = .ok (.return_, 1) := by decide +kernel

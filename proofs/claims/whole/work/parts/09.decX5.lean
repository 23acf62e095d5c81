theorem dX5_init_0 : decode cX5_init 0 = .ok (.aload_n 0, 1) := by decide +kernel
theorem dX5_init_1 : decode cX5_init 1 = .ok (.invokespecial 1, 3) := by decide +kernel
theorem dX5_init_4 : decode cX5_init 4 = .ok (.aload_n 0, 1) := by decide +kernel
theorem dX5_init_5 : decode cX5_init 5 = .ok (.aload_n 1, 1) := by decide +kernel
theorem dX5_init_6 : decode cX5_init 6 = .ok (.putfield 7, 3) := by decide +kernel
theorem dX5_init_9 : decode cX5_init 9 = .ok (.aload_n 0, 1) := by decide +kernel
theorem dX5_init_10 : decode cX5_init 10 = .ok (.aload_n 2, 1) := by decide +kernel
theorem dX5_init_11 : decode cX5_init 11 = .ok (.putfield 13, 3) := by decide +kernel
theorem dX5_init_14 : decode cX5_init 14 = .ok (.aload_n 0, 1) := by decide +kernel
theorem dX5_init_15 : decode cX5_init 15 = .ok (.aload_n 3, 1) := by decide +kernel
theorem dX5_init_16 : decode cX5_init 16 = .ok (.putfield 17, 3) := by decide +kernel
theorem dX5_init_19 : decode cX5_init 19 = .ok (.aload_n 0, 1) := by decide +kernel
theorem dX5_init_20 : decode cX5_init 20 = .ok (.new 20, 3) := by decide +kernel
theorem dX5_init_23 : decode cX5_init 23 = .ok (.dup, 1) := by decide +kernel
theorem dX5_init_24 : decode cX5_init 24 = .ok (.invokespecial 22, 3) := by decide +kernel
theorem dX5_init_27 : decode cX5_init 27 = .ok (.putfield 23, 3) := by decide +kernel
theorem dX5_init_30 : decode cX5_init 30 = .ok (.aload_n 0, 1) := by decide +kernel
theorem dX5_init_31 : decode cX5_init 31 = .ok (.new 20, 3) := by decide +kernel
theorem dX5_init_34 : decode cX5_init 34 = .ok (.dup, 1) := by decide +kernel
theorem dX5_init_35 : decode cX5_init 35 = .ok (.invokespecial 22, 3) := by decide +kernel
theorem dX5_init_38 : decode cX5_init 38 = .ok (.putfield 27, 3) := by decide +kernel
theorem dX5_init_41 : decode cX5_init 41 = .ok (.aload_n 0, 1) := by decide +kernel
theorem dX5_init_42 : decode cX5_init 42 = .ok (.new 20, 3) := by decide +kernel
theorem dX5_init_45 : decode cX5_init 45 = .ok (.dup, 1) := by decide +kernel
theorem dX5_init_46 : decode cX5_init 46 = .ok (.invokespecial 22, 3) := by decide +kernel
theorem dX5_init_49 : decode cX5_init 49 = .ok (.putfield 30, 3) := by decide +kernel
theorem dX5_init_52 : decode cX5_init 52 = .ok (.aload_n 0, 1) := by decide +kernel
theorem dX5_init_53 : decode cX5_init 53 = .ok (.new 20, 3) := by decide +kernel
theorem dX5_init_56 : decode cX5_init 56 = .ok (.dup, 1) := by decide +kernel
theorem dX5_init_57 : decode cX5_init 57 = .ok (.invokespecial 22, 3) := by decide +kernel
theorem dX5_init_60 : decode cX5_init 60 = .ok (.putfield 33, 3) := by decide +kernel
theorem dX5_init_63 : decode cX5_init 63 = .ok (.aload_n 0, 1) := by decide +kernel
theorem dX5_init_64 : decode cX5_init 64 = .ok (.new 20, 3) := by decide +kernel
theorem dX5_init_67 : decode cX5_init 67 = .ok (.dup, 1) := by decide +kernel
theorem dX5_init_68 : decode cX5_init 68 = .ok (.invokespecial 22, 3) := by decide +kernel
theorem dX5_init_71 : decode cX5_init 71 = .ok (.putfield 36, 3) := by decide +kernel
theorem dX5_init_74 : decode cX5_init 74 = .ok (.aload_n 0, 1) := by decide +kernel
theorem dX5_init_75 : decode cX5_init 75 = .ok (.new 20, 3) := by decide +kernel
theorem dX5_init_78 : decode cX5_init 78 = .ok (.dup, 1) := by decide +kernel
theorem dX5_init_79 : decode cX5_init 79 = .ok (.invokespecial 22, 3) := by decide +kernel
theorem dX5_init_82 : decode cX5_init 82 = .ok (.putfield 39, 3) := by decide +kernel
theorem dX5_init_85 : decode cX5_init 85 = .ok (.aload_n 0, 1) := by decide +kernel
theorem dX5_init_86 : decode cX5_init 86 = .ok (.new 20, 3) := by decide +kernel
theorem dX5_init_89 : decode cX5_init 89 = .ok (.dup, 1) := by decide +kernel
theorem dX5_init_90 : decode cX5_init 90 = .ok (.invokespecial 22, 3) := by decide +kernel
theorem dX5_init_93 : decode cX5_init 93 = .ok (.putfield 42, 3) := by decide +kernel
theorem dX5_init_96 : decode cX5_init 96 = .ok (.return_, 1) := by decide +kernel
theorem dX5_run_0 : decode cX5_run 0 = .ok (.aload_n 0, 1) := by decide +kernel
theorem dX5_run_1 : decode cX5_run 1 = .ok (.getfield 23, 3) := by decide +kernel
theorem dX5_run_4 : decode cX5_run 4 = .ok (.lconst 0, 1) := by decide +kernel
theorem dX5_run_5 : decode cX5_run 5 = .ok (.lconst 0, 1) := by decide +kernel
theorem dX5_run_6 : decode cX5_run 6 = .ok (.invokevirtual 45, 3) := by decide +kernel
theorem dX5_run_9 : decode cX5_run 9 = .ok (.aload_n 0, 1) := by decide +kernel
theorem dX5_run_10 : decode cX5_run 10 = .ok (.getfield 7, 3) := by decide +kernel
theorem dX5_run_13 : decode cX5_run 13 = .ok (.aload_n 0, 1) := by decide +kernel
theorem dX5_run_14 : decode cX5_run 14 = .ok (.getfield 23, 3) := by decide +kernel
theorem dX5_run_17 : decode cX5_run 17 = .ok (.invokevirtual 49, 3) := by decide +kernel
theorem dX5_run_20 : decode cX5_run 20 = .ok (.aload_n 0, 1) := by decide +kernel
theorem dX5_run_21 : decode cX5_run 21 = .ok (.getfield 27, 3) := by decide +kernel
theorem dX5_run_24 : decode cX5_run 24 = .ok (.aload_n 0, 1) := by decide +kernel
theorem dX5_run_25 : decode cX5_run 25 = .ok (.getfield 23, 3) := by decide +kernel
theorem dX5_run_28 : decode cX5_run 28 = .ok (.invokevirtual 55, 3) := by decide +kernel
theorem dX5_run_31 : decode cX5_run 31 = .ok (.aload_n 0, 1) := by decide +kernel
theorem dX5_run_32 : decode cX5_run 32 = .ok (.getfield 27, 3) := by decide +kernel
theorem dX5_run_35 : decode cX5_run 35 = .ok (.invokevirtual 58, 3) := by decide +kernel
theorem dX5_run_38 : decode cX5_run 38 = .ok (.aload_n 0, 1) := by decide +kernel
theorem dX5_run_39 : decode cX5_run 39 = .ok (.iload_n 3, 1) := by decide +kernel
theorem dX5_run_40 : decode cX5_run 40 = .ok (.invokevirtual 61, 3) := by decide +kernel
theorem dX5_run_43 : decode cX5_run 43 = .ok (.aload_n 0, 1) := by decide +kernel
theorem dX5_run_44 : decode cX5_run 44 = .ok (.getfield 36, 3) := by decide +kernel
theorem dX5_run_47 : decode cX5_run 47 = .ok (.lconst 0, 1) := by decide +kernel
theorem dX5_run_48 : decode cX5_run 48 = .ok (.lconst 0, 1) := by decide +kernel
theorem dX5_run_49 : decode cX5_run 49 = .ok (.invokevirtual 45, 3) := by decide +kernel
theorem dX5_run_52 : decode cX5_run 52 = .ok (.aload_n 1, 1) := by decide +kernel
theorem dX5_run_53 : decode cX5_run 53 = .ok (.getfield 65, 3) := by decide +kernel
theorem dX5_run_56 : decode cX5_run 56 = .ok (.bipush 15, 2) := by decide +kernel
theorem dX5_run_58 : decode cX5_run 58 = .ok (.iand, 1) := by decide +kernel
theorem dX5_run_59 : decode cX5_run 59 = .ok (.istore 6, 2) := by decide +kernel
theorem dX5_run_61 : decode cX5_run 61 = .ok (.aload_n 1, 1) := by decide +kernel
theorem dX5_run_62 : decode cX5_run 62 = .ok (.getfield 65, 3) := by decide +kernel
theorem dX5_run_65 : decode cX5_run 65 = .ok (.iload 6, 2) := by decide +kernel
theorem dX5_run_67 : decode cX5_run 67 = .ok (.isub, 1) := by decide +kernel
theorem dX5_run_68 : decode cX5_run 68 = .ok (.istore 7, 2) := by decide +kernel
theorem dX5_run_70 : decode cX5_run 70 = .ok (.iconst 0, 1) := by decide +kernel
theorem dX5_run_71 : decode cX5_run 71 = .ok (.istore 8, 2) := by decide +kernel
theorem dX5_run_73 : decode cX5_run 73 = .ok (.iload 8, 2) := by decide +kernel
theorem dX5_run_75 : decode cX5_run 75 = .ok (.iload 7, 2) := by decide +kernel
theorem dX5_run_77 : decode cX5_run 77 = .ok (.if_icmp .ge 55, 3) := by decide +kernel
theorem dX5_run_80 : decode cX5_run 80 = .ok (.aload_n 0, 1) := by decide +kernel
theorem dX5_run_81 : decode cX5_run 81 = .ok (.iload 8, 2) := by decide +kernel
theorem dX5_run_83 : decode cX5_run 83 = .ok (.iconst 4, 1) := by decide +kernel
theorem dX5_run_84 : decode cX5_run 84 = .ok (.ishr, 1) := by decide +kernel
theorem dX5_run_85 : decode cX5_run 85 = .ok (.iconst 1, 1) := by decide +kernel
theorem dX5_run_86 : decode cX5_run 86 = .ok (.iadd, 1) := by decide +kernel
theorem dX5_run_87 : decode cX5_run 87 = .ok (.invokevirtual 71, 3) := by decide +kernel
theorem dX5_run_90 : decode cX5_run 90 = .ok (.aload_n 0, 1) := by decide +kernel
theorem dX5_run_91 : decode cX5_run 91 = .ok (.getfield 39, 3) := by decide +kernel
theorem dX5_run_94 : decode cX5_run 94 = .ok (.aload_n 1, 1) := by decide +kernel
theorem dX5_run_95 : decode cX5_run 95 = .ok (.iload 8, 2) := by decide +kernel
theorem dX5_run_97 : decode cX5_run 97 = .ok (.invokevirtual 74, 3) := by decide +kernel
theorem dX5_run_100 : decode cX5_run 100 = .ok (.iload_n 2, 1) := by decide +kernel
theorem dX5_run_101 : decode cX5_run 101 = .ok (.ifCond .eq 10, 3) := by decide +kernel
theorem dX5_run_104 : decode cX5_run 104 = .ok (.aload_n 0, 1) := by decide +kernel
theorem dX5_run_105 : decode cX5_run 105 = .ok (.invokevirtual 78, 3) := by decide +kernel
theorem dX5_run_108 : decode cX5_run 108 = .ok (.goto 7, 3) := by decide +kernel
theorem dX5_run_111 : decode cX5_run 111 = .ok (.aload_n 0, 1) := by decide +kernel
theorem dX5_run_112 : decode cX5_run 112 = .ok (.invokevirtual 81, 3) := by decide +kernel
theorem dX5_run_115 : decode cX5_run 115 = .ok (.aload 4, 2) := by decide +kernel
theorem dX5_run_117 : decode cX5_run 117 = .ok (.aload_n 0, 1) := by decide +kernel
theorem dX5_run_118 : decode cX5_run 118 = .ok (.getfield 39, 3) := by decide +kernel
theorem dX5_run_121 : decode cX5_run 121 = .ok (.bipush 16, 2) := by decide +kernel
theorem dX5_run_123 : decode cX5_run 123 = .ok (.invokevirtual 84, 3) := by decide +kernel
theorem dX5_run_126 : decode cX5_run 126 = .ok (.iinc 8 16, 3) := by decide +kernel
theorem dX5_run_129 : decode cX5_run 129 = .ok (.goto (-56), 3) := by decide +kernel
theorem dX5_run_132 : decode cX5_run 132 = .ok (.iload 6, 2) := by decide +kernel
theorem dX5_run_134 : decode cX5_run 134 = .ok (.ifCond .eq 11, 3) := by decide +kernel
theorem dX5_run_137 : decode cX5_run 137 = .ok (.aload_n 0, 1) := by decide +kernel
theorem dX5_run_138 : decode cX5_run 138 = .ok (.aload_n 1, 1) := by decide +kernel
theorem dX5_run_139 : decode cX5_run 139 = .ok (.iload_n 2, 1) := by decide +kernel
theorem dX5_run_140 : decode cX5_run 140 = .ok (.aload 4, 2) := by decide +kernel
theorem dX5_run_142 : decode cX5_run 142 = .ok (.invokevirtual 88, 3) := by decide +kernel
theorem dX5_run_145 : decode cX5_run 145 = .ok (.aload 5, 2) := by decide +kernel
theorem dX5_run_147 : decode cX5_run 147 = .ok (.aload_n 0, 1) := by decide +kernel
theorem dX5_run_148 : decode cX5_run 148 = .ok (.getfield 36, 3) := by decide +kernel
theorem dX5_run_151 : decode cX5_run 151 = .ok (.invokevirtual 55, 3) := by decide +kernel
theorem dX5_run_154 : decode cX5_run 154 = .ok (.aload 5, 2) := by decide +kernel
theorem dX5_run_156 : decode cX5_run 156 = .ok (.aload_n 0, 1) := by decide +kernel
theorem dX5_run_157 : decode cX5_run 157 = .ok (.getfield 33, 3) := by decide +kernel
theorem dX5_run_160 : decode cX5_run 160 = .ok (.invokevirtual 92, 3) := by decide +kernel
theorem dX5_run_163 : decode cX5_run 163 = .ok (.aload 5, 2) := by decide +kernel
theorem dX5_run_165 : decode cX5_run 165 = .ok (.aload_n 0, 1) := by decide +kernel
theorem dX5_run_166 : decode cX5_run 166 = .ok (.getfield 27, 3) := by decide +kernel
theorem dX5_run_169 : decode cX5_run 169 = .ok (.invokevirtual 92, 3) := by decide +kernel
theorem dX5_run_172 : decode cX5_run 172 = .ok (.aload_n 0, 1) := by decide +kernel
theorem dX5_run_173 : decode cX5_run 173 = .ok (.getfield 7, 3) := by decide +kernel
theorem dX5_run_176 : decode cX5_run 176 = .ok (.aload 5, 2) := by decide +kernel
theorem dX5_run_178 : decode cX5_run 178 = .ok (.invokevirtual 49, 3) := by decide +kernel
theorem dX5_run_181 : decode cX5_run 181 = .ok (.aload_n 0, 1) := by decide +kernel
theorem dX5_run_182 : decode cX5_run 182 = .ok (.aload 5, 2) := by decide +kernel
theorem dX5_run_184 : decode cX5_run 184 = .ok (.invokevirtual 95, 3) := by decide +kernel
theorem dX5_run_187 : decode cX5_run 187 = .ok (.return_, 1) := by decide +kernel
theorem dX5_beginOffset_0 : decode cX5_beginOffset 0 = .ok (.aload_n 0, 1) := by decide +kernel
theorem dX5_beginOffset_1 : decode cX5_beginOffset 1 = .ok (.getfield 39, 3) := by decide +kernel
theorem dX5_beginOffset_4 : decode cX5_beginOffset 4 = .ok (.lconst 0, 1) := by decide +kernel
theorem dX5_beginOffset_5 : decode cX5_beginOffset 5 = .ok (.lconst 0, 1) := by decide +kernel
theorem dX5_beginOffset_6 : decode cX5_beginOffset 6 = .ok (.invokevirtual 45, 3) := by decide +kernel
theorem dX5_beginOffset_9 : decode cX5_beginOffset 9 = .ok (.aload_n 0, 1) := by decide +kernel
theorem dX5_beginOffset_10 : decode cX5_beginOffset 10 = .ok (.getfield 39, 3) := by decide +kernel
theorem dX5_beginOffset_13 : decode cX5_beginOffset 13 = .ok (.iconst 0, 1) := by decide +kernel
theorem dX5_beginOffset_14 : decode cX5_beginOffset 14 = .ok (.bipush 8, 2) := by decide +kernel
theorem dX5_beginOffset_16 : decode cX5_beginOffset 16 = .ok (.iload_n 1, 1) := by decide +kernel
theorem dX5_beginOffset_17 : decode cX5_beginOffset 17 = .ok (.imul, 1) := by decide +kernel
theorem dX5_beginOffset_18 : decode cX5_beginOffset 18 = .ok (.bipush 127, 2) := by decide +kernel
theorem dX5_beginOffset_20 : decode cX5_beginOffset 20 = .ok (.iand, 1) := by decide +kernel
theorem dX5_beginOffset_21 : decode cX5_beginOffset 21 = .ok (.iconst 1, 1) := by decide +kernel
theorem dX5_beginOffset_22 : decode cX5_beginOffset 22 = .ok (.ishl, 1) := by decide +kernel
theorem dX5_beginOffset_23 : decode cX5_beginOffset 23 = .ok (.invokevirtual 98, 3) := by decide +kernel
theorem dX5_beginOffset_26 : decode cX5_beginOffset 26 = .ok (.aload_n 0, 1) := by decide +kernel
theorem dX5_beginOffset_27 : decode cX5_beginOffset 27 = .ok (.getfield 39, 3) := by decide +kernel
theorem dX5_beginOffset_30 : decode cX5_beginOffset 30 = .ok (.bipush 15, 2) := by decide +kernel
theorem dX5_beginOffset_32 : decode cX5_beginOffset 32 = .ok (.aload_n 0, 1) := by decide +kernel
theorem dX5_beginOffset_33 : decode cX5_beginOffset 33 = .ok (.getfield 13, 3) := by decide +kernel
theorem dX5_beginOffset_36 : decode cX5_beginOffset 36 = .ok (.getfield 65, 3) := by decide +kernel
theorem dX5_beginOffset_39 : decode cX5_beginOffset 39 = .ok (.isub, 1) := by decide +kernel
theorem dX5_beginOffset_40 : decode cX5_beginOffset 40 = .ok (.iconst 1, 1) := by decide +kernel
theorem dX5_beginOffset_41 : decode cX5_beginOffset 41 = .ok (.invokevirtual 98, 3) := by decide +kernel
theorem dX5_beginOffset_44 : decode cX5_beginOffset 44 = .ok (.iconst 0, 1) := by decide +kernel
theorem dX5_beginOffset_45 : decode cX5_beginOffset 45 = .ok (.istore_n 2, 1) := by decide +kernel
theorem dX5_beginOffset_46 : decode cX5_beginOffset 46 = .ok (.iload_n 2, 1) := by decide +kernel
theorem dX5_beginOffset_47 : decode cX5_beginOffset 47 = .ok (.aload_n 0, 1) := by decide +kernel
theorem dX5_beginOffset_48 : decode cX5_beginOffset 48 = .ok (.getfield 13, 3) := by decide +kernel
theorem dX5_beginOffset_51 : decode cX5_beginOffset 51 = .ok (.getfield 65, 3) := by decide +kernel
theorem dX5_beginOffset_54 : decode cX5_beginOffset 54 = .ok (.if_icmp .ge 36, 3) := by decide +kernel
theorem dX5_beginOffset_57 : decode cX5_beginOffset 57 = .ok (.aload_n 0, 1) := by decide +kernel
theorem dX5_beginOffset_58 : decode cX5_beginOffset 58 = .ok (.getfield 39, 3) := by decide +kernel
theorem dX5_beginOffset_61 : decode cX5_beginOffset 61 = .ok (.bipush 16, 2) := by decide +kernel
theorem dX5_beginOffset_63 : decode cX5_beginOffset 63 = .ok (.aload_n 0, 1) := by decide +kernel
theorem dX5_beginOffset_64 : decode cX5_beginOffset 64 = .ok (.getfield 13, 3) := by decide +kernel
theorem dX5_beginOffset_67 : decode cX5_beginOffset 67 = .ok (.getfield 65, 3) := by decide +kernel
theorem dX5_beginOffset_70 : decode cX5_beginOffset 70 = .ok (.isub, 1) := by decide +kernel
theorem dX5_beginOffset_71 : decode cX5_beginOffset 71 = .ok (.iload_n 2, 1) := by decide +kernel
theorem dX5_beginOffset_72 : decode cX5_beginOffset 72 = .ok (.iadd, 1) := by decide +kernel
theorem dX5_beginOffset_73 : decode cX5_beginOffset 73 = .ok (.aload_n 0, 1) := by decide +kernel
theorem dX5_beginOffset_74 : decode cX5_beginOffset 74 = .ok (.getfield 13, 3) := by decide +kernel
theorem dX5_beginOffset_77 : decode cX5_beginOffset 77 = .ok (.iload_n 2, 1) := by decide +kernel
theorem dX5_beginOffset_78 : decode cX5_beginOffset 78 = .ok (.invokevirtual 102, 3) := by decide +kernel
theorem dX5_beginOffset_81 : decode cX5_beginOffset 81 = .ok (.invokevirtual 98, 3) := by decide +kernel
theorem dX5_beginOffset_84 : decode cX5_beginOffset 84 = .ok (.iinc 2 1, 3) := by decide +kernel
theorem dX5_beginOffset_87 : decode cX5_beginOffset 87 = .ok (.goto (-41), 3) := by decide +kernel
theorem dX5_beginOffset_90 : decode cX5_beginOffset 90 = .ok (.aload_n 0, 1) := by decide +kernel
theorem dX5_beginOffset_91 : decode cX5_beginOffset 91 = .ok (.getfield 39, 3) := by decide +kernel
theorem dX5_beginOffset_94 : decode cX5_beginOffset 94 = .ok (.getfield 106, 3) := by decide +kernel
theorem dX5_beginOffset_97 : decode cX5_beginOffset 97 = .ok (.l2i, 1) := by decide +kernel
theorem dX5_beginOffset_98 : decode cX5_beginOffset 98 = .ok (.bipush 63, 2) := by decide +kernel
theorem dX5_beginOffset_100 : decode cX5_beginOffset 100 = .ok (.iand, 1) := by decide +kernel
theorem dX5_beginOffset_101 : decode cX5_beginOffset 101 = .ok (.istore_n 2, 1) := by decide +kernel
theorem dX5_beginOffset_102 : decode cX5_beginOffset 102 = .ok (.aload_n 0, 1) := by decide +kernel
theorem dX5_beginOffset_103 : decode cX5_beginOffset 103 = .ok (.getfield 39, 3) := by decide +kernel
theorem dX5_beginOffset_106 : decode cX5_beginOffset 106 = .ok (.dup, 1) := by decide +kernel
theorem dX5_beginOffset_107 : decode cX5_beginOffset 107 = .ok (.getfield 106, 3) := by decide +kernel
theorem dX5_beginOffset_110 : decode cX5_beginOffset 110 = .ok (.ldc2_w 110, 3) := by decide +kernel
theorem dX5_beginOffset_113 : decode cX5_beginOffset 113 = .ok (.land, 1) := by decide +kernel
theorem dX5_beginOffset_114 : decode cX5_beginOffset 114 = .ok (.putfield 106, 3) := by decide +kernel
theorem dX5_beginOffset_117 : decode cX5_beginOffset 117 = .ok (.aload_n 0, 1) := by decide +kernel
theorem dX5_beginOffset_118 : decode cX5_beginOffset 118 = .ok (.getfield 7, 3) := by decide +kernel
theorem dX5_beginOffset_121 : decode cX5_beginOffset 121 = .ok (.aload_n 0, 1) := by decide +kernel
theorem dX5_beginOffset_122 : decode cX5_beginOffset 122 = .ok (.getfield 39, 3) := by decide +kernel
theorem dX5_beginOffset_125 : decode cX5_beginOffset 125 = .ok (.invokevirtual 49, 3) := by decide +kernel
theorem dX5_beginOffset_128 : decode cX5_beginOffset 128 = .ok (.aload_n 0, 1) := by decide +kernel
theorem dX5_beginOffset_129 : decode cX5_beginOffset 129 = .ok (.getfield 39, 3) := by decide +kernel
theorem dX5_beginOffset_132 : decode cX5_beginOffset 132 = .ok (.getfield 112, 3) := by decide +kernel
theorem dX5_beginOffset_135 : decode cX5_beginOffset 135 = .ok (.aload_n 0, 1) := by decide +kernel
theorem dX5_beginOffset_136 : decode cX5_beginOffset 136 = .ok (.getfield 39, 3) := by decide +kernel
theorem dX5_beginOffset_139 : decode cX5_beginOffset 139 = .ok (.getfield 112, 3) := by decide +kernel
theorem dX5_beginOffset_142 : decode cX5_beginOffset 142 = .ok (.bipush 8, 2) := by decide +kernel
theorem dX5_beginOffset_144 : decode cX5_beginOffset 144 = .ok (.lshl, 1) := by decide +kernel
theorem dX5_beginOffset_145 : decode cX5_beginOffset 145 = .ok (.aload_n 0, 1) := by decide +kernel
theorem dX5_beginOffset_146 : decode cX5_beginOffset 146 = .ok (.getfield 39, 3) := by decide +kernel
theorem dX5_beginOffset_149 : decode cX5_beginOffset 149 = .ok (.getfield 106, 3) := by decide +kernel
theorem dX5_beginOffset_152 : decode cX5_beginOffset 152 = .ok (.bipush 56, 2) := by decide +kernel
theorem dX5_beginOffset_154 : decode cX5_beginOffset 154 = .ok (.lushr, 1) := by decide +kernel
theorem dX5_beginOffset_155 : decode cX5_beginOffset 155 = .ok (.lor, 1) := by decide +kernel
theorem dX5_beginOffset_156 : decode cX5_beginOffset 156 = .ok (.lxor, 1) := by decide +kernel
theorem dX5_beginOffset_157 : decode cX5_beginOffset 157 = .ok (.lstore_n 3, 1) := by decide +kernel
theorem dX5_beginOffset_158 : decode cX5_beginOffset 158 = .ok (.aload_n 0, 1) := by decide +kernel
theorem dX5_beginOffset_159 : decode cX5_beginOffset 159 = .ok (.getfield 33, 3) := by decide +kernel
theorem dX5_beginOffset_162 : decode cX5_beginOffset 162 = .ok (.aload_n 0, 1) := by decide +kernel
theorem dX5_beginOffset_163 : decode cX5_beginOffset 163 = .ok (.getfield 39, 3) := by decide +kernel
theorem dX5_beginOffset_166 : decode cX5_beginOffset 166 = .ok (.getfield 112, 3) := by decide +kernel
theorem dX5_beginOffset_169 : decode cX5_beginOffset 169 = .ok (.aload_n 0, 1) := by decide +kernel
theorem dX5_beginOffset_170 : decode cX5_beginOffset 170 = .ok (.getfield 39, 3) := by decide +kernel
theorem dX5_beginOffset_173 : decode cX5_beginOffset 173 = .ok (.getfield 106, 3) := by decide +kernel
theorem dX5_beginOffset_176 : decode cX5_beginOffset 176 = .ok (.iload_n 2, 1) := by decide +kernel
theorem dX5_beginOffset_177 : decode cX5_beginOffset 177 = .ok (.invokestatic 115, 3) := by decide +kernel
theorem dX5_beginOffset_180 : decode cX5_beginOffset 180 = .ok (.aload_n 0, 1) := by decide +kernel
theorem dX5_beginOffset_181 : decode cX5_beginOffset 181 = .ok (.getfield 39, 3) := by decide +kernel
theorem dX5_beginOffset_184 : decode cX5_beginOffset 184 = .ok (.getfield 106, 3) := by decide +kernel
theorem dX5_beginOffset_187 : decode cX5_beginOffset 187 = .ok (.lload_n 3, 1) := by decide +kernel
theorem dX5_beginOffset_188 : decode cX5_beginOffset 188 = .ok (.iload_n 2, 1) := by decide +kernel
theorem dX5_beginOffset_189 : decode cX5_beginOffset 189 = .ok (.invokestatic 115, 3) := by decide +kernel
theorem dX5_beginOffset_192 : decode cX5_beginOffset 192 = .ok (.invokevirtual 45, 3) := by decide +kernel
theorem dX5_beginOffset_195 : decode cX5_beginOffset 195 = .ok (.return_, 1) := by decide +kernel
theorem dX5_window_0 : decode cX5_window 0 = .ok (.lload_n 0, 1) := by decide +kernel
theorem dX5_window_1 : decode cX5_window 1 = .ok (.iload 4, 2) := by decide +kernel
theorem dX5_window_3 : decode cX5_window 3 = .ok (.lshl, 1) := by decide +kernel
theorem dX5_window_4 : decode cX5_window 4 = .ok (.lload_n 2, 1) := by decide +kernel
theorem dX5_window_5 : decode cX5_window 5 = .ok (.iconst 1, 1) := by decide +kernel
theorem dX5_window_6 : decode cX5_window 6 = .ok (.lushr, 1) := by decide +kernel
theorem dX5_window_7 : decode cX5_window 7 = .ok (.bipush 63, 2) := by decide +kernel
theorem dX5_window_9 : decode cX5_window 9 = .ok (.iload 4, 2) := by decide +kernel
theorem dX5_window_11 : decode cX5_window 11 = .ok (.isub, 1) := by decide +kernel
theorem dX5_window_12 : decode cX5_window 12 = .ok (.lushr, 1) := by decide +kernel
theorem dX5_window_13 : decode cX5_window 13 = .ok (.lor, 1) := by decide +kernel
theorem dX5_window_14 : decode cX5_window 14 = .ok (.lreturn, 1) := by decide +kernel
theorem dX5_moveOffset_0 : decode cX5_moveOffset 0 = .ok (.aload_n 0, 1) := by decide +kernel
theorem dX5_moveOffset_1 : decode cX5_moveOffset 1 = .ok (.getfield 30, 3) := by decide +kernel
theorem dX5_moveOffset_4 : decode cX5_moveOffset 4 = .ok (.aload_n 0, 1) := by decide +kernel
theorem dX5_moveOffset_5 : decode cX5_moveOffset 5 = .ok (.getfield 27, 3) := by decide +kernel
theorem dX5_moveOffset_8 : decode cX5_moveOffset 8 = .ok (.invokevirtual 55, 3) := by decide +kernel
theorem dX5_moveOffset_11 : decode cX5_moveOffset 11 = .ok (.aload_n 0, 1) := by decide +kernel
theorem dX5_moveOffset_12 : decode cX5_moveOffset 12 = .ok (.getfield 30, 3) := by decide +kernel
theorem dX5_moveOffset_15 : decode cX5_moveOffset 15 = .ok (.invokevirtual 58, 3) := by decide +kernel
theorem dX5_moveOffset_18 : decode cX5_moveOffset 18 = .ok (.iconst 0, 1) := by decide +kernel
theorem dX5_moveOffset_19 : decode cX5_moveOffset 19 = .ok (.istore_n 2, 1) := by decide +kernel
theorem dX5_moveOffset_20 : decode cX5_moveOffset 20 = .ok (.iload_n 2, 1) := by decide +kernel
theorem dX5_moveOffset_21 : decode cX5_moveOffset 21 = .ok (.bipush 16, 2) := by decide +kernel
theorem dX5_moveOffset_23 : decode cX5_moveOffset 23 = .ok (.if_icmp .ge 24, 3) := by decide +kernel
theorem dX5_moveOffset_26 : decode cX5_moveOffset 26 = .ok (.iload_n 1, 1) := by decide +kernel
theorem dX5_moveOffset_27 : decode cX5_moveOffset 27 = .ok (.iload_n 2, 1) := by decide +kernel
theorem dX5_moveOffset_28 : decode cX5_moveOffset 28 = .ok (.ishr, 1) := by decide +kernel
theorem dX5_moveOffset_29 : decode cX5_moveOffset 29 = .ok (.iconst 1, 1) := by decide +kernel
theorem dX5_moveOffset_30 : decode cX5_moveOffset 30 = .ok (.iand, 1) := by decide +kernel
theorem dX5_moveOffset_31 : decode cX5_moveOffset 31 = .ok (.ifCond .ne 16, 3) := by decide +kernel
theorem dX5_moveOffset_34 : decode cX5_moveOffset 34 = .ok (.aload_n 0, 1) := by decide +kernel
theorem dX5_moveOffset_35 : decode cX5_moveOffset 35 = .ok (.getfield 30, 3) := by decide +kernel
theorem dX5_moveOffset_38 : decode cX5_moveOffset 38 = .ok (.invokevirtual 58, 3) := by decide +kernel
theorem dX5_moveOffset_41 : decode cX5_moveOffset 41 = .ok (.iinc 2 1, 3) := by decide +kernel
theorem dX5_moveOffset_44 : decode cX5_moveOffset 44 = .ok (.goto (-24), 3) := by decide +kernel
theorem dX5_moveOffset_47 : decode cX5_moveOffset 47 = .ok (.aload_n 0, 1) := by decide +kernel
theorem dX5_moveOffset_48 : decode cX5_moveOffset 48 = .ok (.getfield 33, 3) := by decide +kernel
theorem dX5_moveOffset_51 : decode cX5_moveOffset 51 = .ok (.aload_n 0, 1) := by decide +kernel
theorem dX5_moveOffset_52 : decode cX5_moveOffset 52 = .ok (.getfield 30, 3) := by decide +kernel
theorem dX5_moveOffset_55 : decode cX5_moveOffset 55 = .ok (.invokevirtual 92, 3) := by decide +kernel
theorem dX5_moveOffset_58 : decode cX5_moveOffset 58 = .ok (.return_, 1) := by decide +kernel
theorem dX5_lockBlock_0 : decode cX5_lockBlock 0 = .ok (.aload_n 0, 1) := by decide +kernel
theorem dX5_lockBlock_1 : decode cX5_lockBlock 1 = .ok (.getfield 36, 3) := by decide +kernel
theorem dX5_lockBlock_4 : decode cX5_lockBlock 4 = .ok (.aload_n 0, 1) := by decide +kernel
theorem dX5_lockBlock_5 : decode cX5_lockBlock 5 = .ok (.getfield 39, 3) := by decide +kernel
theorem dX5_lockBlock_8 : decode cX5_lockBlock 8 = .ok (.invokevirtual 92, 3) := by decide +kernel
theorem dX5_lockBlock_11 : decode cX5_lockBlock 11 = .ok (.aload_n 0, 1) := by decide +kernel
theorem dX5_lockBlock_12 : decode cX5_lockBlock 12 = .ok (.getfield 39, 3) := by decide +kernel
theorem dX5_lockBlock_15 : decode cX5_lockBlock 15 = .ok (.aload_n 0, 1) := by decide +kernel
theorem dX5_lockBlock_16 : decode cX5_lockBlock 16 = .ok (.getfield 33, 3) := by decide +kernel
theorem dX5_lockBlock_19 : decode cX5_lockBlock 19 = .ok (.invokevirtual 92, 3) := by decide +kernel
theorem dX5_lockBlock_22 : decode cX5_lockBlock 22 = .ok (.aload_n 0, 1) := by decide +kernel
theorem dX5_lockBlock_23 : decode cX5_lockBlock 23 = .ok (.getfield 7, 3) := by decide +kernel
theorem dX5_lockBlock_26 : decode cX5_lockBlock 26 = .ok (.aload_n 0, 1) := by decide +kernel
theorem dX5_lockBlock_27 : decode cX5_lockBlock 27 = .ok (.getfield 39, 3) := by decide +kernel
theorem dX5_lockBlock_30 : decode cX5_lockBlock 30 = .ok (.invokevirtual 49, 3) := by decide +kernel
theorem dX5_lockBlock_33 : decode cX5_lockBlock 33 = .ok (.aload_n 0, 1) := by decide +kernel
theorem dX5_lockBlock_34 : decode cX5_lockBlock 34 = .ok (.getfield 39, 3) := by decide +kernel
theorem dX5_lockBlock_37 : decode cX5_lockBlock 37 = .ok (.aload_n 0, 1) := by decide +kernel
theorem dX5_lockBlock_38 : decode cX5_lockBlock 38 = .ok (.getfield 33, 3) := by decide +kernel
theorem dX5_lockBlock_41 : decode cX5_lockBlock 41 = .ok (.invokevirtual 92, 3) := by decide +kernel
theorem dX5_lockBlock_44 : decode cX5_lockBlock 44 = .ok (.return_, 1) := by decide +kernel
theorem dX5_unlockBlock_0 : decode cX5_unlockBlock 0 = .ok (.aload_n 0, 1) := by decide +kernel
theorem dX5_unlockBlock_1 : decode cX5_unlockBlock 1 = .ok (.getfield 39, 3) := by decide +kernel
theorem dX5_unlockBlock_4 : decode cX5_unlockBlock 4 = .ok (.aload_n 0, 1) := by decide +kernel
theorem dX5_unlockBlock_5 : decode cX5_unlockBlock 5 = .ok (.getfield 33, 3) := by decide +kernel
theorem dX5_unlockBlock_8 : decode cX5_unlockBlock 8 = .ok (.invokevirtual 92, 3) := by decide +kernel
theorem dX5_unlockBlock_11 : decode cX5_unlockBlock 11 = .ok (.aload_n 0, 1) := by decide +kernel
theorem dX5_unlockBlock_12 : decode cX5_unlockBlock 12 = .ok (.getfield 7, 3) := by decide +kernel
theorem dX5_unlockBlock_15 : decode cX5_unlockBlock 15 = .ok (.aload_n 0, 1) := by decide +kernel
theorem dX5_unlockBlock_16 : decode cX5_unlockBlock 16 = .ok (.getfield 39, 3) := by decide +kernel
theorem dX5_unlockBlock_19 : decode cX5_unlockBlock 19 = .ok (.invokevirtual 119, 3) := by decide +kernel
theorem dX5_unlockBlock_22 : decode cX5_unlockBlock 22 = .ok (.aload_n 0, 1) := by decide +kernel
theorem dX5_unlockBlock_23 : decode cX5_unlockBlock 23 = .ok (.getfield 39, 3) := by decide +kernel
theorem dX5_unlockBlock_26 : decode cX5_unlockBlock 26 = .ok (.aload_n 0, 1) := by decide +kernel
theorem dX5_unlockBlock_27 : decode cX5_unlockBlock 27 = .ok (.getfield 33, 3) := by decide +kernel
theorem dX5_unlockBlock_30 : decode cX5_unlockBlock 30 = .ok (.invokevirtual 92, 3) := by decide +kernel
theorem dX5_unlockBlock_33 : decode cX5_unlockBlock 33 = .ok (.aload_n 0, 1) := by decide +kernel
theorem dX5_unlockBlock_34 : decode cX5_unlockBlock 34 = .ok (.getfield 36, 3) := by decide +kernel
theorem dX5_unlockBlock_37 : decode cX5_unlockBlock 37 = .ok (.aload_n 0, 1) := by decide +kernel
theorem dX5_unlockBlock_38 : decode cX5_unlockBlock 38 = .ok (.getfield 39, 3) := by decide +kernel
theorem dX5_unlockBlock_41 : decode cX5_unlockBlock 41 = .ok (.invokevirtual 92, 3) := by decide +kernel
theorem dX5_unlockBlock_44 : decode cX5_unlockBlock 44 = .ok (.return_, 1) := by decide +kernel
theorem dX5_runPart_0 : decode cX5_runPart 0 = .ok (.aload_n 1, 1) := by decide +kernel
theorem dX5_runPart_1 : decode cX5_runPart 1 = .ok (.getfield 65, 3) := by decide +kernel
theorem dX5_runPart_4 : decode cX5_runPart 4 = .ok (.bipush 15, 2) := by decide +kernel
theorem dX5_runPart_6 : decode cX5_runPart 6 = .ok (.iand, 1) := by decide +kernel
theorem dX5_runPart_7 : decode cX5_runPart 7 = .ok (.istore 4, 2) := by decide +kernel
theorem dX5_runPart_9 : decode cX5_runPart 9 = .ok (.aload_n 0, 1) := by decide +kernel
theorem dX5_runPart_10 : decode cX5_runPart 10 = .ok (.getfield 33, 3) := by decide +kernel
theorem dX5_runPart_13 : decode cX5_runPart 13 = .ok (.aload_n 0, 1) := by decide +kernel
theorem dX5_runPart_14 : decode cX5_runPart 14 = .ok (.getfield 23, 3) := by decide +kernel
theorem dX5_runPart_17 : decode cX5_runPart 17 = .ok (.invokevirtual 92, 3) := by decide +kernel
theorem dX5_runPart_20 : decode cX5_runPart 20 = .ok (.aload_n 0, 1) := by decide +kernel
theorem dX5_runPart_21 : decode cX5_runPart 21 = .ok (.getfield 42, 3) := by decide +kernel
theorem dX5_runPart_24 : decode cX5_runPart 24 = .ok (.aload_n 0, 1) := by decide +kernel
theorem dX5_runPart_25 : decode cX5_runPart 25 = .ok (.getfield 33, 3) := by decide +kernel
theorem dX5_runPart_28 : decode cX5_runPart 28 = .ok (.invokevirtual 55, 3) := by decide +kernel
theorem dX5_runPart_31 : decode cX5_runPart 31 = .ok (.aload_n 0, 1) := by decide +kernel
theorem dX5_runPart_32 : decode cX5_runPart 32 = .ok (.getfield 7, 3) := by decide +kernel
theorem dX5_runPart_35 : decode cX5_runPart 35 = .ok (.aload_n 0, 1) := by decide +kernel
theorem dX5_runPart_36 : decode cX5_runPart 36 = .ok (.getfield 42, 3) := by decide +kernel
theorem dX5_runPart_39 : decode cX5_runPart 39 = .ok (.invokevirtual 49, 3) := by decide +kernel
theorem dX5_runPart_42 : decode cX5_runPart 42 = .ok (.aload_n 0, 1) := by decide +kernel
theorem dX5_runPart_43 : decode cX5_runPart 43 = .ok (.getfield 42, 3) := by decide +kernel
theorem dX5_runPart_46 : decode cX5_runPart 46 = .ok (.iload 4, 2) := by decide +kernel
theorem dX5_runPart_48 : decode cX5_runPart 48 = .ok (.invokevirtual 122, 3) := by decide +kernel
theorem dX5_runPart_51 : decode cX5_runPart 51 = .ok (.aload_n 0, 1) := by decide +kernel
theorem dX5_runPart_52 : decode cX5_runPart 52 = .ok (.getfield 39, 3) := by decide +kernel
theorem dX5_runPart_55 : decode cX5_runPart 55 = .ok (.aload_n 1, 1) := by decide +kernel
theorem dX5_runPart_56 : decode cX5_runPart 56 = .ok (.aload_n 1, 1) := by decide +kernel
theorem dX5_runPart_57 : decode cX5_runPart 57 = .ok (.getfield 65, 3) := by decide +kernel
theorem dX5_runPart_60 : decode cX5_runPart 60 = .ok (.iload 4, 2) := by decide +kernel
theorem dX5_runPart_62 : decode cX5_runPart 62 = .ok (.isub, 1) := by decide +kernel
theorem dX5_runPart_63 : decode cX5_runPart 63 = .ok (.invokevirtual 74, 3) := by decide +kernel
theorem dX5_runPart_66 : decode cX5_runPart 66 = .ok (.iload_n 2, 1) := by decide +kernel
theorem dX5_runPart_67 : decode cX5_runPart 67 = .ok (.ifCond .ne 14, 3) := by decide +kernel
theorem dX5_runPart_70 : decode cX5_runPart 70 = .ok (.aload_n 0, 1) := by decide +kernel
theorem dX5_runPart_71 : decode cX5_runPart 71 = .ok (.getfield 36, 3) := by decide +kernel
theorem dX5_runPart_74 : decode cX5_runPart 74 = .ok (.aload_n 0, 1) := by decide +kernel
theorem dX5_runPart_75 : decode cX5_runPart 75 = .ok (.getfield 39, 3) := by decide +kernel
theorem dX5_runPart_78 : decode cX5_runPart 78 = .ok (.invokevirtual 92, 3) := by decide +kernel
theorem dX5_runPart_81 : decode cX5_runPart 81 = .ok (.aload_n 0, 1) := by decide +kernel
theorem dX5_runPart_82 : decode cX5_runPart 82 = .ok (.getfield 39, 3) := by decide +kernel
theorem dX5_runPart_85 : decode cX5_runPart 85 = .ok (.aload_n 0, 1) := by decide +kernel
theorem dX5_runPart_86 : decode cX5_runPart 86 = .ok (.getfield 42, 3) := by decide +kernel
theorem dX5_runPart_89 : decode cX5_runPart 89 = .ok (.invokevirtual 92, 3) := by decide +kernel
theorem dX5_runPart_92 : decode cX5_runPart 92 = .ok (.iload_n 2, 1) := by decide +kernel
theorem dX5_runPart_93 : decode cX5_runPart 93 = .ok (.ifCond .eq 14, 3) := by decide +kernel
theorem dX5_runPart_96 : decode cX5_runPart 96 = .ok (.aload_n 0, 1) := by decide +kernel
theorem dX5_runPart_97 : decode cX5_runPart 97 = .ok (.getfield 36, 3) := by decide +kernel
theorem dX5_runPart_100 : decode cX5_runPart 100 = .ok (.aload_n 0, 1) := by decide +kernel
theorem dX5_runPart_101 : decode cX5_runPart 101 = .ok (.getfield 39, 3) := by decide +kernel
theorem dX5_runPart_104 : decode cX5_runPart 104 = .ok (.invokevirtual 92, 3) := by decide +kernel
theorem dX5_runPart_107 : decode cX5_runPart 107 = .ok (.aload_n 0, 1) := by decide +kernel
theorem dX5_runPart_108 : decode cX5_runPart 108 = .ok (.getfield 36, 3) := by decide +kernel
theorem dX5_runPart_111 : decode cX5_runPart 111 = .ok (.iload 4, 2) := by decide +kernel
theorem dX5_runPart_113 : decode cX5_runPart 113 = .ok (.sipush 128, 3) := by decide +kernel
theorem dX5_runPart_116 : decode cX5_runPart 116 = .ok (.invokevirtual 98, 3) := by decide +kernel
theorem dX5_runPart_119 : decode cX5_runPart 119 = .ok (.aload_n 3, 1) := by decide +kernel
theorem dX5_runPart_120 : decode cX5_runPart 120 = .ok (.aload_n 0, 1) := by decide +kernel
theorem dX5_runPart_121 : decode cX5_runPart 121 = .ok (.getfield 39, 3) := by decide +kernel
theorem dX5_runPart_124 : decode cX5_runPart 124 = .ok (.iload 4, 2) := by decide +kernel
theorem dX5_runPart_126 : decode cX5_runPart 126 = .ok (.invokevirtual 84, 3) := by decide +kernel
theorem dX5_runPart_129 : decode cX5_runPart 129 = .ok (.return_, 1) := by decide +kernel
theorem dX5_addHash_0 : decode cX5_addHash 0 = .ok (.aload_n 0, 1) := by decide +kernel
theorem dX5_addHash_1 : decode cX5_addHash 1 = .ok (.getfield 17, 3) := by decide +kernel
theorem dX5_addHash_4 : decode cX5_addHash 4 = .ok (.getfield 65, 3) := by decide +kernel
theorem dX5_addHash_7 : decode cX5_addHash 7 = .ok (.bipush 15, 2) := by decide +kernel
theorem dX5_addHash_9 : decode cX5_addHash 9 = .ok (.iand, 1) := by decide +kernel
theorem dX5_addHash_10 : decode cX5_addHash 10 = .ok (.istore_n 2, 1) := by decide +kernel
theorem dX5_addHash_11 : decode cX5_addHash 11 = .ok (.aload_n 0, 1) := by decide +kernel
theorem dX5_addHash_12 : decode cX5_addHash 12 = .ok (.getfield 17, 3) := by decide +kernel
theorem dX5_addHash_15 : decode cX5_addHash 15 = .ok (.getfield 65, 3) := by decide +kernel
theorem dX5_addHash_18 : decode cX5_addHash 18 = .ok (.iload_n 2, 1) := by decide +kernel
theorem dX5_addHash_19 : decode cX5_addHash 19 = .ok (.isub, 1) := by decide +kernel
theorem dX5_addHash_20 : decode cX5_addHash 20 = .ok (.istore_n 3, 1) := by decide +kernel
theorem dX5_addHash_21 : decode cX5_addHash 21 = .ok (.aload_n 0, 1) := by decide +kernel
theorem dX5_addHash_22 : decode cX5_addHash 22 = .ok (.getfield 33, 3) := by decide +kernel
theorem dX5_addHash_25 : decode cX5_addHash 25 = .ok (.lconst 0, 1) := by decide +kernel
theorem dX5_addHash_26 : decode cX5_addHash 26 = .ok (.lconst 0, 1) := by decide +kernel
theorem dX5_addHash_27 : decode cX5_addHash 27 = .ok (.invokevirtual 45, 3) := by decide +kernel
theorem dX5_addHash_30 : decode cX5_addHash 30 = .ok (.iconst 0, 1) := by decide +kernel
theorem dX5_addHash_31 : decode cX5_addHash 31 = .ok (.istore 4, 2) := by decide +kernel
theorem dX5_addHash_33 : decode cX5_addHash 33 = .ok (.iload 4, 2) := by decide +kernel
theorem dX5_addHash_35 : decode cX5_addHash 35 = .ok (.iload_n 3, 1) := by decide +kernel
theorem dX5_addHash_36 : decode cX5_addHash 36 = .ok (.if_icmp .ge 62, 3) := by decide +kernel
theorem dX5_addHash_39 : decode cX5_addHash 39 = .ok (.aload_n 0, 1) := by decide +kernel
theorem dX5_addHash_40 : decode cX5_addHash 40 = .ok (.iload 4, 2) := by decide +kernel
theorem dX5_addHash_42 : decode cX5_addHash 42 = .ok (.iconst 4, 1) := by decide +kernel
theorem dX5_addHash_43 : decode cX5_addHash 43 = .ok (.ishr, 1) := by decide +kernel
theorem dX5_addHash_44 : decode cX5_addHash 44 = .ok (.iconst 1, 1) := by decide +kernel
theorem dX5_addHash_45 : decode cX5_addHash 45 = .ok (.iadd, 1) := by decide +kernel
theorem dX5_addHash_46 : decode cX5_addHash 46 = .ok (.invokevirtual 71, 3) := by decide +kernel
theorem dX5_addHash_49 : decode cX5_addHash 49 = .ok (.aload_n 0, 1) := by decide +kernel
theorem dX5_addHash_50 : decode cX5_addHash 50 = .ok (.getfield 39, 3) := by decide +kernel
theorem dX5_addHash_53 : decode cX5_addHash 53 = .ok (.aload_n 0, 1) := by decide +kernel
theorem dX5_addHash_54 : decode cX5_addHash 54 = .ok (.getfield 17, 3) := by decide +kernel
theorem dX5_addHash_57 : decode cX5_addHash 57 = .ok (.iload 4, 2) := by decide +kernel
theorem dX5_addHash_59 : decode cX5_addHash 59 = .ok (.invokevirtual 74, 3) := by decide +kernel
theorem dX5_addHash_62 : decode cX5_addHash 62 = .ok (.aload_n 0, 1) := by decide +kernel
theorem dX5_addHash_63 : decode cX5_addHash 63 = .ok (.getfield 39, 3) := by decide +kernel
theorem dX5_addHash_66 : decode cX5_addHash 66 = .ok (.aload_n 0, 1) := by decide +kernel
theorem dX5_addHash_67 : decode cX5_addHash 67 = .ok (.getfield 33, 3) := by decide +kernel
theorem dX5_addHash_70 : decode cX5_addHash 70 = .ok (.invokevirtual 92, 3) := by decide +kernel
theorem dX5_addHash_73 : decode cX5_addHash 73 = .ok (.aload_n 0, 1) := by decide +kernel
theorem dX5_addHash_74 : decode cX5_addHash 74 = .ok (.getfield 7, 3) := by decide +kernel
theorem dX5_addHash_77 : decode cX5_addHash 77 = .ok (.aload_n 0, 1) := by decide +kernel
theorem dX5_addHash_78 : decode cX5_addHash 78 = .ok (.getfield 39, 3) := by decide +kernel
theorem dX5_addHash_81 : decode cX5_addHash 81 = .ok (.invokevirtual 49, 3) := by decide +kernel
theorem dX5_addHash_84 : decode cX5_addHash 84 = .ok (.aload_n 1, 1) := by decide +kernel
theorem dX5_addHash_85 : decode cX5_addHash 85 = .ok (.aload_n 0, 1) := by decide +kernel
theorem dX5_addHash_86 : decode cX5_addHash 86 = .ok (.getfield 39, 3) := by decide +kernel
theorem dX5_addHash_89 : decode cX5_addHash 89 = .ok (.invokevirtual 92, 3) := by decide +kernel
theorem dX5_addHash_92 : decode cX5_addHash 92 = .ok (.iinc 4 16, 3) := by decide +kernel
theorem dX5_addHash_95 : decode cX5_addHash 95 = .ok (.goto (-62), 3) := by decide +kernel
theorem dX5_addHash_98 : decode cX5_addHash 98 = .ok (.iload_n 2, 1) := by decide +kernel
theorem dX5_addHash_99 : decode cX5_addHash 99 = .ok (.ifCond .eq 67, 3) := by decide +kernel
theorem dX5_addHash_102 : decode cX5_addHash 102 = .ok (.aload_n 0, 1) := by decide +kernel
theorem dX5_addHash_103 : decode cX5_addHash 103 = .ok (.getfield 39, 3) := by decide +kernel
theorem dX5_addHash_106 : decode cX5_addHash 106 = .ok (.aload_n 0, 1) := by decide +kernel
theorem dX5_addHash_107 : decode cX5_addHash 107 = .ok (.getfield 17, 3) := by decide +kernel
theorem dX5_addHash_110 : decode cX5_addHash 110 = .ok (.iload_n 3, 1) := by decide +kernel
theorem dX5_addHash_111 : decode cX5_addHash 111 = .ok (.invokevirtual 74, 3) := by decide +kernel
theorem dX5_addHash_114 : decode cX5_addHash 114 = .ok (.aload_n 0, 1) := by decide +kernel
theorem dX5_addHash_115 : decode cX5_addHash 115 = .ok (.getfield 39, 3) := by decide +kernel
theorem dX5_addHash_118 : decode cX5_addHash 118 = .ok (.iload_n 2, 1) := by decide +kernel
theorem dX5_addHash_119 : decode cX5_addHash 119 = .ok (.sipush 128, 3) := by decide +kernel
theorem dX5_addHash_122 : decode cX5_addHash 122 = .ok (.invokevirtual 98, 3) := by decide +kernel
theorem dX5_addHash_125 : decode cX5_addHash 125 = .ok (.aload_n 0, 1) := by decide +kernel
theorem dX5_addHash_126 : decode cX5_addHash 126 = .ok (.getfield 39, 3) := by decide +kernel
theorem dX5_addHash_129 : decode cX5_addHash 129 = .ok (.aload_n 0, 1) := by decide +kernel
theorem dX5_addHash_130 : decode cX5_addHash 130 = .ok (.getfield 33, 3) := by decide +kernel
theorem dX5_addHash_133 : decode cX5_addHash 133 = .ok (.invokevirtual 92, 3) := by decide +kernel
theorem dX5_addHash_136 : decode cX5_addHash 136 = .ok (.aload_n 0, 1) := by decide +kernel
theorem dX5_addHash_137 : decode cX5_addHash 137 = .ok (.getfield 39, 3) := by decide +kernel
theorem dX5_addHash_140 : decode cX5_addHash 140 = .ok (.aload_n 0, 1) := by decide +kernel
theorem dX5_addHash_141 : decode cX5_addHash 141 = .ok (.getfield 23, 3) := by decide +kernel
theorem dX5_addHash_144 : decode cX5_addHash 144 = .ok (.invokevirtual 92, 3) := by decide +kernel
theorem dX5_addHash_147 : decode cX5_addHash 147 = .ok (.aload_n 0, 1) := by decide +kernel
theorem dX5_addHash_148 : decode cX5_addHash 148 = .ok (.getfield 7, 3) := by decide +kernel
theorem dX5_addHash_151 : decode cX5_addHash 151 = .ok (.aload_n 0, 1) := by decide +kernel
theorem dX5_addHash_152 : decode cX5_addHash 152 = .ok (.getfield 39, 3) := by decide +kernel
theorem dX5_addHash_155 : decode cX5_addHash 155 = .ok (.invokevirtual 49, 3) := by decide +kernel
theorem dX5_addHash_158 : decode cX5_addHash 158 = .ok (.aload_n 1, 1) := by decide +kernel
theorem dX5_addHash_159 : decode cX5_addHash 159 = .ok (.aload_n 0, 1) := by decide +kernel
theorem dX5_addHash_160 : decode cX5_addHash 160 = .ok (.getfield 39, 3) := by decide +kernel
theorem dX5_addHash_163 : decode cX5_addHash 163 = .ok (.invokevirtual 92, 3) := by decide +kernel
theorem dX5_addHash_166 : decode cX5_addHash 166 = .ok (.return_, 1) := by decide +kernel

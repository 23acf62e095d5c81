theorem dX12_openBlock_96 : decode cX12_openBlock 96 = .ok (.bipush 16, 2) := by decide +kernel
theorem dX12_openBlock_98 : decode cX12_openBlock 98 = .ok (.irem, 1) := by decide +kernel
theorem dX12_openBlock_99 : decode cX12_openBlock 99 = .ok (.aload_n 0, 1) := by decide +kernel
theorem dX12_openBlock_100 : decode cX12_openBlock 100 = .ok (.getfield 26, 3) := by decide +kernel
theorem dX12_openBlock_103 : decode cX12_openBlock 103 = .ok (.aload_n 0, 1) := by decide +kernel
theorem dX12_openBlock_104 : decode cX12_openBlock 104 = .ok (.getfield 35, 3) := by decide +kernel
theorem dX12_openBlock_107 : decode cX12_openBlock 107 = .ok (.iload 5, 2) := by decide +kernel
theorem dX12_openBlock_109 : decode cX12_openBlock 109 = .ok (.iaload, 1) := by decide +kernel
theorem dX12_openBlock_110 : decode cX12_openBlock 110 = .ok (.iaload, 1) := by decide +kernel
theorem dX12_openBlock_111 : decode cX12_openBlock 111 = .ok (.iastore, 1) := by decide +kernel
theorem dX12_openBlock_112 : decode cX12_openBlock 112 = .ok (.iinc 5 1, 3) := by decide +kernel
theorem dX12_openBlock_115 : decode cX12_openBlock 115 = .ok (.goto (-39), 3) := by decide +kernel
theorem dX12_openBlock_118 : decode cX12_openBlock 118 = .ok (.iconst 0, 1) := by decide +kernel
theorem dX12_openBlock_119 : decode cX12_openBlock 119 = .ok (.istore 5, 2) := by decide +kernel
theorem dX12_openBlock_121 : decode cX12_openBlock 121 = .ok (.iload 5, 2) := by decide +kernel
theorem dX12_openBlock_123 : decode cX12_openBlock 123 = .ok (.bipush 16, 2) := by decide +kernel
theorem dX12_openBlock_125 : decode cX12_openBlock 125 = .ok (.if_icmp .ge 23, 3) := by decide +kernel
theorem dX12_openBlock_128 : decode cX12_openBlock 128 = .ok (.aload_n 0, 1) := by decide +kernel
theorem dX12_openBlock_129 : decode cX12_openBlock 129 = .ok (.getfield 35, 3) := by decide +kernel
theorem dX12_openBlock_132 : decode cX12_openBlock 132 = .ok (.iload 5, 2) := by decide +kernel
theorem dX12_openBlock_134 : decode cX12_openBlock 134 = .ok (.aload_n 0, 1) := by decide +kernel
theorem dX12_openBlock_135 : decode cX12_openBlock 135 = .ok (.getfield 38, 3) := by decide +kernel
theorem dX12_openBlock_138 : decode cX12_openBlock 138 = .ok (.iload 5, 2) := by decide +kernel
theorem dX12_openBlock_140 : decode cX12_openBlock 140 = .ok (.iaload, 1) := by decide +kernel
theorem dX12_openBlock_141 : decode cX12_openBlock 141 = .ok (.iastore, 1) := by decide +kernel
theorem dX12_openBlock_142 : decode cX12_openBlock 142 = .ok (.iinc 5 1, 3) := by decide +kernel
theorem dX12_openBlock_145 : decode cX12_openBlock 145 = .ok (.goto (-24), 3) := by decide +kernel
theorem dX12_openBlock_148 : decode cX12_openBlock 148 = .ok (.iinc 4 (-1), 3) := by decide +kernel
theorem dX12_openBlock_151 : decode cX12_openBlock 151 = .ok (.goto (-114), 3) := by decide +kernel
theorem dX12_openBlock_154 : decode cX12_openBlock 154 = .ok (.aload_n 0, 1) := by decide +kernel
theorem dX12_openBlock_155 : decode cX12_openBlock 155 = .ok (.iload_n 1, 1) := by decide +kernel
theorem dX12_openBlock_156 : decode cX12_openBlock 156 = .ok (.iconst 0, 1) := by decide +kernel
theorem dX12_openBlock_157 : decode cX12_openBlock 157 = .ok (.invokevirtual 122, 3) := by decide +kernel
theorem dX12_openBlock_160 : decode cX12_openBlock 160 = .ok (.iconst 0, 1) := by decide +kernel
theorem dX12_openBlock_161 : decode cX12_openBlock 161 = .ok (.istore 4, 2) := by decide +kernel
theorem dX12_openBlock_163 : decode cX12_openBlock 163 = .ok (.iload 4, 2) := by decide +kernel
theorem dX12_openBlock_165 : decode cX12_openBlock 165 = .ok (.bipush 16, 2) := by decide +kernel
theorem dX12_openBlock_167 : decode cX12_openBlock 167 = .ok (.if_icmp .ge 22, 3) := by decide +kernel
theorem dX12_openBlock_170 : decode cX12_openBlock 170 = .ok (.aload_n 2, 1) := by decide +kernel
theorem dX12_openBlock_171 : decode cX12_openBlock 171 = .ok (.iload_n 3, 1) := by decide +kernel
theorem dX12_openBlock_172 : decode cX12_openBlock 172 = .ok (.iload 4, 2) := by decide +kernel
theorem dX12_openBlock_174 : decode cX12_openBlock 174 = .ok (.iadd, 1) := by decide +kernel
theorem dX12_openBlock_175 : decode cX12_openBlock 175 = .ok (.aload_n 0, 1) := by decide +kernel
theorem dX12_openBlock_176 : decode cX12_openBlock 176 = .ok (.getfield 35, 3) := by decide +kernel
theorem dX12_openBlock_179 : decode cX12_openBlock 179 = .ok (.iload 4, 2) := by decide +kernel
theorem dX12_openBlock_181 : decode cX12_openBlock 181 = .ok (.iaload, 1) := by decide +kernel
theorem dX12_openBlock_182 : decode cX12_openBlock 182 = .ok (.iastore, 1) := by decide +kernel
theorem dX12_openBlock_183 : decode cX12_openBlock 183 = .ok (.iinc 4 1, 3) := by decide +kernel
theorem dX12_openBlock_186 : decode cX12_openBlock 186 = .ok (.goto (-23), 3) := by decide +kernel
theorem dX12_openBlock_189 : decode cX12_openBlock 189 = .ok (.return_, 1) := by decide +kernel
theorem dX12_copy_0 : decode cX12_copy 0 = .ok (.iconst 0, 1) := by decide +kernel
theorem dX12_copy_1 : decode cX12_copy 1 = .ok (.istore 5, 2) := by decide +kernel
theorem dX12_copy_3 : decode cX12_copy 3 = .ok (.iload 5, 2) := by decide +kernel
theorem dX12_copy_5 : decode cX12_copy 5 = .ok (.iload 4, 2) := by decide +kernel
theorem dX12_copy_7 : decode cX12_copy 7 = .ok (.if_icmp .ge 21, 3) := by decide +kernel
theorem dX12_copy_10 : decode cX12_copy 10 = .ok (.aload_n 2, 1) := by decide +kernel
theorem dX12_copy_11 : decode cX12_copy 11 = .ok (.iload_n 3, 1) := by decide +kernel
theorem dX12_copy_12 : decode cX12_copy 12 = .ok (.iload 5, 2) := by decide +kernel
theorem dX12_copy_14 : decode cX12_copy 14 = .ok (.iadd, 1) := by decide +kernel
theorem dX12_copy_15 : decode cX12_copy 15 = .ok (.aload_n 0, 1) := by decide +kernel
theorem dX12_copy_16 : decode cX12_copy 16 = .ok (.iload_n 1, 1) := by decide +kernel
theorem dX12_copy_17 : decode cX12_copy 17 = .ok (.iload 5, 2) := by decide +kernel
theorem dX12_copy_19 : decode cX12_copy 19 = .ok (.iadd, 1) := by decide +kernel
theorem dX12_copy_20 : decode cX12_copy 20 = .ok (.iaload, 1) := by decide +kernel
theorem dX12_copy_21 : decode cX12_copy 21 = .ok (.iastore, 1) := by decide +kernel
theorem dX12_copy_22 : decode cX12_copy 22 = .ok (.iinc 5 1, 3) := by decide +kernel
theorem dX12_copy_25 : decode cX12_copy 25 = .ok (.goto (-22), 3) := by decide +kernel
theorem dX12_copy_28 : decode cX12_copy 28 = .ok (.return_, 1) := by decide +kernel
theorem dX12_add_0 : decode cX12_add 0 = .ok (.iconst 0, 1) := by decide +kernel
theorem dX12_add_1 : decode cX12_add 1 = .ok (.istore 5, 2) := by decide +kernel
theorem dX12_add_3 : decode cX12_add 3 = .ok (.iload 5, 2) := by decide +kernel
theorem dX12_add_5 : decode cX12_add 5 = .ok (.iload 4, 2) := by decide +kernel
theorem dX12_add_7 : decode cX12_add 7 = .ok (.if_icmp .ge 24, 3) := by decide +kernel
theorem dX12_add_10 : decode cX12_add 10 = .ok (.aload_n 2, 1) := by decide +kernel
theorem dX12_add_11 : decode cX12_add 11 = .ok (.iload_n 3, 1) := by decide +kernel
theorem dX12_add_12 : decode cX12_add 12 = .ok (.iload 5, 2) := by decide +kernel
theorem dX12_add_14 : decode cX12_add 14 = .ok (.iadd, 1) := by decide +kernel
theorem dX12_add_15 : decode cX12_add 15 = .ok (.dup2, 1) := by decide +kernel
theorem dX12_add_16 : decode cX12_add 16 = .ok (.iaload, 1) := by decide +kernel
theorem dX12_add_17 : decode cX12_add 17 = .ok (.aload_n 0, 1) := by decide +kernel
theorem dX12_add_18 : decode cX12_add 18 = .ok (.iload_n 1, 1) := by decide +kernel
theorem dX12_add_19 : decode cX12_add 19 = .ok (.iload 5, 2) := by decide +kernel
theorem dX12_add_21 : decode cX12_add 21 = .ok (.iadd, 1) := by decide +kernel
theorem dX12_add_22 : decode cX12_add 22 = .ok (.iaload, 1) := by decide +kernel
theorem dX12_add_23 : decode cX12_add 23 = .ok (.ixor, 1) := by decide +kernel
theorem dX12_add_24 : decode cX12_add 24 = .ok (.iastore, 1) := by decide +kernel
theorem dX12_add_25 : decode cX12_add 25 = .ok (.iinc 5 1, 3) := by decide +kernel
theorem dX12_add_28 : decode cX12_add 28 = .ok (.goto (-25), 3) := by decide +kernel
theorem dX12_add_31 : decode cX12_add 31 = .ok (.return_, 1) := by decide +kernel
theorem dX12_clear_0 : decode cX12_clear 0 = .ok (.iload_n 1, 1) := by decide +kernel
theorem dX12_clear_1 : decode cX12_clear 1 = .ok (.istore_n 3, 1) := by decide +kernel
theorem dX12_clear_2 : decode cX12_clear 2 = .ok (.iload_n 3, 1) := by decide +kernel
theorem dX12_clear_3 : decode cX12_clear 3 = .ok (.iload_n 2, 1) := by decide +kernel
theorem dX12_clear_4 : decode cX12_clear 4 = .ok (.if_icmp .ge 13, 3) := by decide +kernel
theorem dX12_clear_7 : decode cX12_clear 7 = .ok (.aload_n 0, 1) := by decide +kernel
theorem dX12_clear_8 : decode cX12_clear 8 = .ok (.iload_n 3, 1) := by decide +kernel
theorem dX12_clear_9 : decode cX12_clear 9 = .ok (.iconst 0, 1) := by decide +kernel
theorem dX12_clear_10 : decode cX12_clear 10 = .ok (.iastore, 1) := by decide +kernel
theorem dX12_clear_11 : decode cX12_clear 11 = .ok (.iinc 3 1, 3) := by decide +kernel
theorem dX12_clear_14 : decode cX12_clear 14 = .ok (.goto (-12), 3) := by decide +kernel
theorem dX12_clear_17 : decode cX12_clear 17 = .ok (.return_, 1) := by decide +kernel
theorem dX12_doubled_0 : decode cX12_doubled 0 = .ok (.aload_n 0, 1) := by decide +kernel
theorem dX12_doubled_1 : decode cX12_doubled 1 = .ok (.iconst 0, 1) := by decide +kernel
theorem dX12_doubled_2 : decode cX12_doubled 2 = .ok (.iaload, 1) := by decide +kernel
theorem dX12_doubled_3 : decode cX12_doubled 3 = .ok (.bipush 7, 2) := by decide +kernel
theorem dX12_doubled_5 : decode cX12_doubled 5 = .ok (.ishr, 1) := by decide +kernel
theorem dX12_doubled_6 : decode cX12_doubled 6 = .ok (.istore_n 1, 1) := by decide +kernel
theorem dX12_doubled_7 : decode cX12_doubled 7 = .ok (.iconst 0, 1) := by decide +kernel
theorem dX12_doubled_8 : decode cX12_doubled 8 = .ok (.istore_n 2, 1) := by decide +kernel
theorem dX12_doubled_9 : decode cX12_doubled 9 = .ok (.iload_n 2, 1) := by decide +kernel
theorem dX12_doubled_10 : decode cX12_doubled 10 = .ok (.bipush 16, 2) := by decide +kernel
theorem dX12_doubled_12 : decode cX12_doubled 12 = .ok (.if_icmp .ge 40, 3) := by decide +kernel
theorem dX12_doubled_15 : decode cX12_doubled 15 = .ok (.aload_n 0, 1) := by decide +kernel
theorem dX12_doubled_16 : decode cX12_doubled 16 = .ok (.iload_n 2, 1) := by decide +kernel
theorem dX12_doubled_17 : decode cX12_doubled 17 = .ok (.aload_n 0, 1) := by decide +kernel
theorem dX12_doubled_18 : decode cX12_doubled 18 = .ok (.iload_n 2, 1) := by decide +kernel
theorem dX12_doubled_19 : decode cX12_doubled 19 = .ok (.iaload, 1) := by decide +kernel
theorem dX12_doubled_20 : decode cX12_doubled 20 = .ok (.iconst 1, 1) := by decide +kernel
theorem dX12_doubled_21 : decode cX12_doubled 21 = .ok (.ishl, 1) := by decide +kernel
theorem dX12_doubled_22 : decode cX12_doubled 22 = .ok (.iload_n 2, 1) := by decide +kernel
theorem dX12_doubled_23 : decode cX12_doubled 23 = .ok (.bipush 15, 2) := by decide +kernel
theorem dX12_doubled_25 : decode cX12_doubled 25 = .ok (.if_icmp .ge 14, 3) := by decide +kernel
theorem dX12_doubled_28 : decode cX12_doubled 28 = .ok (.aload_n 0, 1) := by decide +kernel
theorem dX12_doubled_29 : decode cX12_doubled 29 = .ok (.iload_n 2, 1) := by decide +kernel
theorem dX12_doubled_30 : decode cX12_doubled 30 = .ok (.iconst 1, 1) := by decide +kernel
theorem dX12_doubled_31 : decode cX12_doubled 31 = .ok (.iadd, 1) := by decide +kernel
theorem dX12_doubled_32 : decode cX12_doubled 32 = .ok (.iaload, 1) := by decide +kernel
theorem dX12_doubled_33 : decode cX12_doubled 33 = .ok (.bipush 7, 2) := by decide +kernel
theorem dX12_doubled_35 : decode cX12_doubled 35 = .ok (.ishr, 1) := by decide +kernel
theorem dX12_doubled_36 : decode cX12_doubled 36 = .ok (.goto 4, 3) := by decide +kernel
theorem dX12_doubled_39 : decode cX12_doubled 39 = .ok (.iconst 0, 1) := by decide +kernel
theorem dX12_doubled_40 : decode cX12_doubled 40 = .ok (.ior, 1) := by decide +kernel
theorem dX12_doubled_41 : decode cX12_doubled 41 = .ok (.sipush 255, 3) := by decide +kernel
theorem dX12_doubled_44 : decode cX12_doubled 44 = .ok (.iand, 1) := by decide +kernel
theorem dX12_doubled_45 : decode cX12_doubled 45 = .ok (.iastore, 1) := by decide +kernel
theorem dX12_doubled_46 : decode cX12_doubled 46 = .ok (.iinc 2 1, 3) := by decide +kernel
theorem dX12_doubled_49 : decode cX12_doubled 49 = .ok (.goto (-40), 3) := by decide +kernel
theorem dX12_doubled_52 : decode cX12_doubled 52 = .ok (.aload_n 0, 1) := by decide +kernel
theorem dX12_doubled_53 : decode cX12_doubled 53 = .ok (.bipush 15, 2) := by decide +kernel
theorem dX12_doubled_55 : decode cX12_doubled 55 = .ok (.dup2, 1) := by decide +kernel
theorem dX12_doubled_56 : decode cX12_doubled 56 = .ok (.iaload, 1) := by decide +kernel
theorem dX12_doubled_57 : decode cX12_doubled 57 = .ok (.iload_n 1, 1) := by decide +kernel
theorem dX12_doubled_58 : decode cX12_doubled 58 = .ok (.sipush 135, 3) := by decide +kernel
theorem dX12_doubled_61 : decode cX12_doubled 61 = .ok (.imul, 1) := by decide +kernel
theorem dX12_doubled_62 : decode cX12_doubled 62 = .ok (.ixor, 1) := by decide +kernel
theorem dX12_doubled_63 : decode cX12_doubled 63 = .ok (.iastore, 1) := by decide +kernel
theorem dX12_doubled_64 : decode cX12_doubled 64 = .ok (.return_, 1) := by decide +kernel
theorem dX12_oneMore_0 : decode cX12_oneMore 0 = .ok (.bipush 15, 2) := by decide +kernel
theorem dX12_oneMore_2 : decode cX12_oneMore 2 = .ok (.istore_n 2, 1) := by decide +kernel
theorem dX12_oneMore_3 : decode cX12_oneMore 3 = .ok (.iconst 1, 1) := by decide +kernel
theorem dX12_oneMore_4 : decode cX12_oneMore 4 = .ok (.istore_n 3, 1) := by decide +kernel
theorem dX12_oneMore_5 : decode cX12_oneMore 5 = .ok (.iload_n 3, 1) := by decide +kernel
theorem dX12_oneMore_6 : decode cX12_oneMore 6 = .ok (.ifCond .eq 38, 3) := by decide +kernel
theorem dX12_oneMore_9 : decode cX12_oneMore 9 = .ok (.iload_n 2, 1) := by decide +kernel
theorem dX12_oneMore_10 : decode cX12_oneMore 10 = .ok (.iload_n 1, 1) := by decide +kernel
theorem dX12_oneMore_11 : decode cX12_oneMore 11 = .ok (.if_icmp .lt 33, 3) := by decide +kernel
theorem dX12_oneMore_14 : decode cX12_oneMore 14 = .ok (.aload_n 0, 1) := by decide +kernel
theorem dX12_oneMore_15 : decode cX12_oneMore 15 = .ok (.iload_n 2, 1) := by decide +kernel
theorem dX12_oneMore_16 : decode cX12_oneMore 16 = .ok (.aload_n 0, 1) := by decide +kernel
theorem dX12_oneMore_17 : decode cX12_oneMore 17 = .ok (.iload_n 2, 1) := by decide +kernel
theorem dX12_oneMore_18 : decode cX12_oneMore 18 = .ok (.iaload, 1) := by decide +kernel
theorem dX12_oneMore_19 : decode cX12_oneMore 19 = .ok (.iconst 1, 1) := by decide +kernel
theorem dX12_oneMore_20 : decode cX12_oneMore 20 = .ok (.iadd, 1) := by decide +kernel
theorem dX12_oneMore_21 : decode cX12_oneMore 21 = .ok (.sipush 255, 3) := by decide +kernel
theorem dX12_oneMore_24 : decode cX12_oneMore 24 = .ok (.iand, 1) := by decide +kernel
theorem dX12_oneMore_25 : decode cX12_oneMore 25 = .ok (.iastore, 1) := by decide +kernel
theorem dX12_oneMore_26 : decode cX12_oneMore 26 = .ok (.aload_n 0, 1) := by decide +kernel
theorem dX12_oneMore_27 : decode cX12_oneMore 27 = .ok (.iload_n 2, 1) := by decide +kernel
theorem dX12_oneMore_28 : decode cX12_oneMore 28 = .ok (.iaload, 1) := by decide +kernel
theorem dX12_oneMore_29 : decode cX12_oneMore 29 = .ok (.ifCond .ne 7, 3) := by decide +kernel
theorem dX12_oneMore_32 : decode cX12_oneMore 32 = .ok (.iconst 1, 1) := by decide +kernel
theorem dX12_oneMore_33 : decode cX12_oneMore 33 = .ok (.goto 4, 3) := by decide +kernel
theorem dX12_oneMore_36 : decode cX12_oneMore 36 = .ok (.iconst 0, 1) := by decide +kernel
theorem dX12_oneMore_37 : decode cX12_oneMore 37 = .ok (.istore_n 3, 1) := by decide +kernel
theorem dX12_oneMore_38 : decode cX12_oneMore 38 = .ok (.iinc 2 (-1), 3) := by decide +kernel
theorem dX12_oneMore_41 : decode cX12_oneMore 41 = .ok (.goto (-36), 3) := by decide +kernel
theorem dX12_oneMore_44 : decode cX12_oneMore 44 = .ok (.return_, 1) := by decide +kernel
theorem dX12_load_0 : decode cX12_load 0 = .ok (.aload_n 0, 1) := by decide +kernel
theorem dX12_load_1 : decode cX12_load 1 = .ok (.aload_n 0, 1) := by decide +kernel
theorem dX12_load_2 : decode cX12_load 2 = .ok (.getfield 13, 3) := by decide +kernel
theorem dX12_load_5 : decode cX12_load 5 = .ok (.iconst 1, 1) := by decide +kernel
theorem dX12_load_6 : decode cX12_load 6 = .ok (.iaload, 1) := by decide +kernel
theorem dX12_load_7 : decode cX12_load 7 = .ok (.putfield 130, 3) := by decide +kernel
theorem dX12_load_10 : decode cX12_load 10 = .ok (.aload_n 0, 1) := by decide +kernel
theorem dX12_load_11 : decode cX12_load 11 = .ok (.getfield 7, 3) := by decide +kernel
theorem dX12_load_14 : decode cX12_load 14 = .ok (.sipush 512, 3) := by decide +kernel
theorem dX12_load_17 : decode cX12_load 17 = .ok (.aload_n 0, 1) := by decide +kernel
theorem dX12_load_18 : decode cX12_load 18 = .ok (.getfield 41, 3) := by decide +kernel
theorem dX12_load_21 : decode cX12_load 21 = .ok (.iconst 0, 1) := by decide +kernel
theorem dX12_load_22 : decode cX12_load 22 = .ok (.aload_n 0, 1) := by decide +kernel
theorem dX12_load_23 : decode cX12_load 23 = .ok (.getfield 130, 3) := by decide +kernel
theorem dX12_load_26 : decode cX12_load 26 = .ok (.invokestatic 133, 3) := by decide +kernel
theorem dX12_load_29 : decode cX12_load 29 = .ok (.aload_n 0, 1) := by decide +kernel
theorem dX12_load_30 : decode cX12_load 30 = .ok (.aload_n 0, 1) := by decide +kernel
theorem dX12_load_31 : decode cX12_load 31 = .ok (.getfield 13, 3) := by decide +kernel
theorem dX12_load_34 : decode cX12_load 34 = .ok (.iconst 2, 1) := by decide +kernel
theorem dX12_load_35 : decode cX12_load 35 = .ok (.iaload, 1) := by decide +kernel
theorem dX12_load_36 : decode cX12_load 36 = .ok (.putfield 137, 3) := by decide +kernel
theorem dX12_load_39 : decode cX12_load 39 = .ok (.aload_n 0, 1) := by decide +kernel
theorem dX12_load_40 : decode cX12_load 40 = .ok (.getfield 7, 3) := by decide +kernel
theorem dX12_load_43 : decode cX12_load 43 = .ok (.sipush 1024, 3) := by decide +kernel
theorem dX12_load_46 : decode cX12_load 46 = .ok (.aload_n 0, 1) := by decide +kernel
theorem dX12_load_47 : decode cX12_load 47 = .ok (.getfield 47, 3) := by decide +kernel
theorem dX12_load_50 : decode cX12_load 50 = .ok (.iconst 0, 1) := by decide +kernel
theorem dX12_load_51 : decode cX12_load 51 = .ok (.aload_n 0, 1) := by decide +kernel
theorem dX12_load_52 : decode cX12_load 52 = .ok (.getfield 137, 3) := by decide +kernel
theorem dX12_load_55 : decode cX12_load 55 = .ok (.invokestatic 133, 3) := by decide +kernel
theorem dX12_load_58 : decode cX12_load 58 = .ok (.aload_n 0, 1) := by decide +kernel
theorem dX12_load_59 : decode cX12_load 59 = .ok (.aload_n 0, 1) := by decide +kernel
theorem dX12_load_60 : decode cX12_load 60 = .ok (.getfield 13, 3) := by decide +kernel
theorem dX12_load_63 : decode cX12_load 63 = .ok (.iconst 3, 1) := by decide +kernel
theorem dX12_load_64 : decode cX12_load 64 = .ok (.iaload, 1) := by decide +kernel
theorem dX12_load_65 : decode cX12_load 65 = .ok (.putfield 140, 3) := by decide +kernel
theorem dX12_load_68 : decode cX12_load 68 = .ok (.aload_n 0, 1) := by decide +kernel
theorem dX12_load_69 : decode cX12_load 69 = .ok (.getfield 7, 3) := by decide +kernel
theorem dX12_load_72 : decode cX12_load 72 = .ok (.sipush 1536, 3) := by decide +kernel
theorem dX12_load_75 : decode cX12_load 75 = .ok (.aload_n 0, 1) := by decide +kernel
theorem dX12_load_76 : decode cX12_load 76 = .ok (.getfield 50, 3) := by decide +kernel
theorem dX12_load_79 : decode cX12_load 79 = .ok (.iconst 0, 1) := by decide +kernel
theorem dX12_load_80 : decode cX12_load 80 = .ok (.aload_n 0, 1) := by decide +kernel
theorem dX12_load_81 : decode cX12_load 81 = .ok (.getfield 140, 3) := by decide +kernel
theorem dX12_load_84 : decode cX12_load 84 = .ok (.invokestatic 133, 3) := by decide +kernel
theorem dX12_load_87 : decode cX12_load 87 = .ok (.return_, 1) := by decide +kernel
theorem dX12_chain_0 : decode cX12_chain 0 = .ok (.iconst 0, 1) := by decide +kernel
theorem dX12_chain_1 : decode cX12_chain 1 = .ok (.istore 4, 2) := by decide +kernel
theorem dX12_chain_3 : decode cX12_chain 3 = .ok (.iload 4, 2) := by decide +kernel
theorem dX12_chain_5 : decode cX12_chain 5 = .ok (.iload_n 3, 1) := by decide +kernel
theorem dX12_chain_6 : decode cX12_chain 6 = .ok (.if_icmp .ge 67, 3) := by decide +kernel
theorem dX12_chain_9 : decode cX12_chain 9 = .ok (.aload_n 0, 1) := by decide +kernel
theorem dX12_chain_10 : decode cX12_chain 10 = .ok (.getfield 53, 3) := by decide +kernel
theorem dX12_chain_13 : decode cX12_chain 13 = .ok (.iconst 0, 1) := by decide +kernel
theorem dX12_chain_14 : decode cX12_chain 14 = .ok (.aload_n 0, 1) := by decide +kernel
theorem dX12_chain_15 : decode cX12_chain 15 = .ok (.getfield 44, 3) := by decide +kernel
theorem dX12_chain_18 : decode cX12_chain 18 = .ok (.iload_n 2, 1) := by decide +kernel
theorem dX12_chain_19 : decode cX12_chain 19 = .ok (.bipush 16, 2) := by decide +kernel
theorem dX12_chain_21 : decode cX12_chain 21 = .ok (.iload 4, 2) := by decide +kernel
theorem dX12_chain_23 : decode cX12_chain 23 = .ok (.imul, 1) := by decide +kernel
theorem dX12_chain_24 : decode cX12_chain 24 = .ok (.iadd, 1) := by decide +kernel
theorem dX12_chain_25 : decode cX12_chain 25 = .ok (.bipush 16, 2) := by decide +kernel
theorem dX12_chain_27 : decode cX12_chain 27 = .ok (.invokestatic 143, 3) := by decide +kernel
theorem dX12_chain_30 : decode cX12_chain 30 = .ok (.aload_n 0, 1) := by decide +kernel
theorem dX12_chain_31 : decode cX12_chain 31 = .ok (.iload_n 1, 1) := by decide +kernel
theorem dX12_chain_32 : decode cX12_chain 32 = .ok (.aload_n 0, 1) := by decide +kernel
theorem dX12_chain_33 : decode cX12_chain 33 = .ok (.getfield 44, 3) := by decide +kernel
theorem dX12_chain_36 : decode cX12_chain 36 = .ok (.iload_n 2, 1) := by decide +kernel
theorem dX12_chain_37 : decode cX12_chain 37 = .ok (.bipush 16, 2) := by decide +kernel
theorem dX12_chain_39 : decode cX12_chain 39 = .ok (.iload 4, 2) := by decide +kernel
theorem dX12_chain_41 : decode cX12_chain 41 = .ok (.imul, 1) := by decide +kernel
theorem dX12_chain_42 : decode cX12_chain 42 = .ok (.iadd, 1) := by decide +kernel
theorem dX12_chain_43 : decode cX12_chain 43 = .ok (.invokevirtual 146, 3) := by decide +kernel
theorem dX12_chain_46 : decode cX12_chain 46 = .ok (.aload_n 0, 1) := by decide +kernel
theorem dX12_chain_47 : decode cX12_chain 47 = .ok (.getfield 44, 3) := by decide +kernel
theorem dX12_chain_50 : decode cX12_chain 50 = .ok (.iload_n 2, 1) := by decide +kernel
theorem dX12_chain_51 : decode cX12_chain 51 = .ok (.bipush 16, 2) := by decide +kernel
theorem dX12_chain_53 : decode cX12_chain 53 = .ok (.iload 4, 2) := by decide +kernel
theorem dX12_chain_55 : decode cX12_chain 55 = .ok (.imul, 1) := by decide +kernel
theorem dX12_chain_56 : decode cX12_chain 56 = .ok (.iadd, 1) := by decide +kernel
theorem dX12_chain_57 : decode cX12_chain 57 = .ok (.aload_n 0, 1) := by decide +kernel
theorem dX12_chain_58 : decode cX12_chain 58 = .ok (.getfield 53, 3) := by decide +kernel
theorem dX12_chain_61 : decode cX12_chain 61 = .ok (.iconst 0, 1) := by decide +kernel
theorem dX12_chain_62 : decode cX12_chain 62 = .ok (.bipush 16, 2) := by decide +kernel
theorem dX12_chain_64 : decode cX12_chain 64 = .ok (.invokestatic 133, 3) := by decide +kernel
theorem dX12_chain_67 : decode cX12_chain 67 = .ok (.iinc 4 1, 3) := by decide +kernel
theorem dX12_chain_70 : decode cX12_chain 70 = .ok (.goto (-67), 3) := by decide +kernel
theorem dX12_chain_73 : decode cX12_chain 73 = .ok (.return_, 1) := by decide +kernel
theorem dX12_unchain_0 : decode cX12_unchain 0 = .ok (.iconst 0, 1) := by decide +kernel
theorem dX12_unchain_1 : decode cX12_unchain 1 = .ok (.istore_n 2, 1) := by decide +kernel
theorem dX12_unchain_2 : decode cX12_unchain 2 = .ok (.iload_n 2, 1) := by decide +kernel
theorem dX12_unchain_3 : decode cX12_unchain 3 = .ok (.iload_n 1, 1) := by decide +kernel
theorem dX12_unchain_4 : decode cX12_unchain 4 = .ok (.if_icmp .ge 79, 3) := by decide +kernel
theorem dX12_unchain_7 : decode cX12_unchain 7 = .ok (.aload_n 0, 1) := by decide +kernel
theorem dX12_unchain_8 : decode cX12_unchain 8 = .ok (.getfield 41, 3) := by decide +kernel
theorem dX12_unchain_11 : decode cX12_unchain 11 = .ok (.bipush 16, 2) := by decide +kernel
theorem dX12_unchain_13 : decode cX12_unchain 13 = .ok (.iload_n 2, 1) := by decide +kernel
theorem dX12_unchain_14 : decode cX12_unchain 14 = .ok (.imul, 1) := by decide +kernel
theorem dX12_unchain_15 : decode cX12_unchain 15 = .ok (.aload_n 0, 1) := by decide +kernel
theorem dX12_unchain_16 : decode cX12_unchain 16 = .ok (.getfield 44, 3) := by decide +kernel
theorem dX12_unchain_19 : decode cX12_unchain 19 = .ok (.bipush 16, 2) := by decide +kernel
theorem dX12_unchain_21 : decode cX12_unchain 21 = .ok (.iload_n 2, 1) := by decide +kernel
theorem dX12_unchain_22 : decode cX12_unchain 22 = .ok (.imul, 1) := by decide +kernel
theorem dX12_unchain_23 : decode cX12_unchain 23 = .ok (.bipush 16, 2) := by decide +kernel
theorem dX12_unchain_25 : decode cX12_unchain 25 = .ok (.invokestatic 133, 3) := by decide +kernel
theorem dX12_unchain_28 : decode cX12_unchain 28 = .ok (.aload_n 0, 1) := by decide +kernel
theorem dX12_unchain_29 : decode cX12_unchain 29 = .ok (.iconst 0, 1) := by decide +kernel
theorem dX12_unchain_30 : decode cX12_unchain 30 = .ok (.aload_n 0, 1) := by decide +kernel
theorem dX12_unchain_31 : decode cX12_unchain 31 = .ok (.getfield 44, 3) := by decide +kernel
theorem dX12_unchain_34 : decode cX12_unchain 34 = .ok (.bipush 16, 2) := by decide +kernel
theorem dX12_unchain_36 : decode cX12_unchain 36 = .ok (.iload_n 2, 1) := by decide +kernel
theorem dX12_unchain_37 : decode cX12_unchain 37 = .ok (.imul, 1) := by decide +kernel
theorem dX12_unchain_38 : decode cX12_unchain 38 = .ok (.invokevirtual 150, 3) := by decide +kernel
theorem dX12_unchain_41 : decode cX12_unchain 41 = .ok (.aload_n 0, 1) := by decide +kernel
theorem dX12_unchain_42 : decode cX12_unchain 42 = .ok (.getfield 53, 3) := by decide +kernel
theorem dX12_unchain_45 : decode cX12_unchain 45 = .ok (.iconst 0, 1) := by decide +kernel
theorem dX12_unchain_46 : decode cX12_unchain 46 = .ok (.aload_n 0, 1) := by decide +kernel
theorem dX12_unchain_47 : decode cX12_unchain 47 = .ok (.getfield 44, 3) := by decide +kernel
theorem dX12_unchain_50 : decode cX12_unchain 50 = .ok (.bipush 16, 2) := by decide +kernel
theorem dX12_unchain_52 : decode cX12_unchain 52 = .ok (.iload_n 2, 1) := by decide +kernel
theorem dX12_unchain_53 : decode cX12_unchain 53 = .ok (.imul, 1) := by decide +kernel
theorem dX12_unchain_54 : decode cX12_unchain 54 = .ok (.bipush 16, 2) := by decide +kernel
theorem dX12_unchain_56 : decode cX12_unchain 56 = .ok (.invokestatic 143, 3) := by decide +kernel
theorem dX12_unchain_59 : decode cX12_unchain 59 = .ok (.aload_n 0, 1) := by decide +kernel
theorem dX12_unchain_60 : decode cX12_unchain 60 = .ok (.getfield 41, 3) := by decide +kernel
theorem dX12_unchain_63 : decode cX12_unchain 63 = .ok (.bipush 16, 2) := by decide +kernel
theorem dX12_unchain_65 : decode cX12_unchain 65 = .ok (.iload_n 2, 1) := by decide +kernel
theorem dX12_unchain_66 : decode cX12_unchain 66 = .ok (.imul, 1) := by decide +kernel
theorem dX12_unchain_67 : decode cX12_unchain 67 = .ok (.aload_n 0, 1) := by decide +kernel
theorem dX12_unchain_68 : decode cX12_unchain 68 = .ok (.getfield 53, 3) := by decide +kernel
theorem dX12_unchain_71 : decode cX12_unchain 71 = .ok (.iconst 0, 1) := by decide +kernel
theorem dX12_unchain_72 : decode cX12_unchain 72 = .ok (.bipush 16, 2) := by decide +kernel
theorem dX12_unchain_74 : decode cX12_unchain 74 = .ok (.invokestatic 133, 3) := by decide +kernel
theorem dX12_unchain_77 : decode cX12_unchain 77 = .ok (.iinc 2 1, 3) := by decide +kernel
theorem dX12_unchain_80 : decode cX12_unchain 80 = .ok (.goto (-78), 3) := by decide +kernel
theorem dX12_unchain_83 : decode cX12_unchain 83 = .ok (.return_, 1) := by decide +kernel
theorem dX12_book_0 : decode cX12_book 0 = .ok (.aload_n 0, 1) := by decide +kernel
theorem dX12_book_1 : decode cX12_book 1 = .ok (.getfield 41, 3) := by decide +kernel
theorem dX12_book_4 : decode cX12_book 4 = .ok (.iconst 0, 1) := by decide +kernel
theorem dX12_book_5 : decode cX12_book 5 = .ok (.aload_n 0, 1) := by decide +kernel
theorem dX12_book_6 : decode cX12_book 6 = .ok (.getfield 44, 3) := by decide +kernel
theorem dX12_book_9 : decode cX12_book 9 = .ok (.iconst 0, 1) := by decide +kernel
theorem dX12_book_10 : decode cX12_book 10 = .ok (.aload_n 0, 1) := by decide +kernel
theorem dX12_book_11 : decode cX12_book 11 = .ok (.getfield 130, 3) := by decide +kernel
theorem dX12_book_14 : decode cX12_book 14 = .ok (.invokestatic 133, 3) := by decide +kernel
theorem dX12_book_17 : decode cX12_book 17 = .ok (.iconst 0, 1) := by decide +kernel
theorem dX12_book_18 : decode cX12_book 18 = .ok (.istore_n 2, 1) := by decide +kernel
theorem dX12_book_19 : decode cX12_book 19 = .ok (.iload_n 2, 1) := by decide +kernel
theorem dX12_book_20 : decode cX12_book 20 = .ok (.aload_n 0, 1) := by decide +kernel
theorem dX12_book_21 : decode cX12_book 21 = .ok (.getfield 130, 3) := by decide +kernel
theorem dX12_book_24 : decode cX12_book 24 = .ok (.if_icmp .ge 36, 3) := by decide +kernel
theorem dX12_book_27 : decode cX12_book 27 = .ok (.iload_n 1, 1) := by decide +kernel
theorem dX12_book_28 : decode cX12_book 28 = .ok (.ifCond .eq 16, 3) := by decide +kernel
theorem dX12_book_31 : decode cX12_book 31 = .ok (.aload_n 0, 1) := by decide +kernel
theorem dX12_book_32 : decode cX12_book 32 = .ok (.iconst 0, 1) := by decide +kernel
theorem dX12_book_33 : decode cX12_book 33 = .ok (.aload_n 0, 1) := by decide +kernel
theorem dX12_book_34 : decode cX12_book 34 = .ok (.getfield 44, 3) := by decide +kernel
theorem dX12_book_37 : decode cX12_book 37 = .ok (.iload_n 2, 1) := by decide +kernel
theorem dX12_book_38 : decode cX12_book 38 = .ok (.invokevirtual 150, 3) := by decide +kernel
theorem dX12_book_41 : decode cX12_book 41 = .ok (.goto 13, 3) := by decide +kernel
theorem dX12_book_44 : decode cX12_book 44 = .ok (.aload_n 0, 1) := by decide +kernel
theorem dX12_book_45 : decode cX12_book 45 = .ok (.iconst 0, 1) := by decide +kernel
theorem dX12_book_46 : decode cX12_book 46 = .ok (.aload_n 0, 1) := by decide +kernel
theorem dX12_book_47 : decode cX12_book 47 = .ok (.getfield 44, 3) := by decide +kernel
theorem dX12_book_50 : decode cX12_book 50 = .ok (.iload_n 2, 1) := by decide +kernel
theorem dX12_book_51 : decode cX12_book 51 = .ok (.invokevirtual 146, 3) := by decide +kernel
theorem dX12_book_54 : decode cX12_book 54 = .ok (.iinc 2 16, 3) := by decide +kernel
theorem dX12_book_57 : decode cX12_book 57 = .ok (.goto (-38), 3) := by decide +kernel
theorem dX12_book_60 : decode cX12_book 60 = .ok (.aload_n 0, 1) := by decide +kernel
theorem dX12_book_61 : decode cX12_book 61 = .ok (.aload_n 0, 1) := by decide +kernel
theorem dX12_book_62 : decode cX12_book 62 = .ok (.getfield 130, 3) := by decide +kernel
theorem dX12_book_65 : decode cX12_book 65 = .ok (.putfield 153, 3) := by decide +kernel
theorem dX12_book_68 : decode cX12_book 68 = .ok (.return_, 1) := by decide +kernel
theorem dX12_padded_0 : decode cX12_padded 0 = .ok (.aload_n 0, 1) := by decide +kernel
theorem dX12_padded_1 : decode cX12_padded 1 = .ok (.getfield 47, 3) := by decide +kernel
theorem dX12_padded_4 : decode cX12_padded 4 = .ok (.iconst 0, 1) := by decide +kernel
theorem dX12_padded_5 : decode cX12_padded 5 = .ok (.aload_n 0, 1) := by decide +kernel
theorem dX12_padded_6 : decode cX12_padded 6 = .ok (.getfield 53, 3) := by decide +kernel
theorem dX12_padded_9 : decode cX12_padded 9 = .ok (.iconst 0, 1) := by decide +kernel
theorem dX12_padded_10 : decode cX12_padded 10 = .ok (.bipush 16, 2) := by decide +kernel
theorem dX12_padded_12 : decode cX12_padded 12 = .ok (.invokestatic 133, 3) := by decide +kernel
theorem dX12_padded_15 : decode cX12_padded 15 = .ok (.iload_n 1, 1) := by decide +kernel
theorem dX12_padded_16 : decode cX12_padded 16 = .ok (.ifCond .eq 98, 3) := by decide +kernel
theorem dX12_padded_19 : decode cX12_padded 19 = .ok (.aload_n 0, 1) := by decide +kernel
theorem dX12_padded_20 : decode cX12_padded 20 = .ok (.aload_n 0, 1) := by decide +kernel
theorem dX12_padded_21 : decode cX12_padded 21 = .ok (.getfield 130, 3) := by decide +kernel
theorem dX12_padded_24 : decode cX12_padded 24 = .ok (.bipush 16, 2) := by decide +kernel
theorem dX12_padded_26 : decode cX12_padded 26 = .ok (.idiv, 1) := by decide +kernel
theorem dX12_padded_27 : decode cX12_padded 27 = .ok (.invokevirtual 156, 3) := by decide +kernel
theorem dX12_padded_30 : decode cX12_padded 30 = .ok (.aload_n 0, 1) := by decide +kernel
theorem dX12_padded_31 : decode cX12_padded 31 = .ok (.getfield 44, 3) := by decide +kernel
theorem dX12_padded_34 : decode cX12_padded 34 = .ok (.aload_n 0, 1) := by decide +kernel
theorem dX12_padded_35 : decode cX12_padded 35 = .ok (.getfield 130, 3) := by decide +kernel
theorem dX12_padded_38 : decode cX12_padded 38 = .ok (.iconst 1, 1) := by decide +kernel
theorem dX12_padded_39 : decode cX12_padded 39 = .ok (.isub, 1) := by decide +kernel
theorem dX12_padded_40 : decode cX12_padded 40 = .ok (.iaload, 1) := by decide +kernel
theorem dX12_padded_41 : decode cX12_padded 41 = .ok (.istore_n 2, 1) := by decide +kernel
theorem dX12_padded_42 : decode cX12_padded 42 = .ok (.iload_n 2, 1) := by decide +kernel
theorem dX12_padded_43 : decode cX12_padded 43 = .ok (.iconst 1, 1) := by decide +kernel
theorem dX12_padded_44 : decode cX12_padded 44 = .ok (.bipush 16, 2) := by decide +kernel
theorem dX12_padded_46 : decode cX12_padded 46 = .ok (.invokestatic 108, 3) := by decide +kernel
theorem dX12_padded_49 : decode cX12_padded 49 = .ok (.istore_n 3, 1) := by decide +kernel
theorem dX12_padded_50 : decode cX12_padded 50 = .ok (.iconst 0, 1) := by decide +kernel
theorem dX12_padded_51 : decode cX12_padded 51 = .ok (.istore 4, 2) := by decide +kernel
theorem dX12_padded_53 : decode cX12_padded 53 = .ok (.iload_n 3, 1) := by decide +kernel
theorem dX12_padded_54 : decode cX12_padded 54 = .ok (.ifCond .eq 39, 3) := by decide +kernel
theorem dX12_padded_57 : decode cX12_padded 57 = .ok (.iload 4, 2) := by decide +kernel
theorem dX12_padded_59 : decode cX12_padded 59 = .ok (.iload_n 2, 1) := by decide +kernel
theorem dX12_padded_60 : decode cX12_padded 60 = .ok (.if_icmp .ge 33, 3) := by decide +kernel
theorem dX12_padded_63 : decode cX12_padded 63 = .ok (.aload_n 0, 1) := by decide +kernel
theorem dX12_padded_64 : decode cX12_padded 64 = .ok (.getfield 44, 3) := by decide +kernel
theorem dX12_padded_67 : decode cX12_padded 67 = .ok (.aload_n 0, 1) := by decide +kernel
theorem dX12_padded_68 : decode cX12_padded 68 = .ok (.getfield 130, 3) := by decide +kernel
theorem dX12_padded_71 : decode cX12_padded 71 = .ok (.iconst 1, 1) := by decide +kernel
theorem dX12_padded_72 : decode cX12_padded 72 = .ok (.isub, 1) := by decide +kernel
theorem dX12_padded_73 : decode cX12_padded 73 = .ok (.iload 4, 2) := by decide +kernel
theorem dX12_padded_75 : decode cX12_padded 75 = .ok (.isub, 1) := by decide +kernel
theorem dX12_padded_76 : decode cX12_padded 76 = .ok (.iaload, 1) := by decide +kernel
theorem dX12_padded_77 : decode cX12_padded 77 = .ok (.iload_n 2, 1) := by decide +kernel
theorem dX12_padded_78 : decode cX12_padded 78 = .ok (.if_icmp .ne 7, 3) := by decide +kernel
theorem dX12_padded_81 : decode cX12_padded 81 = .ok (.iconst 1, 1) := by decide +kernel
theorem dX12_padded_82 : decode cX12_padded 82 = .ok (.goto 4, 3) := by decide +kernel
theorem dX12_padded_85 : decode cX12_padded 85 = .ok (.iconst 0, 1) := by decide +kernel
theorem dX12_padded_86 : decode cX12_padded 86 = .ok (.istore_n 3, 1) := by decide +kernel
theorem dX12_padded_87 : decode cX12_padded 87 = .ok (.iinc 4 1, 3) := by decide +kernel
theorem dX12_padded_90 : decode cX12_padded 90 = .ok (.goto (-37), 3) := by decide +kernel
theorem dX12_padded_93 : decode cX12_padded 93 = .ok (.aload_n 0, 1) := by decide +kernel
theorem dX12_padded_94 : decode cX12_padded 94 = .ok (.aload_n 0, 1) := by decide +kernel
theorem dX12_padded_95 : decode cX12_padded 95 = .ok (.getfield 130, 3) := by decide +kernel
theorem dX12_padded_98 : decode cX12_padded 98 = .ok (.iload_n 2, 1) := by decide +kernel
theorem dX12_padded_99 : decode cX12_padded 99 = .ok (.isub, 1) := by decide +kernel
theorem dX12_padded_100 : decode cX12_padded 100 = .ok (.putfield 153, 3) := by decide +kernel
theorem dX12_padded_103 : decode cX12_padded 103 = .ok (.iload_n 3, 1) := by decide +kernel
theorem dX12_padded_104 : decode cX12_padded 104 = .ok (.ifCond .eq 7, 3) := by decide +kernel
theorem dX12_padded_107 : decode cX12_padded 107 = .ok (.iconst 0, 1) := by decide +kernel
theorem dX12_padded_108 : decode cX12_padded 108 = .ok (.goto 5, 3) := by decide +kernel
theorem dX12_padded_111 : decode cX12_padded 111 = .ok (.bipush (-6), 2) := by decide +kernel
theorem dX12_padded_113 : decode cX12_padded 113 = .ok (.ireturn, 1) := by decide +kernel
theorem dX12_padded_114 : decode cX12_padded 114 = .ok (.aload_n 0, 1) := by decide +kernel
theorem dX12_padded_115 : decode cX12_padded 115 = .ok (.getfield 41, 3) := by decide +kernel
theorem dX12_padded_118 : decode cX12_padded 118 = .ok (.iconst 0, 1) := by decide +kernel
theorem dX12_padded_119 : decode cX12_padded 119 = .ok (.aload_n 0, 1) := by decide +kernel
theorem dX12_padded_120 : decode cX12_padded 120 = .ok (.getfield 44, 3) := by decide +kernel
theorem dX12_padded_123 : decode cX12_padded 123 = .ok (.iconst 0, 1) := by decide +kernel
theorem dX12_padded_124 : decode cX12_padded 124 = .ok (.aload_n 0, 1) := by decide +kernel
theorem dX12_padded_125 : decode cX12_padded 125 = .ok (.getfield 130, 3) := by decide +kernel
theorem dX12_padded_128 : decode cX12_padded 128 = .ok (.invokestatic 133, 3) := by decide +kernel
theorem dX12_padded_131 : decode cX12_padded 131 = .ok (.bipush 16, 2) := by decide +kernel
theorem dX12_padded_133 : decode cX12_padded 133 = .ok (.aload_n 0, 1) := by decide +kernel
theorem dX12_padded_134 : decode cX12_padded 134 = .ok (.getfield 130, 3) := by decide +kernel
theorem dX12_padded_137 : decode cX12_padded 137 = .ok (.bipush 16, 2) := by decide +kernel
theorem dX12_padded_139 : decode cX12_padded 139 = .ok (.irem, 1) := by decide +kernel
theorem dX12_padded_140 : decode cX12_padded 140 = .ok (.isub, 1) := by decide +kernel
theorem dX12_padded_141 : decode cX12_padded 141 = .ok (.istore_n 2, 1) := by decide +kernel
theorem dX12_padded_142 : decode cX12_padded 142 = .ok (.iconst 0, 1) := by decide +kernel
theorem dX12_padded_143 : decode cX12_padded 143 = .ok (.istore_n 3, 1) := by decide +kernel
theorem dX12_padded_144 : decode cX12_padded 144 = .ok (.iload_n 3, 1) := by decide +kernel
theorem dX12_padded_145 : decode cX12_padded 145 = .ok (.iload_n 2, 1) := by decide +kernel
theorem dX12_padded_146 : decode cX12_padded 146 = .ok (.if_icmp .ge 21, 3) := by decide +kernel
theorem dX12_padded_149 : decode cX12_padded 149 = .ok (.aload_n 0, 1) := by decide +kernel
theorem dX12_padded_150 : decode cX12_padded 150 = .ok (.getfield 44, 3) := by decide +kernel
theorem dX12_padded_153 : decode cX12_padded 153 = .ok (.aload_n 0, 1) := by decide +kernel
theorem dX12_padded_154 : decode cX12_padded 154 = .ok (.getfield 130, 3) := by decide +kernel
theorem dX12_padded_157 : decode cX12_padded 157 = .ok (.iload_n 3, 1) := by decide +kernel
theorem dX12_padded_158 : decode cX12_padded 158 = .ok (.iadd, 1) := by decide +kernel
theorem dX12_padded_159 : decode cX12_padded 159 = .ok (.iload_n 2, 1) := by decide +kernel
theorem dX12_padded_160 : decode cX12_padded 160 = .ok (.iastore, 1) := by decide +kernel
theorem dX12_padded_161 : decode cX12_padded 161 = .ok (.iinc 3 1, 3) := by decide +kernel
theorem dX12_padded_164 : decode cX12_padded 164 = .ok (.goto (-20), 3) := by decide +kernel
theorem dX12_padded_167 : decode cX12_padded 167 = .ok (.aload_n 0, 1) := by decide +kernel
theorem dX12_padded_168 : decode cX12_padded 168 = .ok (.aload_n 0, 1) := by decide +kernel
theorem dX12_padded_169 : decode cX12_padded 169 = .ok (.getfield 130, 3) := by decide +kernel
theorem dX12_padded_172 : decode cX12_padded 172 = .ok (.iload_n 2, 1) := by decide +kernel
theorem dX12_padded_173 : decode cX12_padded 173 = .ok (.iadd, 1) := by decide +kernel
theorem dX12_padded_174 : decode cX12_padded 174 = .ok (.putfield 153, 3) := by decide +kernel
theorem dX12_padded_177 : decode cX12_padded 177 = .ok (.aload_n 0, 1) := by decide +kernel
theorem dX12_padded_178 : decode cX12_padded 178 = .ok (.iconst 0, 1) := by decide +kernel
theorem dX12_padded_179 : decode cX12_padded 179 = .ok (.iconst 0, 1) := by decide +kernel
theorem dX12_padded_180 : decode cX12_padded 180 = .ok (.aload_n 0, 1) := by decide +kernel
theorem dX12_padded_181 : decode cX12_padded 181 = .ok (.getfield 153, 3) := by decide +kernel
theorem dX12_padded_184 : decode cX12_padded 184 = .ok (.bipush 16, 2) := by decide +kernel
theorem dX12_padded_186 : decode cX12_padded 186 = .ok (.idiv, 1) := by decide +kernel
theorem dX12_padded_187 : decode cX12_padded 187 = .ok (.invokevirtual 160, 3) := by decide +kernel
theorem dX12_padded_190 : decode cX12_padded 190 = .ok (.iconst 0, 1) := by decide +kernel
theorem dX12_padded_191 : decode cX12_padded 191 = .ok (.ireturn, 1) := by decide +kernel
theorem dX12_stolen_0 : decode cX12_stolen 0 = .ok (.aload_n 0, 1) := by decide +kernel
theorem dX12_stolen_1 : decode cX12_stolen 1 = .ok (.getfield 47, 3) := by decide +kernel
theorem dX12_stolen_4 : decode cX12_stolen 4 = .ok (.iconst 0, 1) := by decide +kernel
theorem dX12_stolen_5 : decode cX12_stolen 5 = .ok (.aload_n 0, 1) := by decide +kernel
theorem dX12_stolen_6 : decode cX12_stolen 6 = .ok (.getfield 53, 3) := by decide +kernel
theorem dX12_stolen_9 : decode cX12_stolen 9 = .ok (.iconst 0, 1) := by decide +kernel
theorem dX12_stolen_10 : decode cX12_stolen 10 = .ok (.bipush 16, 2) := by decide +kernel
theorem dX12_stolen_12 : decode cX12_stolen 12 = .ok (.invokestatic 133, 3) := by decide +kernel
theorem dX12_stolen_15 : decode cX12_stolen 15 = .ok (.aload_n 0, 1) := by decide +kernel
theorem dX12_stolen_16 : decode cX12_stolen 16 = .ok (.getfield 130, 3) := by decide +kernel
theorem dX12_stolen_19 : decode cX12_stolen 19 = .ok (.bipush 15, 2) := by decide +kernel
theorem dX12_stolen_21 : decode cX12_stolen 21 = .ok (.iadd, 1) := by decide +kernel
theorem dX12_stolen_22 : decode cX12_stolen 22 = .ok (.bipush 16, 2) := by decide +kernel
theorem dX12_stolen_24 : decode cX12_stolen 24 = .ok (.idiv, 1) := by decide +kernel
theorem dX12_stolen_25 : decode cX12_stolen 25 = .ok (.istore_n 2, 1) := by decide +kernel
theorem dX12_stolen_26 : decode cX12_stolen 26 = .ok (.aload_n 0, 1) := by decide +kernel
theorem dX12_stolen_27 : decode cX12_stolen 27 = .ok (.getfield 130, 3) := by decide +kernel
theorem dX12_stolen_30 : decode cX12_stolen 30 = .ok (.bipush 16, 2) := by decide +kernel
theorem dX12_stolen_32 : decode cX12_stolen 32 = .ok (.iload_n 2, 1) := by decide +kernel
theorem dX12_stolen_33 : decode cX12_stolen 33 = .ok (.iconst 1, 1) := by decide +kernel
theorem dX12_stolen_34 : decode cX12_stolen 34 = .ok (.isub, 1) := by decide +kernel
theorem dX12_stolen_35 : decode cX12_stolen 35 = .ok (.imul, 1) := by decide +kernel
theorem dX12_stolen_36 : decode cX12_stolen 36 = .ok (.isub, 1) := by decide +kernel
theorem dX12_stolen_37 : decode cX12_stolen 37 = .ok (.istore_n 3, 1) := by decide +kernel
theorem dX12_stolen_38 : decode cX12_stolen 38 = .ok (.bipush 16, 2) := by decide +kernel
theorem dX12_stolen_40 : decode cX12_stolen 40 = .ok (.iload_n 2, 1) := by decide +kernel
theorem dX12_stolen_41 : decode cX12_stolen 41 = .ok (.iconst 1, 1) := by decide +kernel
theorem dX12_stolen_42 : decode cX12_stolen 42 = .ok (.isub, 1) := by decide +kernel
theorem dX12_stolen_43 : decode cX12_stolen 43 = .ok (.imul, 1) := by decide +kernel
theorem dX12_stolen_44 : decode cX12_stolen 44 = .ok (.istore 4, 2) := by decide +kernel
theorem dX12_stolen_46 : decode cX12_stolen 46 = .ok (.aload_n 0, 1) := by decide +kernel
theorem dX12_stolen_47 : decode cX12_stolen 47 = .ok (.aload_n 0, 1) := by decide +kernel
theorem dX12_stolen_48 : decode cX12_stolen 48 = .ok (.getfield 130, 3) := by decide +kernel
theorem dX12_stolen_51 : decode cX12_stolen 51 = .ok (.putfield 153, 3) := by decide +kernel
theorem dX12_stolen_54 : decode cX12_stolen 54 = .ok (.iload_n 1, 1) := by decide +kernel
theorem dX12_stolen_55 : decode cX12_stolen 55 = .ok (.ifCond .ne 109, 3) := by decide +kernel
theorem dX12_stolen_58 : decode cX12_stolen 58 = .ok (.aload_n 0, 1) := by decide +kernel
theorem dX12_stolen_59 : decode cX12_stolen 59 = .ok (.getfield 41, 3) := by decide +kernel
theorem dX12_stolen_62 : decode cX12_stolen 62 = .ok (.iconst 0, 1) := by decide +kernel
theorem dX12_stolen_63 : decode cX12_stolen 63 = .ok (.aload_n 0, 1) := by decide +kernel
theorem dX12_stolen_64 : decode cX12_stolen 64 = .ok (.getfield 44, 3) := by decide +kernel
theorem dX12_stolen_67 : decode cX12_stolen 67 = .ok (.iconst 0, 1) := by decide +kernel
theorem dX12_stolen_68 : decode cX12_stolen 68 = .ok (.aload_n 0, 1) := by decide +kernel
theorem dX12_stolen_69 : decode cX12_stolen 69 = .ok (.getfield 130, 3) := by decide +kernel
theorem dX12_stolen_72 : decode cX12_stolen 72 = .ok (.invokestatic 133, 3) := by decide +kernel
theorem dX12_stolen_75 : decode cX12_stolen 75 = .ok (.aload_n 0, 1) := by decide +kernel
theorem dX12_stolen_76 : decode cX12_stolen 76 = .ok (.getfield 44, 3) := by decide +kernel
theorem dX12_stolen_79 : decode cX12_stolen 79 = .ok (.aload_n 0, 1) := by decide +kernel
theorem dX12_stolen_80 : decode cX12_stolen 80 = .ok (.getfield 130, 3) := by decide +kernel
theorem dX12_stolen_83 : decode cX12_stolen 83 = .ok (.bipush 16, 2) := by decide +kernel
theorem dX12_stolen_85 : decode cX12_stolen 85 = .ok (.iload_n 2, 1) := by decide +kernel
theorem dX12_stolen_86 : decode cX12_stolen 86 = .ok (.imul, 1) := by decide +kernel
theorem dX12_stolen_87 : decode cX12_stolen 87 = .ok (.invokestatic 164, 3) := by decide +kernel
theorem dX12_stolen_90 : decode cX12_stolen 90 = .ok (.aload_n 0, 1) := by decide +kernel
theorem dX12_stolen_91 : decode cX12_stolen 91 = .ok (.iconst 0, 1) := by decide +kernel
theorem dX12_stolen_92 : decode cX12_stolen 92 = .ok (.iconst 0, 1) := by decide +kernel
theorem dX12_stolen_93 : decode cX12_stolen 93 = .ok (.iload_n 2, 1) := by decide +kernel
theorem dX12_stolen_94 : decode cX12_stolen 94 = .ok (.invokevirtual 160, 3) := by decide +kernel
theorem dX12_stolen_97 : decode cX12_stolen 97 = .ok (.iconst 0, 1) := by decide +kernel
theorem dX12_stolen_98 : decode cX12_stolen 98 = .ok (.istore 5, 2) := by decide +kernel
theorem dX12_stolen_100 : decode cX12_stolen 100 = .ok (.iload 5, 2) := by decide +kernel
theorem dX12_stolen_102 : decode cX12_stolen 102 = .ok (.bipush 16, 2) := by decide +kernel
theorem dX12_stolen_104 : decode cX12_stolen 104 = .ok (.if_icmp .ge 59, 3) := by decide +kernel
theorem dX12_stolen_107 : decode cX12_stolen 107 = .ok (.aload_n 0, 1) := by decide +kernel
theorem dX12_stolen_108 : decode cX12_stolen 108 = .ok (.getfield 44, 3) := by decide +kernel
theorem dX12_stolen_111 : decode cX12_stolen 111 = .ok (.iload 4, 2) := by decide +kernel
theorem dX12_stolen_113 : decode cX12_stolen 113 = .ok (.bipush 16, 2) := by decide +kernel
theorem dX12_stolen_115 : decode cX12_stolen 115 = .ok (.isub, 1) := by decide +kernel
theorem dX12_stolen_116 : decode cX12_stolen 116 = .ok (.iload 5, 2) := by decide +kernel
theorem dX12_stolen_118 : decode cX12_stolen 118 = .ok (.iadd, 1) := by decide +kernel
theorem dX12_stolen_119 : decode cX12_stolen 119 = .ok (.iaload, 1) := by decide +kernel
theorem dX12_stolen_120 : decode cX12_stolen 120 = .ok (.istore 6, 2) := by decide +kernel
theorem dX12_stolen_122 : decode cX12_stolen 122 = .ok (.aload_n 0, 1) := by decide +kernel
theorem dX12_stolen_123 : decode cX12_stolen 123 = .ok (.getfield 44, 3) := by decide +kernel
theorem dX12_stolen_126 : decode cX12_stolen 126 = .ok (.iload 4, 2) := by decide +kernel
theorem dX12_stolen_128 : decode cX12_stolen 128 = .ok (.bipush 16, 2) := by decide +kernel
theorem dX12_stolen_130 : decode cX12_stolen 130 = .ok (.isub, 1) := by decide +kernel
theorem dX12_stolen_131 : decode cX12_stolen 131 = .ok (.iload 5, 2) := by decide +kernel
theorem dX12_stolen_133 : decode cX12_stolen 133 = .ok (.iadd, 1) := by decide +kernel
theorem dX12_stolen_134 : decode cX12_stolen 134 = .ok (.aload_n 0, 1) := by decide +kernel
theorem dX12_stolen_135 : decode cX12_stolen 135 = .ok (.getfield 44, 3) := by decide +kernel
theorem dX12_stolen_138 : decode cX12_stolen 138 = .ok (.iload 4, 2) := by decide +kernel
theorem dX12_stolen_140 : decode cX12_stolen 140 = .ok (.iload 5, 2) := by decide +kernel
theorem dX12_stolen_142 : decode cX12_stolen 142 = .ok (.iadd, 1) := by decide +kernel
theorem dX12_stolen_143 : decode cX12_stolen 143 = .ok (.iaload, 1) := by decide +kernel
theorem dX12_stolen_144 : decode cX12_stolen 144 = .ok (.iastore, 1) := by decide +kernel
theorem dX12_stolen_145 : decode cX12_stolen 145 = .ok (.aload_n 0, 1) := by decide +kernel
theorem dX12_stolen_146 : decode cX12_stolen 146 = .ok (.getfield 44, 3) := by decide +kernel
theorem dX12_stolen_149 : decode cX12_stolen 149 = .ok (.iload 4, 2) := by decide +kernel
theorem dX12_stolen_151 : decode cX12_stolen 151 = .ok (.iload 5, 2) := by decide +kernel
theorem dX12_stolen_153 : decode cX12_stolen 153 = .ok (.iadd, 1) := by decide +kernel
theorem dX12_stolen_154 : decode cX12_stolen 154 = .ok (.iload 6, 2) := by decide +kernel
theorem dX12_stolen_156 : decode cX12_stolen 156 = .ok (.iastore, 1) := by decide +kernel
theorem dX12_stolen_157 : decode cX12_stolen 157 = .ok (.iinc 5 1, 3) := by decide +kernel
theorem dX12_stolen_160 : decode cX12_stolen 160 = .ok (.goto (-60), 3) := by decide +kernel
theorem dX12_stolen_163 : decode cX12_stolen 163 = .ok (.return_, 1) := by decide +kernel
theorem dX12_stolen_164 : decode cX12_stolen 164 = .ok (.aload_n 0, 1) := by decide +kernel
theorem dX12_stolen_165 : decode cX12_stolen 165 = .ok (.iload_n 2, 1) := by decide +kernel
theorem dX12_stolen_166 : decode cX12_stolen 166 = .ok (.iconst 2, 1) := by decide +kernel
theorem dX12_stolen_167 : decode cX12_stolen 167 = .ok (.isub, 1) := by decide +kernel
theorem dX12_stolen_168 : decode cX12_stolen 168 = .ok (.invokevirtual 156, 3) := by decide +kernel
theorem dX12_stolen_171 : decode cX12_stolen 171 = .ok (.aload_n 0, 1) := by decide +kernel
theorem dX12_stolen_172 : decode cX12_stolen 172 = .ok (.getfield 41, 3) := by decide +kernel
theorem dX12_stolen_175 : decode cX12_stolen 175 = .ok (.iload 4, 2) := by decide +kernel
theorem dX12_stolen_177 : decode cX12_stolen 177 = .ok (.bipush 16, 2) := by decide +kernel
theorem dX12_stolen_179 : decode cX12_stolen 179 = .ok (.isub, 1) := by decide +kernel
theorem dX12_stolen_180 : decode cX12_stolen 180 = .ok (.aload_n 0, 1) := by decide +kernel
theorem dX12_stolen_181 : decode cX12_stolen 181 = .ok (.getfield 56, 3) := by decide +kernel
theorem dX12_stolen_184 : decode cX12_stolen 184 = .ok (.iconst 0, 1) := by decide +kernel
theorem dX12_stolen_185 : decode cX12_stolen 185 = .ok (.bipush 16, 2) := by decide +kernel
theorem dX12_stolen_187 : decode cX12_stolen 187 = .ok (.invokestatic 133, 3) := by decide +kernel
theorem dX12_stolen_190 : decode cX12_stolen 190 = .ok (.aload_n 0, 1) := by decide +kernel
theorem dX12_stolen_191 : decode cX12_stolen 191 = .ok (.iconst 0, 1) := by decide +kernel
theorem dX12_stolen_192 : decode cX12_stolen 192 = .ok (.aload_n 0, 1) := by decide +kernel
theorem dX12_stolen_193 : decode cX12_stolen 193 = .ok (.getfield 56, 3) := by decide +kernel
theorem dX12_stolen_196 : decode cX12_stolen 196 = .ok (.iconst 0, 1) := by decide +kernel
theorem dX12_stolen_197 : decode cX12_stolen 197 = .ok (.invokevirtual 150, 3) := by decide +kernel
theorem dX12_stolen_200 : decode cX12_stolen 200 = .ok (.iconst 0, 1) := by decide +kernel
theorem dX12_stolen_201 : decode cX12_stolen 201 = .ok (.istore 5, 2) := by decide +kernel
theorem dX12_stolen_203 : decode cX12_stolen 203 = .ok (.iload 5, 2) := by decide +kernel
theorem dX12_stolen_205 : decode cX12_stolen 205 = .ok (.iload_n 3, 1) := by decide +kernel
theorem dX12_stolen_206 : decode cX12_stolen 206 = .ok (.if_icmp .ge 54, 3) := by decide +kernel
theorem dX12_stolen_209 : decode cX12_stolen 209 = .ok (.aload_n 0, 1) := by decide +kernel
theorem dX12_stolen_210 : decode cX12_stolen 210 = .ok (.getfield 44, 3) := by decide +kernel
theorem dX12_stolen_213 : decode cX12_stolen 213 = .ok (.iload 4, 2) := by decide +kernel
theorem dX12_stolen_215 : decode cX12_stolen 215 = .ok (.iload 5, 2) := by decide +kernel
theorem dX12_stolen_217 : decode cX12_stolen 217 = .ok (.iadd, 1) := by decide +kernel
theorem dX12_stolen_218 : decode cX12_stolen 218 = .ok (.aload_n 0, 1) := by decide +kernel
theorem dX12_stolen_219 : decode cX12_stolen 219 = .ok (.getfield 56, 3) := by decide +kernel
theorem dX12_stolen_222 : decode cX12_stolen 222 = .ok (.iload 5, 2) := by decide +kernel
theorem dX12_stolen_224 : decode cX12_stolen 224 = .ok (.iaload, 1) := by decide +kernel
theorem dX12_stolen_225 : decode cX12_stolen 225 = .ok (.aload_n 0, 1) := by decide +kernel
theorem dX12_stolen_226 : decode cX12_stolen 226 = .ok (.getfield 41, 3) := by decide +kernel
theorem dX12_stolen_229 : decode cX12_stolen 229 = .ok (.iload 4, 2) := by decide +kernel
theorem dX12_stolen_231 : decode cX12_stolen 231 = .ok (.iload 5, 2) := by decide +kernel
theorem dX12_stolen_233 : decode cX12_stolen 233 = .ok (.iadd, 1) := by decide +kernel
theorem dX12_stolen_234 : decode cX12_stolen 234 = .ok (.iaload, 1) := by decide +kernel
theorem dX12_stolen_235 : decode cX12_stolen 235 = .ok (.ixor, 1) := by decide +kernel
theorem dX12_stolen_236 : decode cX12_stolen 236 = .ok (.iastore, 1) := by decide +kernel
theorem dX12_stolen_237 : decode cX12_stolen 237 = .ok (.aload_n 0, 1) := by decide +kernel
theorem dX12_stolen_238 : decode cX12_stolen 238 = .ok (.getfield 56, 3) := by decide +kernel
theorem dX12_stolen_241 : decode cX12_stolen 241 = .ok (.iload 5, 2) := by decide +kernel
theorem dX12_stolen_243 : decode cX12_stolen 243 = .ok (.aload_n 0, 1) := by decide +kernel
theorem dX12_stolen_244 : decode cX12_stolen 244 = .ok (.getfield 41, 3) := by decide +kernel
theorem dX12_stolen_247 : decode cX12_stolen 247 = .ok (.iload 4, 2) := by decide +kernel
theorem dX12_stolen_249 : decode cX12_stolen 249 = .ok (.iload 5, 2) := by decide +kernel
theorem dX12_stolen_251 : decode cX12_stolen 251 = .ok (.iadd, 1) := by decide +kernel
theorem dX12_stolen_252 : decode cX12_stolen 252 = .ok (.iaload, 1) := by decide +kernel
theorem dX12_stolen_253 : decode cX12_stolen 253 = .ok (.iastore, 1) := by decide +kernel
theorem dX12_stolen_254 : decode cX12_stolen 254 = .ok (.iinc 5 1, 3) := by decide +kernel
theorem dX12_stolen_257 : decode cX12_stolen 257 = .ok (.goto (-54), 3) := by decide +kernel
theorem dX12_stolen_260 : decode cX12_stolen 260 = .ok (.aload_n 0, 1) := by decide +kernel
theorem dX12_stolen_261 : decode cX12_stolen 261 = .ok (.iconst 0, 1) := by decide +kernel
theorem dX12_stolen_262 : decode cX12_stolen 262 = .ok (.aload_n 0, 1) := by decide +kernel
theorem dX12_stolen_263 : decode cX12_stolen 263 = .ok (.getfield 56, 3) := by decide +kernel
theorem dX12_stolen_266 : decode cX12_stolen 266 = .ok (.iconst 0, 1) := by decide +kernel
theorem dX12_stolen_267 : decode cX12_stolen 267 = .ok (.invokevirtual 150, 3) := by decide +kernel
theorem dX12_stolen_270 : decode cX12_stolen 270 = .ok (.iconst 0, 1) := by decide +kernel
theorem dX12_stolen_271 : decode cX12_stolen 271 = .ok (.istore 5, 2) := by decide +kernel
theorem dX12_stolen_273 : decode cX12_stolen 273 = .ok (.iload 5, 2) := by decide +kernel
theorem dX12_stolen_275 : decode cX12_stolen 275 = .ok (.bipush 16, 2) := by decide +kernel
theorem dX12_stolen_277 : decode cX12_stolen 277 = .ok (.if_icmp .ge 37, 3) := by decide +kernel
theorem dX12_stolen_280 : decode cX12_stolen 280 = .ok (.aload_n 0, 1) := by decide +kernel
theorem dX12_stolen_281 : decode cX12_stolen 281 = .ok (.getfield 44, 3) := by decide +kernel
theorem dX12_stolen_284 : decode cX12_stolen 284 = .ok (.iload 4, 2) := by decide +kernel
theorem dX12_stolen_286 : decode cX12_stolen 286 = .ok (.bipush 16, 2) := by decide +kernel
theorem dX12_stolen_288 : decode cX12_stolen 288 = .ok (.isub, 1) := by decide +kernel
theorem dX12_stolen_289 : decode cX12_stolen 289 = .ok (.iload 5, 2) := by decide +kernel
theorem dX12_stolen_291 : decode cX12_stolen 291 = .ok (.iadd, 1) := by decide +kernel
theorem dX12_stolen_292 : decode cX12_stolen 292 = .ok (.aload_n 0, 1) := by decide +kernel
theorem dX12_stolen_293 : decode cX12_stolen 293 = .ok (.getfield 56, 3) := by decide +kernel
theorem dX12_stolen_296 : decode cX12_stolen 296 = .ok (.iload 5, 2) := by decide +kernel
theorem dX12_stolen_298 : decode cX12_stolen 298 = .ok (.iaload, 1) := by decide +kernel
theorem dX12_stolen_299 : decode cX12_stolen 299 = .ok (.aload_n 0, 1) := by decide +kernel
theorem dX12_stolen_300 : decode cX12_stolen 300 = .ok (.getfield 53, 3) := by decide +kernel
theorem dX12_stolen_303 : decode cX12_stolen 303 = .ok (.iload 5, 2) := by decide +kernel
theorem dX12_stolen_305 : decode cX12_stolen 305 = .ok (.iaload, 1) := by decide +kernel
theorem dX12_stolen_306 : decode cX12_stolen 306 = .ok (.ixor, 1) := by decide +kernel
theorem dX12_stolen_307 : decode cX12_stolen 307 = .ok (.iastore, 1) := by decide +kernel
theorem dX12_stolen_308 : decode cX12_stolen 308 = .ok (.iinc 5 1, 3) := by decide +kernel
theorem dX12_stolen_311 : decode cX12_stolen 311 = .ok (.goto (-38), 3) := by decide +kernel
theorem dX12_stolen_314 : decode cX12_stolen 314 = .ok (.return_, 1) := by decide +kernel
theorem dX12_fed_0 : decode cX12_fed 0 = .ok (.aload_n 0, 1) := by decide +kernel
theorem dX12_fed_1 : decode cX12_fed 1 = .ok (.getfield 47, 3) := by decide +kernel
theorem dX12_fed_4 : decode cX12_fed 4 = .ok (.iconst 0, 1) := by decide +kernel
theorem dX12_fed_5 : decode cX12_fed 5 = .ok (.aload_n 0, 1) := by decide +kernel
theorem dX12_fed_6 : decode cX12_fed 6 = .ok (.getfield 53, 3) := by decide +kernel
theorem dX12_fed_9 : decode cX12_fed 9 = .ok (.iconst 0, 1) := by decide +kernel
theorem dX12_fed_10 : decode cX12_fed 10 = .ok (.bipush 16, 2) := by decide +kernel
theorem dX12_fed_12 : decode cX12_fed 12 = .ok (.invokestatic 133, 3) := by decide +kernel
theorem dX12_fed_15 : decode cX12_fed 15 = .ok (.iconst 0, 1) := by decide +kernel
theorem dX12_fed_16 : decode cX12_fed 16 = .ok (.istore_n 2, 1) := by decide +kernel
theorem dX12_fed_17 : decode cX12_fed 17 = .ok (.iload_n 2, 1) := by decide +kernel
theorem dX12_fed_18 : decode cX12_fed 18 = .ok (.aload_n 0, 1) := by decide +kernel
theorem dX12_fed_19 : decode cX12_fed 19 = .ok (.getfield 130, 3) := by decide +kernel
theorem dX12_fed_22 : decode cX12_fed 22 = .ok (.if_icmp .ge 76, 3) := by decide +kernel
theorem dX12_fed_25 : decode cX12_fed 25 = .ok (.iload_n 2, 1) := by decide +kernel
theorem dX12_fed_26 : decode cX12_fed 26 = .ok (.bipush 16, 2) := by decide +kernel
theorem dX12_fed_28 : decode cX12_fed 28 = .ok (.irem, 1) := by decide +kernel
theorem dX12_fed_29 : decode cX12_fed 29 = .ok (.ifCond .ne 13, 3) := by decide +kernel
theorem dX12_fed_32 : decode cX12_fed 32 = .ok (.aload_n 0, 1) := by decide +kernel
theorem dX12_fed_33 : decode cX12_fed 33 = .ok (.iconst 0, 1) := by decide +kernel
theorem dX12_fed_34 : decode cX12_fed 34 = .ok (.aload_n 0, 1) := by decide +kernel
theorem dX12_fed_35 : decode cX12_fed 35 = .ok (.getfield 53, 3) := by decide +kernel
theorem dX12_fed_38 : decode cX12_fed 38 = .ok (.iconst 0, 1) := by decide +kernel
theorem dX12_fed_39 : decode cX12_fed 39 = .ok (.invokevirtual 146, 3) := by decide +kernel
theorem dX12_fed_42 : decode cX12_fed 42 = .ok (.aload_n 0, 1) := by decide +kernel
theorem dX12_fed_43 : decode cX12_fed 43 = .ok (.getfield 44, 3) := by decide +kernel
theorem dX12_fed_46 : decode cX12_fed 46 = .ok (.iload_n 2, 1) := by decide +kernel
theorem dX12_fed_47 : decode cX12_fed 47 = .ok (.aload_n 0, 1) := by decide +kernel
theorem dX12_fed_48 : decode cX12_fed 48 = .ok (.getfield 41, 3) := by decide +kernel
theorem dX12_fed_51 : decode cX12_fed 51 = .ok (.iload_n 2, 1) := by decide +kernel
theorem dX12_fed_52 : decode cX12_fed 52 = .ok (.iaload, 1) := by decide +kernel
theorem dX12_fed_53 : decode cX12_fed 53 = .ok (.aload_n 0, 1) := by decide +kernel
theorem dX12_fed_54 : decode cX12_fed 54 = .ok (.getfield 53, 3) := by decide +kernel
theorem dX12_fed_57 : decode cX12_fed 57 = .ok (.iload_n 2, 1) := by decide +kernel
theorem dX12_fed_58 : decode cX12_fed 58 = .ok (.bipush 16, 2) := by decide +kernel
theorem dX12_fed_60 : decode cX12_fed 60 = .ok (.irem, 1) := by decide +kernel
theorem dX12_fed_61 : decode cX12_fed 61 = .ok (.iaload, 1) := by decide +kernel
theorem dX12_fed_62 : decode cX12_fed 62 = .ok (.ixor, 1) := by decide +kernel
theorem dX12_fed_63 : decode cX12_fed 63 = .ok (.iastore, 1) := by decide +kernel
theorem dX12_fed_64 : decode cX12_fed 64 = .ok (.aload_n 0, 1) := by decide +kernel
theorem dX12_fed_65 : decode cX12_fed 65 = .ok (.getfield 53, 3) := by decide +kernel
theorem dX12_fed_68 : decode cX12_fed 68 = .ok (.iload_n 2, 1) := by decide +kernel
theorem dX12_fed_69 : decode cX12_fed 69 = .ok (.bipush 16, 2) := by decide +kernel
theorem dX12_fed_71 : decode cX12_fed 71 = .ok (.irem, 1) := by decide +kernel
theorem dX12_fed_72 : decode cX12_fed 72 = .ok (.iload_n 1, 1) := by decide +kernel
theorem dX12_fed_73 : decode cX12_fed 73 = .ok (.ifCond .eq 12, 3) := by decide +kernel
theorem dX12_fed_76 : decode cX12_fed 76 = .ok (.aload_n 0, 1) := by decide +kernel
theorem dX12_fed_77 : decode cX12_fed 77 = .ok (.getfield 41, 3) := by decide +kernel
theorem dX12_fed_80 : decode cX12_fed 80 = .ok (.iload_n 2, 1) := by decide +kernel
theorem dX12_fed_81 : decode cX12_fed 81 = .ok (.iaload, 1) := by decide +kernel
theorem dX12_fed_82 : decode cX12_fed 82 = .ok (.goto 9, 3) := by decide +kernel
theorem dX12_fed_85 : decode cX12_fed 85 = .ok (.aload_n 0, 1) := by decide +kernel
theorem dX12_fed_86 : decode cX12_fed 86 = .ok (.getfield 44, 3) := by decide +kernel
theorem dX12_fed_89 : decode cX12_fed 89 = .ok (.iload_n 2, 1) := by decide +kernel
theorem dX12_fed_90 : decode cX12_fed 90 = .ok (.iaload, 1) := by decide +kernel
theorem dX12_fed_91 : decode cX12_fed 91 = .ok (.iastore, 1) := by decide +kernel
theorem dX12_fed_92 : decode cX12_fed 92 = .ok (.iinc 2 1, 3) := by decide +kernel
theorem dX12_fed_95 : decode cX12_fed 95 = .ok (.goto (-78), 3) := by decide +kernel
theorem dX12_fed_98 : decode cX12_fed 98 = .ok (.aload_n 0, 1) := by decide +kernel
theorem dX12_fed_99 : decode cX12_fed 99 = .ok (.aload_n 0, 1) := by decide +kernel
theorem dX12_fed_100 : decode cX12_fed 100 = .ok (.getfield 130, 3) := by decide +kernel
theorem dX12_fed_103 : decode cX12_fed 103 = .ok (.putfield 153, 3) := by decide +kernel
theorem dX12_fed_106 : decode cX12_fed 106 = .ok (.return_, 1) := by decide +kernel
theorem dX12_fedOne_0 : decode cX12_fedOne 0 = .ok (.aload_n 0, 1) := by decide +kernel
theorem dX12_fedOne_1 : decode cX12_fedOne 1 = .ok (.getfield 47, 3) := by decide +kernel
theorem dX12_fedOne_4 : decode cX12_fedOne 4 = .ok (.iconst 0, 1) := by decide +kernel
theorem dX12_fedOne_5 : decode cX12_fedOne 5 = .ok (.aload_n 0, 1) := by decide +kernel
theorem dX12_fedOne_6 : decode cX12_fedOne 6 = .ok (.getfield 53, 3) := by decide +kernel
theorem dX12_fedOne_9 : decode cX12_fedOne 9 = .ok (.iconst 0, 1) := by decide +kernel
theorem dX12_fedOne_10 : decode cX12_fedOne 10 = .ok (.bipush 16, 2) := by decide +kernel
theorem dX12_fedOne_12 : decode cX12_fedOne 12 = .ok (.invokestatic 133, 3) := by decide +kernel
theorem dX12_fedOne_15 : decode cX12_fedOne 15 = .ok (.iconst 0, 1) := by decide +kernel
theorem dX12_fedOne_16 : decode cX12_fedOne 16 = .ok (.istore_n 2, 1) := by decide +kernel
theorem dX12_fedOne_17 : decode cX12_fedOne 17 = .ok (.iload_n 2, 1) := by decide +kernel
theorem dX12_fedOne_18 : decode cX12_fedOne 18 = .ok (.aload_n 0, 1) := by decide +kernel
theorem dX12_fedOne_19 : decode cX12_fedOne 19 = .ok (.getfield 130, 3) := by decide +kernel
theorem dX12_fedOne_22 : decode cX12_fedOne 22 = .ok (.if_icmp .ge 94, 3) := by decide +kernel
theorem dX12_fedOne_25 : decode cX12_fedOne 25 = .ok (.aload_n 0, 1) := by decide +kernel
theorem dX12_fedOne_26 : decode cX12_fedOne 26 = .ok (.getfield 53, 3) := by decide +kernel
theorem dX12_fedOne_29 : decode cX12_fedOne 29 = .ok (.iconst 0, 1) := by decide +kernel
theorem dX12_fedOne_30 : decode cX12_fedOne 30 = .ok (.aload_n 0, 1) := by decide +kernel
theorem dX12_fedOne_31 : decode cX12_fedOne 31 = .ok (.getfield 56, 3) := by decide +kernel
theorem dX12_fedOne_34 : decode cX12_fedOne 34 = .ok (.iconst 0, 1) := by decide +kernel
theorem dX12_fedOne_35 : decode cX12_fedOne 35 = .ok (.bipush 16, 2) := by decide +kernel
theorem dX12_fedOne_37 : decode cX12_fedOne 37 = .ok (.invokestatic 133, 3) := by decide +kernel
theorem dX12_fedOne_40 : decode cX12_fedOne 40 = .ok (.aload_n 0, 1) := by decide +kernel
theorem dX12_fedOne_41 : decode cX12_fedOne 41 = .ok (.iconst 0, 1) := by decide +kernel
theorem dX12_fedOne_42 : decode cX12_fedOne 42 = .ok (.aload_n 0, 1) := by decide +kernel
theorem dX12_fedOne_43 : decode cX12_fedOne 43 = .ok (.getfield 56, 3) := by decide +kernel
theorem dX12_fedOne_46 : decode cX12_fedOne 46 = .ok (.iconst 0, 1) := by decide +kernel
theorem dX12_fedOne_47 : decode cX12_fedOne 47 = .ok (.invokevirtual 146, 3) := by decide +kernel
theorem dX12_fedOne_50 : decode cX12_fedOne 50 = .ok (.aload_n 0, 1) := by decide +kernel
theorem dX12_fedOne_51 : decode cX12_fedOne 51 = .ok (.getfield 44, 3) := by decide +kernel
theorem dX12_fedOne_54 : decode cX12_fedOne 54 = .ok (.iload_n 2, 1) := by decide +kernel
theorem dX12_fedOne_55 : decode cX12_fedOne 55 = .ok (.aload_n 0, 1) := by decide +kernel
theorem dX12_fedOne_56 : decode cX12_fedOne 56 = .ok (.getfield 41, 3) := by decide +kernel
theorem dX12_fedOne_59 : decode cX12_fedOne 59 = .ok (.iload_n 2, 1) := by decide +kernel
theorem dX12_fedOne_60 : decode cX12_fedOne 60 = .ok (.iaload, 1) := by decide +kernel
theorem dX12_fedOne_61 : decode cX12_fedOne 61 = .ok (.aload_n 0, 1) := by decide +kernel
theorem dX12_fedOne_62 : decode cX12_fedOne 62 = .ok (.getfield 56, 3) := by decide +kernel
theorem dX12_fedOne_65 : decode cX12_fedOne 65 = .ok (.iconst 0, 1) := by decide +kernel
theorem dX12_fedOne_66 : decode cX12_fedOne 66 = .ok (.iaload, 1) := by decide +kernel
theorem dX12_fedOne_67 : decode cX12_fedOne 67 = .ok (.ixor, 1) := by decide +kernel
theorem dX12_fedOne_68 : decode cX12_fedOne 68 = .ok (.iastore, 1) := by decide +kernel
theorem dX12_fedOne_69 : decode cX12_fedOne 69 = .ok (.aload_n 0, 1) := by decide +kernel
theorem dX12_fedOne_70 : decode cX12_fedOne 70 = .ok (.getfield 53, 3) := by decide +kernel
theorem dX12_fedOne_73 : decode cX12_fedOne 73 = .ok (.iconst 1, 1) := by decide +kernel
theorem dX12_fedOne_74 : decode cX12_fedOne 74 = .ok (.aload_n 0, 1) := by decide +kernel
theorem dX12_fedOne_75 : decode cX12_fedOne 75 = .ok (.getfield 53, 3) := by decide +kernel
theorem dX12_fedOne_78 : decode cX12_fedOne 78 = .ok (.iconst 0, 1) := by decide +kernel
theorem dX12_fedOne_79 : decode cX12_fedOne 79 = .ok (.bipush 15, 2) := by decide +kernel
theorem dX12_fedOne_81 : decode cX12_fedOne 81 = .ok (.invokestatic 133, 3) := by decide +kernel
theorem dX12_fedOne_84 : decode cX12_fedOne 84 = .ok (.aload_n 0, 1) := by decide +kernel
theorem dX12_fedOne_85 : decode cX12_fedOne 85 = .ok (.getfield 53, 3) := by decide +kernel
theorem dX12_fedOne_88 : decode cX12_fedOne 88 = .ok (.bipush 15, 2) := by decide +kernel
theorem dX12_fedOne_90 : decode cX12_fedOne 90 = .ok (.iload_n 1, 1) := by decide +kernel
theorem dX12_fedOne_91 : decode cX12_fedOne 91 = .ok (.ifCond .eq 12, 3) := by decide +kernel
theorem dX12_fedOne_94 : decode cX12_fedOne 94 = .ok (.aload_n 0, 1) := by decide +kernel
theorem dX12_fedOne_95 : decode cX12_fedOne 95 = .ok (.getfield 41, 3) := by decide +kernel
theorem dX12_fedOne_98 : decode cX12_fedOne 98 = .ok (.iload_n 2, 1) := by decide +kernel
theorem dX12_fedOne_99 : decode cX12_fedOne 99 = .ok (.iaload, 1) := by decide +kernel
theorem dX12_fedOne_100 : decode cX12_fedOne 100 = .ok (.goto 9, 3) := by decide +kernel
theorem dX12_fedOne_103 : decode cX12_fedOne 103 = .ok (.aload_n 0, 1) := by decide +kernel
theorem dX12_fedOne_104 : decode cX12_fedOne 104 = .ok (.getfield 44, 3) := by decide +kernel
theorem dX12_fedOne_107 : decode cX12_fedOne 107 = .ok (.iload_n 2, 1) := by decide +kernel
theorem dX12_fedOne_108 : decode cX12_fedOne 108 = .ok (.iaload, 1) := by decide +kernel
theorem dX12_fedOne_109 : decode cX12_fedOne 109 = .ok (.iastore, 1) := by decide +kernel
theorem dX12_fedOne_110 : decode cX12_fedOne 110 = .ok (.iinc 2 1, 3) := by decide +kernel
theorem dX12_fedOne_113 : decode cX12_fedOne 113 = .ok (.goto (-96), 3) := by decide +kernel
theorem dX12_fedOne_116 : decode cX12_fedOne 116 = .ok (.aload_n 0, 1) := by decide +kernel
theorem dX12_fedOne_117 : decode cX12_fedOne 117 = .ok (.aload_n 0, 1) := by decide +kernel
theorem dX12_fedOne_118 : decode cX12_fedOne 118 = .ok (.getfield 130, 3) := by decide +kernel
theorem dX12_fedOne_121 : decode cX12_fedOne 121 = .ok (.putfield 153, 3) := by decide +kernel
theorem dX12_fedOne_124 : decode cX12_fedOne 124 = .ok (.return_, 1) := by decide +kernel
theorem dX12_outFed_0 : decode cX12_outFed 0 = .ok (.aload_n 0, 1) := by decide +kernel
theorem dX12_outFed_1 : decode cX12_outFed 1 = .ok (.getfield 47, 3) := by decide +kernel
theorem dX12_outFed_4 : decode cX12_outFed 4 = .ok (.iconst 0, 1) := by decide +kernel
theorem dX12_outFed_5 : decode cX12_outFed 5 = .ok (.aload_n 0, 1) := by decide +kernel
theorem dX12_outFed_6 : decode cX12_outFed 6 = .ok (.getfield 53, 3) := by decide +kernel
theorem dX12_outFed_9 : decode cX12_outFed 9 = .ok (.iconst 0, 1) := by decide +kernel
theorem dX12_outFed_10 : decode cX12_outFed 10 = .ok (.bipush 16, 2) := by decide +kernel
theorem dX12_outFed_12 : decode cX12_outFed 12 = .ok (.invokestatic 133, 3) := by decide +kernel
theorem dX12_outFed_15 : decode cX12_outFed 15 = .ok (.iconst 0, 1) := by decide +kernel
theorem dX12_outFed_16 : decode cX12_outFed 16 = .ok (.istore_n 1, 1) := by decide +kernel
theorem dX12_outFed_17 : decode cX12_outFed 17 = .ok (.iload_n 1, 1) := by decide +kernel
theorem dX12_outFed_18 : decode cX12_outFed 18 = .ok (.aload_n 0, 1) := by decide +kernel
theorem dX12_outFed_19 : decode cX12_outFed 19 = .ok (.getfield 130, 3) := by decide +kernel
theorem dX12_outFed_22 : decode cX12_outFed 22 = .ok (.if_icmp .ge 48, 3) := by decide +kernel
theorem dX12_outFed_25 : decode cX12_outFed 25 = .ok (.iload_n 1, 1) := by decide +kernel
theorem dX12_outFed_26 : decode cX12_outFed 26 = .ok (.bipush 16, 2) := by decide +kernel
theorem dX12_outFed_28 : decode cX12_outFed 28 = .ok (.irem, 1) := by decide +kernel
theorem dX12_outFed_29 : decode cX12_outFed 29 = .ok (.ifCond .ne 13, 3) := by decide +kernel
theorem dX12_outFed_32 : decode cX12_outFed 32 = .ok (.aload_n 0, 1) := by decide +kernel
theorem dX12_outFed_33 : decode cX12_outFed 33 = .ok (.iconst 0, 1) := by decide +kernel
theorem dX12_outFed_34 : decode cX12_outFed 34 = .ok (.aload_n 0, 1) := by decide +kernel
theorem dX12_outFed_35 : decode cX12_outFed 35 = .ok (.getfield 53, 3) := by decide +kernel
theorem dX12_outFed_38 : decode cX12_outFed 38 = .ok (.iconst 0, 1) := by decide +kernel
theorem dX12_outFed_39 : decode cX12_outFed 39 = .ok (.invokevirtual 146, 3) := by decide +kernel
theorem dX12_outFed_42 : decode cX12_outFed 42 = .ok (.aload_n 0, 1) := by decide +kernel
theorem dX12_outFed_43 : decode cX12_outFed 43 = .ok (.getfield 44, 3) := by decide +kernel
theorem dX12_outFed_46 : decode cX12_outFed 46 = .ok (.iload_n 1, 1) := by decide +kernel
theorem dX12_outFed_47 : decode cX12_outFed 47 = .ok (.aload_n 0, 1) := by decide +kernel
theorem dX12_outFed_48 : decode cX12_outFed 48 = .ok (.getfield 41, 3) := by decide +kernel
theorem dX12_outFed_51 : decode cX12_outFed 51 = .ok (.iload_n 1, 1) := by decide +kernel
theorem dX12_outFed_52 : decode cX12_outFed 52 = .ok (.iaload, 1) := by decide +kernel
theorem dX12_outFed_53 : decode cX12_outFed 53 = .ok (.aload_n 0, 1) := by decide +kernel
theorem dX12_outFed_54 : decode cX12_outFed 54 = .ok (.getfield 53, 3) := by decide +kernel
theorem dX12_outFed_57 : decode cX12_outFed 57 = .ok (.iload_n 1, 1) := by decide +kernel
theorem dX12_outFed_58 : decode cX12_outFed 58 = .ok (.bipush 16, 2) := by decide +kernel
theorem dX12_outFed_60 : decode cX12_outFed 60 = .ok (.irem, 1) := by decide +kernel
theorem dX12_outFed_61 : decode cX12_outFed 61 = .ok (.iaload, 1) := by decide +kernel
theorem dX12_outFed_62 : decode cX12_outFed 62 = .ok (.ixor, 1) := by decide +kernel
theorem dX12_outFed_63 : decode cX12_outFed 63 = .ok (.iastore, 1) := by decide +kernel
theorem dX12_outFed_64 : decode cX12_outFed 64 = .ok (.iinc 1 1, 3) := by decide +kernel
theorem dX12_outFed_67 : decode cX12_outFed 67 = .ok (.goto (-50), 3) := by decide +kernel
theorem dX12_outFed_70 : decode cX12_outFed 70 = .ok (.aload_n 0, 1) := by decide +kernel
theorem dX12_outFed_71 : decode cX12_outFed 71 = .ok (.aload_n 0, 1) := by decide +kernel
theorem dX12_outFed_72 : decode cX12_outFed 72 = .ok (.getfield 130, 3) := by decide +kernel
theorem dX12_outFed_75 : decode cX12_outFed 75 = .ok (.putfield 153, 3) := by decide +kernel
theorem dX12_outFed_78 : decode cX12_outFed 78 = .ok (.return_, 1) := by decide +kernel
theorem dX12_count_0 : decode cX12_count 0 = .ok (.iconst 0, 1) := by decide +kernel
theorem dX12_count_1 : decode cX12_count 1 = .ok (.istore 6, 2) := by decide +kernel
theorem dX12_count_3 : decode cX12_count 3 = .ok (.iload 6, 2) := by decide +kernel
theorem dX12_count_5 : decode cX12_count 5 = .ok (.iload 4, 2) := by decide +kernel
theorem dX12_count_7 : decode cX12_count 7 = .ok (.if_icmp .ge 80, 3) := by decide +kernel
theorem dX12_count_10 : decode cX12_count 10 = .ok (.iload 6, 2) := by decide +kernel
theorem dX12_count_12 : decode cX12_count 12 = .ok (.bipush 16, 2) := by decide +kernel
theorem dX12_count_14 : decode cX12_count 14 = .ok (.irem, 1) := by decide +kernel
theorem dX12_count_15 : decode cX12_count 15 = .ok (.ifCond .ne 37, 3) := by decide +kernel
theorem dX12_count_18 : decode cX12_count 18 = .ok (.aload_n 0, 1) := by decide +kernel
theorem dX12_count_19 : decode cX12_count 19 = .ok (.getfield 53, 3) := by decide +kernel
theorem dX12_count_22 : decode cX12_count 22 = .ok (.iconst 0, 1) := by decide +kernel
theorem dX12_count_23 : decode cX12_count 23 = .ok (.aload_n 0, 1) := by decide +kernel
theorem dX12_count_24 : decode cX12_count 24 = .ok (.getfield 56, 3) := by decide +kernel
theorem dX12_count_27 : decode cX12_count 27 = .ok (.iconst 0, 1) := by decide +kernel
theorem dX12_count_28 : decode cX12_count 28 = .ok (.bipush 16, 2) := by decide +kernel
theorem dX12_count_30 : decode cX12_count 30 = .ok (.invokestatic 133, 3) := by decide +kernel
theorem dX12_count_33 : decode cX12_count 33 = .ok (.aload_n 0, 1) := by decide +kernel
theorem dX12_count_34 : decode cX12_count 34 = .ok (.iload_n 1, 1) := by decide +kernel
theorem dX12_count_35 : decode cX12_count 35 = .ok (.aload_n 0, 1) := by decide +kernel
theorem dX12_count_36 : decode cX12_count 36 = .ok (.getfield 56, 3) := by decide +kernel
theorem dX12_count_39 : decode cX12_count 39 = .ok (.iconst 0, 1) := by decide +kernel
theorem dX12_count_40 : decode cX12_count 40 = .ok (.invokevirtual 146, 3) := by decide +kernel
theorem dX12_count_43 : decode cX12_count 43 = .ok (.aload_n 0, 1) := by decide +kernel
theorem dX12_count_44 : decode cX12_count 44 = .ok (.getfield 53, 3) := by decide +kernel
theorem dX12_count_47 : decode cX12_count 47 = .ok (.iload 5, 2) := by decide +kernel
theorem dX12_count_49 : decode cX12_count 49 = .ok (.invokestatic 168, 3) := by decide +kernel
theorem dX12_count_52 : decode cX12_count 52 = .ok (.aload_n 0, 1) := by decide +kernel
theorem dX12_count_53 : decode cX12_count 53 = .ok (.getfield 44, 3) := by decide +kernel
theorem dX12_count_56 : decode cX12_count 56 = .ok (.iload_n 3, 1) := by decide +kernel
theorem dX12_count_57 : decode cX12_count 57 = .ok (.iload 6, 2) := by decide +kernel
theorem dX12_count_59 : decode cX12_count 59 = .ok (.iadd, 1) := by decide +kernel
theorem dX12_count_60 : decode cX12_count 60 = .ok (.aload_n 0, 1) := by decide +kernel
theorem dX12_count_61 : decode cX12_count 61 = .ok (.getfield 41, 3) := by decide +kernel
theorem dX12_count_64 : decode cX12_count 64 = .ok (.iload_n 2, 1) := by decide +kernel
theorem dX12_count_65 : decode cX12_count 65 = .ok (.iload 6, 2) := by decide +kernel
theorem dX12_count_67 : decode cX12_count 67 = .ok (.iadd, 1) := by decide +kernel
theorem dX12_count_68 : decode cX12_count 68 = .ok (.iaload, 1) := by decide +kernel
theorem dX12_count_69 : decode cX12_count 69 = .ok (.aload_n 0, 1) := by decide +kernel
theorem dX12_count_70 : decode cX12_count 70 = .ok (.getfield 56, 3) := by decide +kernel
theorem dX12_count_73 : decode cX12_count 73 = .ok (.iload 6, 2) := by decide +kernel
theorem dX12_count_75 : decode cX12_count 75 = .ok (.bipush 16, 2) := by decide +kernel
theorem dX12_count_77 : decode cX12_count 77 = .ok (.irem, 1) := by decide +kernel
theorem dX12_count_78 : decode cX12_count 78 = .ok (.iaload, 1) := by decide +kernel
theorem dX12_count_79 : decode cX12_count 79 = .ok (.ixor, 1) := by decide +kernel
theorem dX12_count_80 : decode cX12_count 80 = .ok (.iastore, 1) := by decide +kernel
theorem dX12_count_81 : decode cX12_count 81 = .ok (.iinc 6 1, 3) := by decide +kernel
theorem dX12_count_84 : decode cX12_count 84 = .ok (.goto (-81), 3) := by decide +kernel
theorem dX12_count_87 : decode cX12_count 87 = .ok (.return_, 1) := by decide +kernel
theorem dX12_nextSector_0 : decode cX12_nextSector 0 = .ok (.aload_n 1, 1) := by decide +kernel
theorem dX12_nextSector_1 : decode cX12_nextSector 1 = .ok (.bipush 15, 2) := by decide +kernel
theorem dX12_nextSector_3 : decode cX12_nextSector 3 = .ok (.iaload, 1) := by decide +kernel
theorem dX12_nextSector_4 : decode cX12_nextSector 4 = .ok (.bipush 7, 2) := by decide +kernel
theorem dX12_nextSector_6 : decode cX12_nextSector 6 = .ok (.ishr, 1) := by decide +kernel
theorem dX12_nextSector_7 : decode cX12_nextSector 7 = .ok (.istore_n 2, 1) := by decide +kernel
theorem dX12_nextSector_8 : decode cX12_nextSector 8 = .ok (.bipush 15, 2) := by decide +kernel
theorem dX12_nextSector_10 : decode cX12_nextSector 10 = .ok (.istore_n 3, 1) := by decide +kernel
theorem dX12_nextSector_11 : decode cX12_nextSector 11 = .ok (.iload_n 3, 1) := by decide +kernel
theorem dX12_nextSector_12 : decode cX12_nextSector 12 = .ok (.ifCond .lt 38, 3) := by decide +kernel
theorem dX12_nextSector_15 : decode cX12_nextSector 15 = .ok (.aload_n 1, 1) := by decide +kernel
theorem dX12_nextSector_16 : decode cX12_nextSector 16 = .ok (.iload_n 3, 1) := by decide +kernel
theorem dX12_nextSector_17 : decode cX12_nextSector 17 = .ok (.aload_n 1, 1) := by decide +kernel
theorem dX12_nextSector_18 : decode cX12_nextSector 18 = .ok (.iload_n 3, 1) := by decide +kernel
theorem dX12_nextSector_19 : decode cX12_nextSector 19 = .ok (.iaload, 1) := by decide +kernel
theorem dX12_nextSector_20 : decode cX12_nextSector 20 = .ok (.iconst 1, 1) := by decide +kernel
theorem dX12_nextSector_21 : decode cX12_nextSector 21 = .ok (.ishl, 1) := by decide +kernel
theorem dX12_nextSector_22 : decode cX12_nextSector 22 = .ok (.iload_n 3, 1) := by decide +kernel
theorem dX12_nextSector_23 : decode cX12_nextSector 23 = .ok (.ifCond .le 14, 3) := by decide +kernel
theorem dX12_nextSector_26 : decode cX12_nextSector 26 = .ok (.aload_n 1, 1) := by decide +kernel
theorem dX12_nextSector_27 : decode cX12_nextSector 27 = .ok (.iload_n 3, 1) := by decide +kernel
theorem dX12_nextSector_28 : decode cX12_nextSector 28 = .ok (.iconst 1, 1) := by decide +kernel
theorem dX12_nextSector_29 : decode cX12_nextSector 29 = .ok (.isub, 1) := by decide +kernel
theorem dX12_nextSector_30 : decode cX12_nextSector 30 = .ok (.iaload, 1) := by decide +kernel
theorem dX12_nextSector_31 : decode cX12_nextSector 31 = .ok (.bipush 7, 2) := by decide +kernel
theorem dX12_nextSector_33 : decode cX12_nextSector 33 = .ok (.ishr, 1) := by decide +kernel
theorem dX12_nextSector_34 : decode cX12_nextSector 34 = .ok (.goto 4, 3) := by decide +kernel
theorem dX12_nextSector_37 : decode cX12_nextSector 37 = .ok (.iconst 0, 1) := by decide +kernel
theorem dX12_nextSector_38 : decode cX12_nextSector 38 = .ok (.ior, 1) := by decide +kernel
theorem dX12_nextSector_39 : decode cX12_nextSector 39 = .ok (.sipush 255, 3) := by decide +kernel
theorem dX12_nextSector_42 : decode cX12_nextSector 42 = .ok (.iand, 1) := by decide +kernel
theorem dX12_nextSector_43 : decode cX12_nextSector 43 = .ok (.iastore, 1) := by decide +kernel
theorem dX12_nextSector_44 : decode cX12_nextSector 44 = .ok (.iinc 3 (-1), 3) := by decide +kernel
theorem dX12_nextSector_47 : decode cX12_nextSector 47 = .ok (.goto (-36), 3) := by decide +kernel
theorem dX12_nextSector_50 : decode cX12_nextSector 50 = .ok (.aload_n 1, 1) := by decide +kernel
theorem dX12_nextSector_51 : decode cX12_nextSector 51 = .ok (.iconst 0, 1) := by decide +kernel
theorem dX12_nextSector_52 : decode cX12_nextSector 52 = .ok (.dup2, 1) := by decide +kernel
theorem dX12_nextSector_53 : decode cX12_nextSector 53 = .ok (.iaload, 1) := by decide +kernel
theorem dX12_nextSector_54 : decode cX12_nextSector 54 = .ok (.iload_n 2, 1) := by decide +kernel
theorem dX12_nextSector_55 : decode cX12_nextSector 55 = .ok (.sipush 135, 3) := by decide +kernel
theorem dX12_nextSector_58 : decode cX12_nextSector 58 = .ok (.imul, 1) := by decide +kernel
theorem dX12_nextSector_59 : decode cX12_nextSector 59 = .ok (.ixor, 1) := by decide +kernel
theorem dX12_nextSector_60 : decode cX12_nextSector 60 = .ok (.iastore, 1) := by decide +kernel
theorem dX12_nextSector_61 : decode cX12_nextSector 61 = .ok (.return_, 1) := by decide +kernel
theorem dX12_sectorBlock_0 : decode cX12_sectorBlock 0 = .ok (.aload_n 0, 1) := by decide +kernel
theorem dX12_sectorBlock_1 : decode cX12_sectorBlock 1 = .ok (.getfield 53, 3) := by decide +kernel
theorem dX12_sectorBlock_4 : decode cX12_sectorBlock 4 = .ok (.iconst 0, 1) := by decide +kernel
theorem dX12_sectorBlock_5 : decode cX12_sectorBlock 5 = .ok (.aload_n 0, 1) := by decide +kernel
theorem dX12_sectorBlock_6 : decode cX12_sectorBlock 6 = .ok (.getfield 44, 3) := by decide +kernel
theorem dX12_sectorBlock_9 : decode cX12_sectorBlock 9 = .ok (.iload_n 2, 1) := by decide +kernel
theorem dX12_sectorBlock_10 : decode cX12_sectorBlock 10 = .ok (.bipush 16, 2) := by decide +kernel
theorem dX12_sectorBlock_12 : decode cX12_sectorBlock 12 = .ok (.invokestatic 143, 3) := by decide +kernel
theorem dX12_sectorBlock_15 : decode cX12_sectorBlock 15 = .ok (.iload_n 1, 1) := by decide +kernel
theorem dX12_sectorBlock_16 : decode cX12_sectorBlock 16 = .ok (.ifCond .eq 16, 3) := by decide +kernel
theorem dX12_sectorBlock_19 : decode cX12_sectorBlock 19 = .ok (.aload_n 0, 1) := by decide +kernel
theorem dX12_sectorBlock_20 : decode cX12_sectorBlock 20 = .ok (.iconst 0, 1) := by decide +kernel
theorem dX12_sectorBlock_21 : decode cX12_sectorBlock 21 = .ok (.aload_n 0, 1) := by decide +kernel
theorem dX12_sectorBlock_22 : decode cX12_sectorBlock 22 = .ok (.getfield 44, 3) := by decide +kernel
theorem dX12_sectorBlock_25 : decode cX12_sectorBlock 25 = .ok (.iload_n 2, 1) := by decide +kernel
theorem dX12_sectorBlock_26 : decode cX12_sectorBlock 26 = .ok (.invokevirtual 150, 3) := by decide +kernel
theorem dX12_sectorBlock_29 : decode cX12_sectorBlock 29 = .ok (.goto 13, 3) := by decide +kernel
theorem dX12_sectorBlock_32 : decode cX12_sectorBlock 32 = .ok (.aload_n 0, 1) := by decide +kernel
theorem dX12_sectorBlock_33 : decode cX12_sectorBlock 33 = .ok (.iconst 0, 1) := by decide +kernel
theorem dX12_sectorBlock_34 : decode cX12_sectorBlock 34 = .ok (.aload_n 0, 1) := by decide +kernel
theorem dX12_sectorBlock_35 : decode cX12_sectorBlock 35 = .ok (.getfield 44, 3) := by decide +kernel
theorem dX12_sectorBlock_38 : decode cX12_sectorBlock 38 = .ok (.iload_n 2, 1) := by decide +kernel
theorem dX12_sectorBlock_39 : decode cX12_sectorBlock 39 = .ok (.invokevirtual 146, 3) := by decide +kernel
theorem dX12_sectorBlock_42 : decode cX12_sectorBlock 42 = .ok (.aload_n 0, 1) := by decide +kernel
theorem dX12_sectorBlock_43 : decode cX12_sectorBlock 43 = .ok (.getfield 53, 3) := by decide +kernel
theorem dX12_sectorBlock_46 : decode cX12_sectorBlock 46 = .ok (.iconst 0, 1) := by decide +kernel
theorem dX12_sectorBlock_47 : decode cX12_sectorBlock 47 = .ok (.aload_n 0, 1) := by decide +kernel
theorem dX12_sectorBlock_48 : decode cX12_sectorBlock 48 = .ok (.getfield 44, 3) := by decide +kernel
theorem dX12_sectorBlock_51 : decode cX12_sectorBlock 51 = .ok (.iload_n 2, 1) := by decide +kernel
theorem dX12_sectorBlock_52 : decode cX12_sectorBlock 52 = .ok (.bipush 16, 2) := by decide +kernel
theorem dX12_sectorBlock_54 : decode cX12_sectorBlock 54 = .ok (.invokestatic 143, 3) := by decide +kernel
theorem dX12_sectorBlock_57 : decode cX12_sectorBlock 57 = .ok (.return_, 1) := by decide +kernel
theorem dX12_sector_0 : decode cX12_sector 0 = .ok (.aload_n 0, 1) := by decide +kernel

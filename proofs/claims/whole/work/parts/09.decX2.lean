theorem dX2_init_0 : decode cX2_init 0 = .ok (.aload_n 0, 1) := by decide +kernel
theorem dX2_init_1 : decode cX2_init 1 = .ok (.invokespecial 1, 3) := by decide +kernel
theorem dX2_init_4 : decode cX2_init 4 = .ok (.aload_n 0, 1) := by decide +kernel
theorem dX2_init_5 : decode cX2_init 5 = .ok (.bipush 60, 2) := by decide +kernel
theorem dX2_init_7 : decode cX2_init 7 = .ok (.newarray .int, 2) := by decide +kernel
theorem dX2_init_9 : decode cX2_init 9 = .ok (.putfield 7, 3) := by decide +kernel
theorem dX2_init_12 : decode cX2_init 12 = .ok (.aload_n 0, 1) := by decide +kernel
theorem dX2_init_13 : decode cX2_init 13 = .ok (.bipush 30, 2) := by decide +kernel
theorem dX2_init_15 : decode cX2_init 15 = .ok (.newarray .long, 2) := by decide +kernel
theorem dX2_init_17 : decode cX2_init 17 = .ok (.putfield 13, 3) := by decide +kernel
theorem dX2_init_20 : decode cX2_init 20 = .ok (.aload_n 0, 1) := by decide +kernel
theorem dX2_init_21 : decode cX2_init 21 = .ok (.new 17, 3) := by decide +kernel
theorem dX2_init_24 : decode cX2_init 24 = .ok (.dup, 1) := by decide +kernel
theorem dX2_init_25 : decode cX2_init 25 = .ok (.invokespecial 19, 3) := by decide +kernel
theorem dX2_init_28 : decode cX2_init 28 = .ok (.putfield 20, 3) := by decide +kernel
theorem dX2_init_31 : decode cX2_init 31 = .ok (.aload_n 0, 1) := by decide +kernel
theorem dX2_init_32 : decode cX2_init 32 = .ok (.bipush 10, 2) := by decide +kernel
theorem dX2_init_34 : decode cX2_init 34 = .ok (.putfield 24, 3) := by decide +kernel
theorem dX2_init_37 : decode cX2_init 37 = .ok (.return_, 1) := by decide +kernel
theorem dX2_expand_0 : decode cX2_expand 0 = .ok (.iload_n 3, 1) := by decide +kernel
theorem dX2_expand_1 : decode cX2_expand 1 = .ok (.bipush 32, 2) := by decide +kernel
theorem dX2_expand_3 : decode cX2_expand 3 = .ok (.if_icmp .ne 8, 3) := by decide +kernel
theorem dX2_expand_6 : decode cX2_expand 6 = .ok (.bipush 8, 2) := by decide +kernel
theorem dX2_expand_8 : decode cX2_expand 8 = .ok (.goto 15, 3) := by decide +kernel
theorem dX2_expand_11 : decode cX2_expand 11 = .ok (.iload_n 3, 1) := by decide +kernel
theorem dX2_expand_12 : decode cX2_expand 12 = .ok (.bipush 24, 2) := by decide +kernel
theorem dX2_expand_14 : decode cX2_expand 14 = .ok (.if_icmp .ne 8, 3) := by decide +kernel
theorem dX2_expand_17 : decode cX2_expand 17 = .ok (.bipush 6, 2) := by decide +kernel
theorem dX2_expand_19 : decode cX2_expand 19 = .ok (.goto 4, 3) := by decide +kernel
theorem dX2_expand_22 : decode cX2_expand 22 = .ok (.iconst 4, 1) := by decide +kernel
theorem dX2_expand_23 : decode cX2_expand 23 = .ok (.istore 4, 2) := by decide +kernel
theorem dX2_expand_25 : decode cX2_expand 25 = .ok (.aload_n 0, 1) := by decide +kernel
theorem dX2_expand_26 : decode cX2_expand 26 = .ok (.iload 4, 2) := by decide +kernel
theorem dX2_expand_28 : decode cX2_expand 28 = .ok (.bipush 6, 2) := by decide +kernel
theorem dX2_expand_30 : decode cX2_expand 30 = .ok (.iadd, 1) := by decide +kernel
theorem dX2_expand_31 : decode cX2_expand 31 = .ok (.putfield 24, 3) := by decide +kernel
theorem dX2_expand_34 : decode cX2_expand 34 = .ok (.iconst 0, 1) := by decide +kernel
theorem dX2_expand_35 : decode cX2_expand 35 = .ok (.istore 5, 2) := by decide +kernel
theorem dX2_expand_37 : decode cX2_expand 37 = .ok (.iload 5, 2) := by decide +kernel
theorem dX2_expand_39 : decode cX2_expand 39 = .ok (.iload 4, 2) := by decide +kernel
theorem dX2_expand_41 : decode cX2_expand 41 = .ok (.if_icmp .ge 30, 3) := by decide +kernel
theorem dX2_expand_44 : decode cX2_expand 44 = .ok (.aload_n 0, 1) := by decide +kernel
theorem dX2_expand_45 : decode cX2_expand 45 = .ok (.getfield 7, 3) := by decide +kernel
theorem dX2_expand_48 : decode cX2_expand 48 = .ok (.iload 5, 2) := by decide +kernel
theorem dX2_expand_50 : decode cX2_expand 50 = .ok (.aload_n 1, 1) := by decide +kernel
theorem dX2_expand_51 : decode cX2_expand 51 = .ok (.iload_n 2, 1) := by decide +kernel
theorem dX2_expand_52 : decode cX2_expand 52 = .ok (.iconst 4, 1) := by decide +kernel
theorem dX2_expand_53 : decode cX2_expand 53 = .ok (.iload 5, 2) := by decide +kernel
theorem dX2_expand_55 : decode cX2_expand 55 = .ok (.imul, 1) := by decide +kernel
theorem dX2_expand_56 : decode cX2_expand 56 = .ok (.iadd, 1) := by decide +kernel
theorem dX2_expand_57 : decode cX2_expand 57 = .ok (.invokevirtual 28, 3) := by decide +kernel
theorem dX2_expand_60 : decode cX2_expand 60 = .ok (.bipush 32, 2) := by decide +kernel
theorem dX2_expand_62 : decode cX2_expand 62 = .ok (.lushr, 1) := by decide +kernel
theorem dX2_expand_63 : decode cX2_expand 63 = .ok (.l2i, 1) := by decide +kernel
theorem dX2_expand_64 : decode cX2_expand 64 = .ok (.iastore, 1) := by decide +kernel
theorem dX2_expand_65 : decode cX2_expand 65 = .ok (.iinc 5 1, 3) := by decide +kernel
theorem dX2_expand_68 : decode cX2_expand 68 = .ok (.goto (-31), 3) := by decide +kernel
theorem dX2_expand_71 : decode cX2_expand 71 = .ok (.iconst 1, 1) := by decide +kernel
theorem dX2_expand_72 : decode cX2_expand 72 = .ok (.istore 5, 2) := by decide +kernel
theorem dX2_expand_74 : decode cX2_expand 74 = .ok (.iconst 0, 1) := by decide +kernel
theorem dX2_expand_75 : decode cX2_expand 75 = .ok (.istore 6, 2) := by decide +kernel
theorem dX2_expand_77 : decode cX2_expand 77 = .ok (.iload 4, 2) := by decide +kernel
theorem dX2_expand_79 : decode cX2_expand 79 = .ok (.istore 7, 2) := by decide +kernel
theorem dX2_expand_81 : decode cX2_expand 81 = .ok (.iload 7, 2) := by decide +kernel
theorem dX2_expand_83 : decode cX2_expand 83 = .ok (.iconst 4, 1) := by decide +kernel
theorem dX2_expand_84 : decode cX2_expand 84 = .ok (.aload_n 0, 1) := by decide +kernel
theorem dX2_expand_85 : decode cX2_expand 85 = .ok (.getfield 24, 3) := by decide +kernel
theorem dX2_expand_88 : decode cX2_expand 88 = .ok (.imul, 1) := by decide +kernel
theorem dX2_expand_89 : decode cX2_expand 89 = .ok (.iconst 4, 1) := by decide +kernel
theorem dX2_expand_90 : decode cX2_expand 90 = .ok (.iadd, 1) := by decide +kernel
theorem dX2_expand_91 : decode cX2_expand 91 = .ok (.if_icmp .ge 127, 3) := by decide +kernel
theorem dX2_expand_94 : decode cX2_expand 94 = .ok (.aload_n 0, 1) := by decide +kernel
theorem dX2_expand_95 : decode cX2_expand 95 = .ok (.getfield 7, 3) := by decide +kernel
theorem dX2_expand_98 : decode cX2_expand 98 = .ok (.iload 7, 2) := by decide +kernel
theorem dX2_expand_100 : decode cX2_expand 100 = .ok (.iconst 1, 1) := by decide +kernel
theorem dX2_expand_101 : decode cX2_expand 101 = .ok (.isub, 1) := by decide +kernel
theorem dX2_expand_102 : decode cX2_expand 102 = .ok (.iaload, 1) := by decide +kernel
theorem dX2_expand_103 : decode cX2_expand 103 = .ok (.istore 8, 2) := by decide +kernel
theorem dX2_expand_105 : decode cX2_expand 105 = .ok (.iload 6, 2) := by decide +kernel
theorem dX2_expand_107 : decode cX2_expand 107 = .ok (.ifCond .ne 45, 3) := by decide +kernel
theorem dX2_expand_110 : decode cX2_expand 110 = .ok (.aload_n 0, 1) := by decide +kernel
theorem dX2_expand_111 : decode cX2_expand 111 = .ok (.iload 8, 2) := by decide +kernel
theorem dX2_expand_113 : decode cX2_expand 113 = .ok (.bipush 8, 2) := by decide +kernel
theorem dX2_expand_115 : decode cX2_expand 115 = .ok (.ishl, 1) := by decide +kernel
theorem dX2_expand_116 : decode cX2_expand 116 = .ok (.iload 8, 2) := by decide +kernel
theorem dX2_expand_118 : decode cX2_expand 118 = .ok (.bipush 24, 2) := by decide +kernel
theorem dX2_expand_120 : decode cX2_expand 120 = .ok (.iushr, 1) := by decide +kernel
theorem dX2_expand_121 : decode cX2_expand 121 = .ok (.ior, 1) := by decide +kernel
theorem dX2_expand_122 : decode cX2_expand 122 = .ok (.invokevirtual 34, 3) := by decide +kernel
theorem dX2_expand_125 : decode cX2_expand 125 = .ok (.iload 5, 2) := by decide +kernel
theorem dX2_expand_127 : decode cX2_expand 127 = .ok (.bipush 24, 2) := by decide +kernel
theorem dX2_expand_129 : decode cX2_expand 129 = .ok (.ishl, 1) := by decide +kernel
theorem dX2_expand_130 : decode cX2_expand 130 = .ok (.ixor, 1) := by decide +kernel
theorem dX2_expand_131 : decode cX2_expand 131 = .ok (.istore 8, 2) := by decide +kernel
theorem dX2_expand_133 : decode cX2_expand 133 = .ok (.iload 5, 2) := by decide +kernel
theorem dX2_expand_135 : decode cX2_expand 135 = .ok (.iconst 1, 1) := by decide +kernel
theorem dX2_expand_136 : decode cX2_expand 136 = .ok (.ishl, 1) := by decide +kernel
theorem dX2_expand_137 : decode cX2_expand 137 = .ok (.iload 5, 2) := by decide +kernel
theorem dX2_expand_139 : decode cX2_expand 139 = .ok (.bipush 7, 2) := by decide +kernel
theorem dX2_expand_141 : decode cX2_expand 141 = .ok (.ishr, 1) := by decide +kernel
theorem dX2_expand_142 : decode cX2_expand 142 = .ok (.sipush 283, 3) := by decide +kernel
theorem dX2_expand_145 : decode cX2_expand 145 = .ok (.imul, 1) := by decide +kernel
theorem dX2_expand_146 : decode cX2_expand 146 = .ok (.ixor, 1) := by decide +kernel
theorem dX2_expand_147 : decode cX2_expand 147 = .ok (.istore 5, 2) := by decide +kernel
theorem dX2_expand_149 : decode cX2_expand 149 = .ok (.goto 24, 3) := by decide +kernel
theorem dX2_expand_152 : decode cX2_expand 152 = .ok (.iload 4, 2) := by decide +kernel
theorem dX2_expand_154 : decode cX2_expand 154 = .ok (.bipush 8, 2) := by decide +kernel
theorem dX2_expand_156 : decode cX2_expand 156 = .ok (.if_icmp .ne 17, 3) := by decide +kernel
theorem dX2_expand_159 : decode cX2_expand 159 = .ok (.iload 6, 2) := by decide +kernel
theorem dX2_expand_161 : decode cX2_expand 161 = .ok (.iconst 4, 1) := by decide +kernel
theorem dX2_expand_162 : decode cX2_expand 162 = .ok (.if_icmp .ne 11, 3) := by decide +kernel
theorem dX2_expand_165 : decode cX2_expand 165 = .ok (.aload_n 0, 1) := by decide +kernel
theorem dX2_expand_166 : decode cX2_expand 166 = .ok (.iload 8, 2) := by decide +kernel
theorem dX2_expand_168 : decode cX2_expand 168 = .ok (.invokevirtual 34, 3) := by decide +kernel
theorem dX2_expand_171 : decode cX2_expand 171 = .ok (.istore 8, 2) := by decide +kernel
theorem dX2_expand_173 : decode cX2_expand 173 = .ok (.aload_n 0, 1) := by decide +kernel
theorem dX2_expand_174 : decode cX2_expand 174 = .ok (.getfield 7, 3) := by decide +kernel
theorem dX2_expand_177 : decode cX2_expand 177 = .ok (.iload 7, 2) := by decide +kernel
theorem dX2_expand_179 : decode cX2_expand 179 = .ok (.aload_n 0, 1) := by decide +kernel
theorem dX2_expand_180 : decode cX2_expand 180 = .ok (.getfield 7, 3) := by decide +kernel
theorem dX2_expand_183 : decode cX2_expand 183 = .ok (.iload 7, 2) := by decide +kernel
theorem dX2_expand_185 : decode cX2_expand 185 = .ok (.iload 4, 2) := by decide +kernel
theorem dX2_expand_187 : decode cX2_expand 187 = .ok (.isub, 1) := by decide +kernel
theorem dX2_expand_188 : decode cX2_expand 188 = .ok (.iaload, 1) := by decide +kernel
theorem dX2_expand_189 : decode cX2_expand 189 = .ok (.iload 8, 2) := by decide +kernel
theorem dX2_expand_191 : decode cX2_expand 191 = .ok (.ixor, 1) := by decide +kernel
theorem dX2_expand_192 : decode cX2_expand 192 = .ok (.iastore, 1) := by decide +kernel
theorem dX2_expand_193 : decode cX2_expand 193 = .ok (.iload 6, 2) := by decide +kernel
theorem dX2_expand_195 : decode cX2_expand 195 = .ok (.iconst 1, 1) := by decide +kernel
theorem dX2_expand_196 : decode cX2_expand 196 = .ok (.iadd, 1) := by decide +kernel
theorem dX2_expand_197 : decode cX2_expand 197 = .ok (.iload 4, 2) := by decide +kernel
theorem dX2_expand_199 : decode cX2_expand 199 = .ok (.if_icmp .ne 7, 3) := by decide +kernel
theorem dX2_expand_202 : decode cX2_expand 202 = .ok (.iconst 0, 1) := by decide +kernel
theorem dX2_expand_203 : decode cX2_expand 203 = .ok (.goto 7, 3) := by decide +kernel
theorem dX2_expand_206 : decode cX2_expand 206 = .ok (.iload 6, 2) := by decide +kernel
theorem dX2_expand_208 : decode cX2_expand 208 = .ok (.iconst 1, 1) := by decide +kernel
theorem dX2_expand_209 : decode cX2_expand 209 = .ok (.iadd, 1) := by decide +kernel
theorem dX2_expand_210 : decode cX2_expand 210 = .ok (.istore 6, 2) := by decide +kernel
theorem dX2_expand_212 : decode cX2_expand 212 = .ok (.iinc 7 1, 3) := by decide +kernel
theorem dX2_expand_215 : decode cX2_expand 215 = .ok (.goto (-134), 3) := by decide +kernel
theorem dX2_expand_218 : decode cX2_expand 218 = .ok (.aload_n 0, 1) := by decide +kernel
theorem dX2_expand_219 : decode cX2_expand 219 = .ok (.invokevirtual 38, 3) := by decide +kernel
theorem dX2_expand_222 : decode cX2_expand 222 = .ok (.return_, 1) := by decide +kernel
theorem dX2_boxed_0 : decode cX2_boxed 0 = .ok (.aload_n 0, 1) := by decide +kernel
theorem dX2_boxed_1 : decode cX2_boxed 1 = .ok (.getfield 20, 3) := by decide +kernel
theorem dX2_boxed_4 : decode cX2_boxed 4 = .ok (.iload_n 1, 1) := by decide +kernel
theorem dX2_boxed_5 : decode cX2_boxed 5 = .ok (.i2l, 1) := by decide +kernel
theorem dX2_boxed_6 : decode cX2_boxed 6 = .ok (.ldc2_w 41, 3) := by decide +kernel
theorem dX2_boxed_9 : decode cX2_boxed 9 = .ok (.land, 1) := by decide +kernel
theorem dX2_boxed_10 : decode cX2_boxed 10 = .ok (.lconst 0, 1) := by decide +kernel
theorem dX2_boxed_11 : decode cX2_boxed 11 = .ok (.invokevirtual 43, 3) := by decide +kernel
theorem dX2_boxed_14 : decode cX2_boxed 14 = .ok (.aload_n 0, 1) := by decide +kernel
theorem dX2_boxed_15 : decode cX2_boxed 15 = .ok (.getfield 20, 3) := by decide +kernel
theorem dX2_boxed_18 : decode cX2_boxed 18 = .ok (.invokevirtual 47, 3) := by decide +kernel
theorem dX2_boxed_21 : decode cX2_boxed 21 = .ok (.aload_n 0, 1) := by decide +kernel
theorem dX2_boxed_22 : decode cX2_boxed 22 = .ok (.getfield 20, 3) := by decide +kernel
theorem dX2_boxed_25 : decode cX2_boxed 25 = .ok (.invokevirtual 50, 3) := by decide +kernel
theorem dX2_boxed_28 : decode cX2_boxed 28 = .ok (.l2i, 1) := by decide +kernel
theorem dX2_boxed_29 : decode cX2_boxed 29 = .ok (.ireturn, 1) := by decide +kernel
theorem dX2_sliceKeys_0 : decode cX2_sliceKeys 0 = .ok (.iconst 0, 1) := by decide +kernel
theorem dX2_sliceKeys_1 : decode cX2_sliceKeys 1 = .ok (.istore_n 1, 1) := by decide +kernel
theorem dX2_sliceKeys_2 : decode cX2_sliceKeys 2 = .ok (.iload_n 1, 1) := by decide +kernel
theorem dX2_sliceKeys_3 : decode cX2_sliceKeys 3 = .ok (.bipush 15, 2) := by decide +kernel
theorem dX2_sliceKeys_5 : decode cX2_sliceKeys 5 = .ok (.if_icmp .ge 64, 3) := by decide +kernel
theorem dX2_sliceKeys_8 : decode cX2_sliceKeys 8 = .ok (.aload_n 0, 1) := by decide +kernel
theorem dX2_sliceKeys_9 : decode cX2_sliceKeys 9 = .ok (.getfield 20, 3) := by decide +kernel
theorem dX2_sliceKeys_12 : decode cX2_sliceKeys 12 = .ok (.aload_n 0, 1) := by decide +kernel
theorem dX2_sliceKeys_13 : decode cX2_sliceKeys 13 = .ok (.iconst 4, 1) := by decide +kernel
theorem dX2_sliceKeys_14 : decode cX2_sliceKeys 14 = .ok (.iload_n 1, 1) := by decide +kernel
theorem dX2_sliceKeys_15 : decode cX2_sliceKeys 15 = .ok (.imul, 1) := by decide +kernel
theorem dX2_sliceKeys_16 : decode cX2_sliceKeys 16 = .ok (.invokevirtual 54, 3) := by decide +kernel
theorem dX2_sliceKeys_19 : decode cX2_sliceKeys 19 = .ok (.aload_n 0, 1) := by decide +kernel
theorem dX2_sliceKeys_20 : decode cX2_sliceKeys 20 = .ok (.iconst 4, 1) := by decide +kernel
theorem dX2_sliceKeys_21 : decode cX2_sliceKeys 21 = .ok (.iload_n 1, 1) := by decide +kernel
theorem dX2_sliceKeys_22 : decode cX2_sliceKeys 22 = .ok (.imul, 1) := by decide +kernel
theorem dX2_sliceKeys_23 : decode cX2_sliceKeys 23 = .ok (.iconst 2, 1) := by decide +kernel
theorem dX2_sliceKeys_24 : decode cX2_sliceKeys 24 = .ok (.iadd, 1) := by decide +kernel
theorem dX2_sliceKeys_25 : decode cX2_sliceKeys 25 = .ok (.invokevirtual 54, 3) := by decide +kernel
theorem dX2_sliceKeys_28 : decode cX2_sliceKeys 28 = .ok (.invokevirtual 43, 3) := by decide +kernel
theorem dX2_sliceKeys_31 : decode cX2_sliceKeys 31 = .ok (.aload_n 0, 1) := by decide +kernel
theorem dX2_sliceKeys_32 : decode cX2_sliceKeys 32 = .ok (.getfield 13, 3) := by decide +kernel
theorem dX2_sliceKeys_35 : decode cX2_sliceKeys 35 = .ok (.iconst 2, 1) := by decide +kernel
theorem dX2_sliceKeys_36 : decode cX2_sliceKeys 36 = .ok (.iload_n 1, 1) := by decide +kernel
theorem dX2_sliceKeys_37 : decode cX2_sliceKeys 37 = .ok (.imul, 1) := by decide +kernel
theorem dX2_sliceKeys_38 : decode cX2_sliceKeys 38 = .ok (.aload_n 0, 1) := by decide +kernel
theorem dX2_sliceKeys_39 : decode cX2_sliceKeys 39 = .ok (.getfield 20, 3) := by decide +kernel
theorem dX2_sliceKeys_42 : decode cX2_sliceKeys 42 = .ok (.getfield 57, 3) := by decide +kernel
theorem dX2_sliceKeys_45 : decode cX2_sliceKeys 45 = .ok (.lastore, 1) := by decide +kernel
theorem dX2_sliceKeys_46 : decode cX2_sliceKeys 46 = .ok (.aload_n 0, 1) := by decide +kernel
theorem dX2_sliceKeys_47 : decode cX2_sliceKeys 47 = .ok (.getfield 13, 3) := by decide +kernel
theorem dX2_sliceKeys_50 : decode cX2_sliceKeys 50 = .ok (.iconst 2, 1) := by decide +kernel
theorem dX2_sliceKeys_51 : decode cX2_sliceKeys 51 = .ok (.iload_n 1, 1) := by decide +kernel
theorem dX2_sliceKeys_52 : decode cX2_sliceKeys 52 = .ok (.imul, 1) := by decide +kernel
theorem dX2_sliceKeys_53 : decode cX2_sliceKeys 53 = .ok (.iconst 1, 1) := by decide +kernel
theorem dX2_sliceKeys_54 : decode cX2_sliceKeys 54 = .ok (.iadd, 1) := by decide +kernel
theorem dX2_sliceKeys_55 : decode cX2_sliceKeys 55 = .ok (.aload_n 0, 1) := by decide +kernel
theorem dX2_sliceKeys_56 : decode cX2_sliceKeys 56 = .ok (.getfield 20, 3) := by decide +kernel
theorem dX2_sliceKeys_59 : decode cX2_sliceKeys 59 = .ok (.getfield 61, 3) := by decide +kernel
theorem dX2_sliceKeys_62 : decode cX2_sliceKeys 62 = .ok (.lastore, 1) := by decide +kernel
theorem dX2_sliceKeys_63 : decode cX2_sliceKeys 63 = .ok (.iinc 1 1, 3) := by decide +kernel
theorem dX2_sliceKeys_66 : decode cX2_sliceKeys 66 = .ok (.goto (-64), 3) := by decide +kernel
theorem dX2_sliceKeys_69 : decode cX2_sliceKeys 69 = .ok (.return_, 1) := by decide +kernel
theorem dX2_pair_0 : decode cX2_pair 0 = .ok (.iload_n 1, 1) := by decide +kernel
theorem dX2_pair_1 : decode cX2_pair 1 = .ok (.ifCond .lt 41, 3) := by decide +kernel
theorem dX2_pair_4 : decode cX2_pair 4 = .ok (.iload_n 1, 1) := by decide +kernel
theorem dX2_pair_5 : decode cX2_pair 5 = .ok (.iconst 1, 1) := by decide +kernel
theorem dX2_pair_6 : decode cX2_pair 6 = .ok (.iadd, 1) := by decide +kernel
theorem dX2_pair_7 : decode cX2_pair 7 = .ok (.aload_n 0, 1) := by decide +kernel
theorem dX2_pair_8 : decode cX2_pair 8 = .ok (.getfield 7, 3) := by decide +kernel
theorem dX2_pair_11 : decode cX2_pair 11 = .ok (.arraylength, 1) := by decide +kernel
theorem dX2_pair_12 : decode cX2_pair 12 = .ok (.if_icmp .ge 30, 3) := by decide +kernel
theorem dX2_pair_15 : decode cX2_pair 15 = .ok (.aload_n 0, 1) := by decide +kernel
theorem dX2_pair_16 : decode cX2_pair 16 = .ok (.getfield 7, 3) := by decide +kernel
theorem dX2_pair_19 : decode cX2_pair 19 = .ok (.iload_n 1, 1) := by decide +kernel
theorem dX2_pair_20 : decode cX2_pair 20 = .ok (.iaload, 1) := by decide +kernel
theorem dX2_pair_21 : decode cX2_pair 21 = .ok (.i2l, 1) := by decide +kernel
theorem dX2_pair_22 : decode cX2_pair 22 = .ok (.bipush 32, 2) := by decide +kernel
theorem dX2_pair_24 : decode cX2_pair 24 = .ok (.lshl, 1) := by decide +kernel
theorem dX2_pair_25 : decode cX2_pair 25 = .ok (.aload_n 0, 1) := by decide +kernel
theorem dX2_pair_26 : decode cX2_pair 26 = .ok (.getfield 7, 3) := by decide +kernel
theorem dX2_pair_29 : decode cX2_pair 29 = .ok (.iload_n 1, 1) := by decide +kernel
theorem dX2_pair_30 : decode cX2_pair 30 = .ok (.iconst 1, 1) := by decide +kernel
theorem dX2_pair_31 : decode cX2_pair 31 = .ok (.iadd, 1) := by decide +kernel
theorem dX2_pair_32 : decode cX2_pair 32 = .ok (.iaload, 1) := by decide +kernel
theorem dX2_pair_33 : decode cX2_pair 33 = .ok (.i2l, 1) := by decide +kernel
theorem dX2_pair_34 : decode cX2_pair 34 = .ok (.ldc2_w 41, 3) := by decide +kernel
theorem dX2_pair_37 : decode cX2_pair 37 = .ok (.land, 1) := by decide +kernel
theorem dX2_pair_38 : decode cX2_pair 38 = .ok (.lor, 1) := by decide +kernel
theorem dX2_pair_39 : decode cX2_pair 39 = .ok (.goto 4, 3) := by decide +kernel
theorem dX2_pair_42 : decode cX2_pair 42 = .ok (.lconst 0, 1) := by decide +kernel
theorem dX2_pair_43 : decode cX2_pair 43 = .ok (.lreturn, 1) := by decide +kernel
theorem dX2_keyOctets_0 : decode cX2_keyOctets 0 = .ok (.bipush 16, 2) := by decide +kernel
theorem dX2_keyOctets_2 : decode cX2_keyOctets 2 = .ok (.aload_n 0, 1) := by decide +kernel
theorem dX2_keyOctets_3 : decode cX2_keyOctets 3 = .ok (.getfield 24, 3) := by decide +kernel
theorem dX2_keyOctets_6 : decode cX2_keyOctets 6 = .ok (.iconst 1, 1) := by decide +kernel
theorem dX2_keyOctets_7 : decode cX2_keyOctets 7 = .ok (.iadd, 1) := by decide +kernel
theorem dX2_keyOctets_8 : decode cX2_keyOctets 8 = .ok (.imul, 1) := by decide +kernel
theorem dX2_keyOctets_9 : decode cX2_keyOctets 9 = .ok (.ireturn, 1) := by decide +kernel
theorem dX2_keyOctet_0 : decode cX2_keyOctet 0 = .ok (.iload_n 1, 1) := by decide +kernel
theorem dX2_keyOctet_1 : decode cX2_keyOctet 1 = .ok (.iconst 2, 1) := by decide +kernel
theorem dX2_keyOctet_2 : decode cX2_keyOctet 2 = .ok (.ishr, 1) := by decide +kernel
theorem dX2_keyOctet_3 : decode cX2_keyOctet 3 = .ok (.istore_n 2, 1) := by decide +kernel
theorem dX2_keyOctet_4 : decode cX2_keyOctet 4 = .ok (.iload_n 2, 1) := by decide +kernel
theorem dX2_keyOctet_5 : decode cX2_keyOctet 5 = .ok (.ifCond .lt 35, 3) := by decide +kernel
theorem dX2_keyOctet_8 : decode cX2_keyOctet 8 = .ok (.iload_n 2, 1) := by decide +kernel
theorem dX2_keyOctet_9 : decode cX2_keyOctet 9 = .ok (.aload_n 0, 1) := by decide +kernel
theorem dX2_keyOctet_10 : decode cX2_keyOctet 10 = .ok (.getfield 7, 3) := by decide +kernel
theorem dX2_keyOctet_13 : decode cX2_keyOctet 13 = .ok (.arraylength, 1) := by decide +kernel
theorem dX2_keyOctet_14 : decode cX2_keyOctet 14 = .ok (.if_icmp .ge 26, 3) := by decide +kernel
theorem dX2_keyOctet_17 : decode cX2_keyOctet 17 = .ok (.aload_n 0, 1) := by decide +kernel
theorem dX2_keyOctet_18 : decode cX2_keyOctet 18 = .ok (.getfield 7, 3) := by decide +kernel
theorem dX2_keyOctet_21 : decode cX2_keyOctet 21 = .ok (.iload_n 2, 1) := by decide +kernel
theorem dX2_keyOctet_22 : decode cX2_keyOctet 22 = .ok (.iaload, 1) := by decide +kernel
theorem dX2_keyOctet_23 : decode cX2_keyOctet 23 = .ok (.bipush 24, 2) := by decide +kernel
theorem dX2_keyOctet_25 : decode cX2_keyOctet 25 = .ok (.bipush 8, 2) := by decide +kernel
theorem dX2_keyOctet_27 : decode cX2_keyOctet 27 = .ok (.iload_n 1, 1) := by decide +kernel
theorem dX2_keyOctet_28 : decode cX2_keyOctet 28 = .ok (.iconst 3, 1) := by decide +kernel
theorem dX2_keyOctet_29 : decode cX2_keyOctet 29 = .ok (.iand, 1) := by decide +kernel
theorem dX2_keyOctet_30 : decode cX2_keyOctet 30 = .ok (.imul, 1) := by decide +kernel
theorem dX2_keyOctet_31 : decode cX2_keyOctet 31 = .ok (.isub, 1) := by decide +kernel
theorem dX2_keyOctet_32 : decode cX2_keyOctet 32 = .ok (.iushr, 1) := by decide +kernel
theorem dX2_keyOctet_33 : decode cX2_keyOctet 33 = .ok (.sipush 255, 3) := by decide +kernel
theorem dX2_keyOctet_36 : decode cX2_keyOctet 36 = .ok (.iand, 1) := by decide +kernel
theorem dX2_keyOctet_37 : decode cX2_keyOctet 37 = .ok (.goto 4, 3) := by decide +kernel
theorem dX2_keyOctet_40 : decode cX2_keyOctet 40 = .ok (.iconst 0, 1) := by decide +kernel
theorem dX2_keyOctet_41 : decode cX2_keyOctet 41 = .ok (.ireturn, 1) := by decide +kernel
theorem dX2_encrypt_0 : decode cX2_encrypt 0 = .ok (.aload_n 0, 1) := by decide +kernel
theorem dX2_encrypt_1 : decode cX2_encrypt 1 = .ok (.getfield 20, 3) := by decide +kernel
theorem dX2_encrypt_4 : decode cX2_encrypt 4 = .ok (.aload_n 1, 1) := by decide +kernel
theorem dX2_encrypt_5 : decode cX2_encrypt 5 = .ok (.getfield 64, 3) := by decide +kernel
theorem dX2_encrypt_8 : decode cX2_encrypt 8 = .ok (.aload_n 1, 1) := by decide +kernel
theorem dX2_encrypt_9 : decode cX2_encrypt 9 = .ok (.getfield 67, 3) := by decide +kernel
theorem dX2_encrypt_12 : decode cX2_encrypt 12 = .ok (.invokevirtual 43, 3) := by decide +kernel
theorem dX2_encrypt_15 : decode cX2_encrypt 15 = .ok (.aload_n 0, 1) := by decide +kernel
theorem dX2_encrypt_16 : decode cX2_encrypt 16 = .ok (.getfield 20, 3) := by decide +kernel
theorem dX2_encrypt_19 : decode cX2_encrypt 19 = .ok (.aload_n 0, 1) := by decide +kernel
theorem dX2_encrypt_20 : decode cX2_encrypt 20 = .ok (.getfield 13, 3) := by decide +kernel
theorem dX2_encrypt_23 : decode cX2_encrypt 23 = .ok (.iconst 0, 1) := by decide +kernel
theorem dX2_encrypt_24 : decode cX2_encrypt 24 = .ok (.invokevirtual 68, 3) := by decide +kernel
theorem dX2_encrypt_27 : decode cX2_encrypt 27 = .ok (.iconst 1, 1) := by decide +kernel
theorem dX2_encrypt_28 : decode cX2_encrypt 28 = .ok (.istore_n 2, 1) := by decide +kernel
theorem dX2_encrypt_29 : decode cX2_encrypt 29 = .ok (.iload_n 2, 1) := by decide +kernel
theorem dX2_encrypt_30 : decode cX2_encrypt 30 = .ok (.aload_n 0, 1) := by decide +kernel
theorem dX2_encrypt_31 : decode cX2_encrypt 31 = .ok (.getfield 24, 3) := by decide +kernel
theorem dX2_encrypt_34 : decode cX2_encrypt 34 = .ok (.if_icmp .ge 42, 3) := by decide +kernel
theorem dX2_encrypt_37 : decode cX2_encrypt 37 = .ok (.aload_n 0, 1) := by decide +kernel
theorem dX2_encrypt_38 : decode cX2_encrypt 38 = .ok (.getfield 20, 3) := by decide +kernel
theorem dX2_encrypt_41 : decode cX2_encrypt 41 = .ok (.invokevirtual 47, 3) := by decide +kernel
theorem dX2_encrypt_44 : decode cX2_encrypt 44 = .ok (.aload_n 0, 1) := by decide +kernel
theorem dX2_encrypt_45 : decode cX2_encrypt 45 = .ok (.getfield 20, 3) := by decide +kernel
theorem dX2_encrypt_48 : decode cX2_encrypt 48 = .ok (.invokevirtual 72, 3) := by decide +kernel
theorem dX2_encrypt_51 : decode cX2_encrypt 51 = .ok (.aload_n 0, 1) := by decide +kernel
theorem dX2_encrypt_52 : decode cX2_encrypt 52 = .ok (.getfield 20, 3) := by decide +kernel
theorem dX2_encrypt_55 : decode cX2_encrypt 55 = .ok (.invokevirtual 75, 3) := by decide +kernel
theorem dX2_encrypt_58 : decode cX2_encrypt 58 = .ok (.aload_n 0, 1) := by decide +kernel
theorem dX2_encrypt_59 : decode cX2_encrypt 59 = .ok (.getfield 20, 3) := by decide +kernel
theorem dX2_encrypt_62 : decode cX2_encrypt 62 = .ok (.aload_n 0, 1) := by decide +kernel
theorem dX2_encrypt_63 : decode cX2_encrypt 63 = .ok (.getfield 13, 3) := by decide +kernel
theorem dX2_encrypt_66 : decode cX2_encrypt 66 = .ok (.iload_n 2, 1) := by decide +kernel
theorem dX2_encrypt_67 : decode cX2_encrypt 67 = .ok (.invokevirtual 68, 3) := by decide +kernel
theorem dX2_encrypt_70 : decode cX2_encrypt 70 = .ok (.iinc 2 1, 3) := by decide +kernel
theorem dX2_encrypt_73 : decode cX2_encrypt 73 = .ok (.goto (-44), 3) := by decide +kernel
theorem dX2_encrypt_76 : decode cX2_encrypt 76 = .ok (.aload_n 0, 1) := by decide +kernel
theorem dX2_encrypt_77 : decode cX2_encrypt 77 = .ok (.getfield 20, 3) := by decide +kernel
theorem dX2_encrypt_80 : decode cX2_encrypt 80 = .ok (.invokevirtual 47, 3) := by decide +kernel
theorem dX2_encrypt_83 : decode cX2_encrypt 83 = .ok (.aload_n 0, 1) := by decide +kernel
theorem dX2_encrypt_84 : decode cX2_encrypt 84 = .ok (.getfield 20, 3) := by decide +kernel
theorem dX2_encrypt_87 : decode cX2_encrypt 87 = .ok (.invokevirtual 72, 3) := by decide +kernel
theorem dX2_encrypt_90 : decode cX2_encrypt 90 = .ok (.aload_n 0, 1) := by decide +kernel
theorem dX2_encrypt_91 : decode cX2_encrypt 91 = .ok (.getfield 20, 3) := by decide +kernel
theorem dX2_encrypt_94 : decode cX2_encrypt 94 = .ok (.aload_n 0, 1) := by decide +kernel
theorem dX2_encrypt_95 : decode cX2_encrypt 95 = .ok (.getfield 13, 3) := by decide +kernel
theorem dX2_encrypt_98 : decode cX2_encrypt 98 = .ok (.aload_n 0, 1) := by decide +kernel
theorem dX2_encrypt_99 : decode cX2_encrypt 99 = .ok (.getfield 24, 3) := by decide +kernel
theorem dX2_encrypt_102 : decode cX2_encrypt 102 = .ok (.invokevirtual 68, 3) := by decide +kernel
theorem dX2_encrypt_105 : decode cX2_encrypt 105 = .ok (.aload_n 1, 1) := by decide +kernel
theorem dX2_encrypt_106 : decode cX2_encrypt 106 = .ok (.aload_n 0, 1) := by decide +kernel
theorem dX2_encrypt_107 : decode cX2_encrypt 107 = .ok (.getfield 20, 3) := by decide +kernel
theorem dX2_encrypt_110 : decode cX2_encrypt 110 = .ok (.invokevirtual 50, 3) := by decide +kernel
theorem dX2_encrypt_113 : decode cX2_encrypt 113 = .ok (.aload_n 0, 1) := by decide +kernel
theorem dX2_encrypt_114 : decode cX2_encrypt 114 = .ok (.getfield 20, 3) := by decide +kernel
theorem dX2_encrypt_117 : decode cX2_encrypt 117 = .ok (.invokevirtual 78, 3) := by decide +kernel
theorem dX2_encrypt_120 : decode cX2_encrypt 120 = .ok (.invokevirtual 81, 3) := by decide +kernel
theorem dX2_encrypt_123 : decode cX2_encrypt 123 = .ok (.return_, 1) := by decide +kernel
theorem dX2_decrypt_0 : decode cX2_decrypt 0 = .ok (.aload_n 0, 1) := by decide +kernel
theorem dX2_decrypt_1 : decode cX2_decrypt 1 = .ok (.getfield 20, 3) := by decide +kernel
theorem dX2_decrypt_4 : decode cX2_decrypt 4 = .ok (.aload_n 1, 1) := by decide +kernel
theorem dX2_decrypt_5 : decode cX2_decrypt 5 = .ok (.getfield 64, 3) := by decide +kernel
theorem dX2_decrypt_8 : decode cX2_decrypt 8 = .ok (.aload_n 1, 1) := by decide +kernel
theorem dX2_decrypt_9 : decode cX2_decrypt 9 = .ok (.getfield 67, 3) := by decide +kernel
theorem dX2_decrypt_12 : decode cX2_decrypt 12 = .ok (.invokevirtual 43, 3) := by decide +kernel
theorem dX2_decrypt_15 : decode cX2_decrypt 15 = .ok (.aload_n 0, 1) := by decide +kernel
theorem dX2_decrypt_16 : decode cX2_decrypt 16 = .ok (.getfield 20, 3) := by decide +kernel
theorem dX2_decrypt_19 : decode cX2_decrypt 19 = .ok (.aload_n 0, 1) := by decide +kernel
theorem dX2_decrypt_20 : decode cX2_decrypt 20 = .ok (.getfield 13, 3) := by decide +kernel
theorem dX2_decrypt_23 : decode cX2_decrypt 23 = .ok (.aload_n 0, 1) := by decide +kernel
theorem dX2_decrypt_24 : decode cX2_decrypt 24 = .ok (.getfield 24, 3) := by decide +kernel
theorem dX2_decrypt_27 : decode cX2_decrypt 27 = .ok (.invokevirtual 68, 3) := by decide +kernel
theorem dX2_decrypt_30 : decode cX2_decrypt 30 = .ok (.aload_n 0, 1) := by decide +kernel
theorem dX2_decrypt_31 : decode cX2_decrypt 31 = .ok (.getfield 24, 3) := by decide +kernel
theorem dX2_decrypt_34 : decode cX2_decrypt 34 = .ok (.iconst 1, 1) := by decide +kernel
theorem dX2_decrypt_35 : decode cX2_decrypt 35 = .ok (.isub, 1) := by decide +kernel
theorem dX2_decrypt_36 : decode cX2_decrypt 36 = .ok (.istore_n 2, 1) := by decide +kernel
theorem dX2_decrypt_37 : decode cX2_decrypt 37 = .ok (.iload_n 2, 1) := by decide +kernel
theorem dX2_decrypt_38 : decode cX2_decrypt 38 = .ok (.ifCond .le 56, 3) := by decide +kernel
theorem dX2_decrypt_41 : decode cX2_decrypt 41 = .ok (.aload_n 0, 1) := by decide +kernel
theorem dX2_decrypt_42 : decode cX2_decrypt 42 = .ok (.getfield 20, 3) := by decide +kernel
theorem dX2_decrypt_45 : decode cX2_decrypt 45 = .ok (.invokevirtual 84, 3) := by decide +kernel
theorem dX2_decrypt_48 : decode cX2_decrypt 48 = .ok (.aload_n 0, 1) := by decide +kernel
theorem dX2_decrypt_49 : decode cX2_decrypt 49 = .ok (.getfield 20, 3) := by decide +kernel
theorem dX2_decrypt_52 : decode cX2_decrypt 52 = .ok (.invokevirtual 87, 3) := by decide +kernel
theorem dX2_decrypt_55 : decode cX2_decrypt 55 = .ok (.aload_n 0, 1) := by decide +kernel
theorem dX2_decrypt_56 : decode cX2_decrypt 56 = .ok (.getfield 20, 3) := by decide +kernel
theorem dX2_decrypt_59 : decode cX2_decrypt 59 = .ok (.aload_n 0, 1) := by decide +kernel
theorem dX2_decrypt_60 : decode cX2_decrypt 60 = .ok (.getfield 13, 3) := by decide +kernel
theorem dX2_decrypt_63 : decode cX2_decrypt 63 = .ok (.iload_n 2, 1) := by decide +kernel
theorem dX2_decrypt_64 : decode cX2_decrypt 64 = .ok (.invokevirtual 68, 3) := by decide +kernel
theorem dX2_decrypt_67 : decode cX2_decrypt 67 = .ok (.aload_n 0, 1) := by decide +kernel
theorem dX2_decrypt_68 : decode cX2_decrypt 68 = .ok (.getfield 20, 3) := by decide +kernel
theorem dX2_decrypt_71 : decode cX2_decrypt 71 = .ok (.invokevirtual 75, 3) := by decide +kernel
theorem dX2_decrypt_74 : decode cX2_decrypt 74 = .ok (.aload_n 0, 1) := by decide +kernel
theorem dX2_decrypt_75 : decode cX2_decrypt 75 = .ok (.getfield 20, 3) := by decide +kernel
theorem dX2_decrypt_78 : decode cX2_decrypt 78 = .ok (.invokevirtual 75, 3) := by decide +kernel
theorem dX2_decrypt_81 : decode cX2_decrypt 81 = .ok (.aload_n 0, 1) := by decide +kernel
theorem dX2_decrypt_82 : decode cX2_decrypt 82 = .ok (.getfield 20, 3) := by decide +kernel
theorem dX2_decrypt_85 : decode cX2_decrypt 85 = .ok (.invokevirtual 75, 3) := by decide +kernel
theorem dX2_decrypt_88 : decode cX2_decrypt 88 = .ok (.iinc 2 (-1), 3) := by decide +kernel
theorem dX2_decrypt_91 : decode cX2_decrypt 91 = .ok (.goto (-54), 3) := by decide +kernel
theorem dX2_decrypt_94 : decode cX2_decrypt 94 = .ok (.aload_n 0, 1) := by decide +kernel
theorem dX2_decrypt_95 : decode cX2_decrypt 95 = .ok (.getfield 20, 3) := by decide +kernel
theorem dX2_decrypt_98 : decode cX2_decrypt 98 = .ok (.invokevirtual 84, 3) := by decide +kernel
theorem dX2_decrypt_101 : decode cX2_decrypt 101 = .ok (.aload_n 0, 1) := by decide +kernel
theorem dX2_decrypt_102 : decode cX2_decrypt 102 = .ok (.getfield 20, 3) := by decide +kernel
theorem dX2_decrypt_105 : decode cX2_decrypt 105 = .ok (.invokevirtual 87, 3) := by decide +kernel
theorem dX2_decrypt_108 : decode cX2_decrypt 108 = .ok (.aload_n 0, 1) := by decide +kernel
theorem dX2_decrypt_109 : decode cX2_decrypt 109 = .ok (.getfield 20, 3) := by decide +kernel
theorem dX2_decrypt_112 : decode cX2_decrypt 112 = .ok (.aload_n 0, 1) := by decide +kernel
theorem dX2_decrypt_113 : decode cX2_decrypt 113 = .ok (.getfield 13, 3) := by decide +kernel
theorem dX2_decrypt_116 : decode cX2_decrypt 116 = .ok (.iconst 0, 1) := by decide +kernel
theorem dX2_decrypt_117 : decode cX2_decrypt 117 = .ok (.invokevirtual 68, 3) := by decide +kernel
theorem dX2_decrypt_120 : decode cX2_decrypt 120 = .ok (.aload_n 1, 1) := by decide +kernel
theorem dX2_decrypt_121 : decode cX2_decrypt 121 = .ok (.aload_n 0, 1) := by decide +kernel
theorem dX2_decrypt_122 : decode cX2_decrypt 122 = .ok (.getfield 20, 3) := by decide +kernel
theorem dX2_decrypt_125 : decode cX2_decrypt 125 = .ok (.invokevirtual 50, 3) := by decide +kernel
theorem dX2_decrypt_128 : decode cX2_decrypt 128 = .ok (.aload_n 0, 1) := by decide +kernel
theorem dX2_decrypt_129 : decode cX2_decrypt 129 = .ok (.getfield 20, 3) := by decide +kernel
theorem dX2_decrypt_132 : decode cX2_decrypt 132 = .ok (.invokevirtual 78, 3) := by decide +kernel
theorem dX2_decrypt_135 : decode cX2_decrypt 135 = .ok (.invokevirtual 81, 3) := by decide +kernel
theorem dX2_decrypt_138 : decode cX2_decrypt 138 = .ok (.return_, 1) := by decide +kernel

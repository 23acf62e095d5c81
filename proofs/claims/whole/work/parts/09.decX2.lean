theorem dX2_init_0 : decode cX2_init 0 = .ok (.aload_n 0, 1) := by decide +kernel
theorem dX2_init_1 : decode cX2_init 1 = .ok (.invokespecial 1, 3) := by decide +kernel
theorem dX2_init_4 : decode cX2_init 4 = .ok (.aload_n 0, 1) := by decide +kernel
theorem dX2_init_5 : decode cX2_init 5 = .ok (.bipush 60, 2) := by decide +kernel
theorem dX2_init_7 : decode cX2_init 7 = .ok (.newarray .int, 2) := by decide +kernel
theorem dX2_init_9 : decode cX2_init 9 = .ok (.putfield 7, 3) := by decide +kernel
theorem dX2_init_12 : decode cX2_init 12 = .ok (.aload_n 0, 1) := by decide +kernel
theorem dX2_init_13 : decode cX2_init 13 = .ok (.bipush 30, 2) := by decide +kernel
theorem dX2_init_15 : decode cX2_init 15 = .ok (.newarray .long, 2) := by decide +kernel
theorem dX2_init_17 : decode cX2_init 17 = .ok (.putfield 13, 3) := by decide +kernel
theorem dX2_init_20 : decode cX2_init 20 = .ok (.aload_n 0, 1) := by decide +kernel
theorem dX2_init_21 : decode cX2_init 21 = .ok (.new 17, 3) := by decide +kernel
theorem dX2_init_24 : decode cX2_init 24 = .ok (.dup, 1) := by decide +kernel
theorem dX2_init_25 : decode cX2_init 25 = .ok (.invokespecial 19, 3) := by decide +kernel
theorem dX2_init_28 : decode cX2_init 28 = .ok (.putfield 20, 3) := by decide +kernel
theorem dX2_init_31 : decode cX2_init 31 = .ok (.aload_n 0, 1) := by decide +kernel
theorem dX2_init_32 : decode cX2_init 32 = .ok (.bipush 10, 2) := by decide +kernel
theorem dX2_init_34 : decode cX2_init 34 = .ok (.putfield 24, 3) := by decide +kernel
theorem dX2_init_37 : decode cX2_init 37 = .ok (.return_, 1) := by decide +kernel
theorem dX2_expand_0 : decode cX2_expand 0 = .ok (.iload_n 3, 1) := by decide +kernel
theorem dX2_expand_1 : decode cX2_expand 1 = .ok (.bipush 32, 2) := by decide +kernel
theorem dX2_expand_3 : decode cX2_expand 3 = .ok (.if_icmp .ne 8, 3) := by decide +kernel
theorem dX2_expand_6 : decode cX2_expand 6 = .ok (.bipush 8, 2) := by decide +kernel
theorem dX2_expand_8 : decode cX2_expand 8 = .ok (.goto 15, 3) := by decide +kernel
theorem dX2_expand_11 : decode cX2_expand 11 = .ok (.iload_n 3, 1) := by decide +kernel
theorem dX2_expand_12 : decode cX2_expand 12 = .ok (.bipush 24, 2) := by decide +kernel
theorem dX2_expand_14 : decode cX2_expand 14 = .ok (.if_icmp .ne 8, 3) := by decide +kernel
theorem dX2_expand_17 : decode cX2_expand 17 = .ok (.bipush 6, 2) := by decide +kernel
theorem dX2_expand_19 : decode cX2_expand 19 = .ok (.goto 4, 3) := by decide +kernel
theorem dX2_expand_22 : decode cX2_expand 22 = .ok (.iconst 4, 1) := by decide +kernel
theorem dX2_expand_23 : decode cX2_expand 23 = .ok (.istore 4, 2) := by decide +kernel
theorem dX2_expand_25 : decode cX2_expand 25 = .ok (.aload_n 0, 1) := by decide +kernel
theorem dX2_expand_26 : decode cX2_expand 26 = .ok (.iload 4, 2) := by decide +kernel
theorem dX2_expand_28 : decode cX2_expand 28 = .ok (.bipush 6, 2) := by decide +kernel
theorem dX2_expand_30 : decode cX2_expand 30 = .ok (.iadd, 1) := by decide +kernel
theorem dX2_expand_31 : decode cX2_expand 31 = .ok (.putfield 24, 3) := by decide +kernel
theorem dX2_expand_34 : decode cX2_expand 34 = .ok (.iconst 4, 1) := by decide +kernel
theorem dX2_expand_35 : decode cX2_expand 35 = .ok (.aload_n 0, 1) := by decide +kernel
theorem dX2_expand_36 : decode cX2_expand 36 = .ok (.getfield 24, 3) := by decide +kernel
theorem dX2_expand_39 : decode cX2_expand 39 = .ok (.imul, 1) := by decide +kernel
theorem dX2_expand_40 : decode cX2_expand 40 = .ok (.iconst 4, 1) := by decide +kernel
theorem dX2_expand_41 : decode cX2_expand 41 = .ok (.iadd, 1) := by decide +kernel
theorem dX2_expand_42 : decode cX2_expand 42 = .ok (.aload_n 0, 1) := by decide +kernel
theorem dX2_expand_43 : decode cX2_expand 43 = .ok (.getfield 7, 3) := by decide +kernel
theorem dX2_expand_46 : decode cX2_expand 46 = .ok (.arraylength, 1) := by decide +kernel
theorem dX2_expand_47 : decode cX2_expand 47 = .ok (.invokestatic 28, 3) := by decide +kernel
theorem dX2_expand_50 : decode cX2_expand 50 = .ok (.istore 5, 2) := by decide +kernel
theorem dX2_expand_52 : decode cX2_expand 52 = .ok (.iconst 0, 1) := by decide +kernel
theorem dX2_expand_53 : decode cX2_expand 53 = .ok (.istore 6, 2) := by decide +kernel
theorem dX2_expand_55 : decode cX2_expand 55 = .ok (.iload 6, 2) := by decide +kernel
theorem dX2_expand_57 : decode cX2_expand 57 = .ok (.iload 4, 2) := by decide +kernel
theorem dX2_expand_59 : decode cX2_expand 59 = .ok (.if_icmp .ge 37, 3) := by decide +kernel
theorem dX2_expand_62 : decode cX2_expand 62 = .ok (.iload 6, 2) := by decide +kernel
theorem dX2_expand_64 : decode cX2_expand 64 = .ok (.iload 5, 2) := by decide +kernel
theorem dX2_expand_66 : decode cX2_expand 66 = .ok (.if_icmp .ge 30, 3) := by decide +kernel
theorem dX2_expand_69 : decode cX2_expand 69 = .ok (.aload_n 0, 1) := by decide +kernel
theorem dX2_expand_70 : decode cX2_expand 70 = .ok (.getfield 7, 3) := by decide +kernel
theorem dX2_expand_73 : decode cX2_expand 73 = .ok (.iload 6, 2) := by decide +kernel
theorem dX2_expand_75 : decode cX2_expand 75 = .ok (.aload_n 1, 1) := by decide +kernel
theorem dX2_expand_76 : decode cX2_expand 76 = .ok (.iload_n 2, 1) := by decide +kernel
theorem dX2_expand_77 : decode cX2_expand 77 = .ok (.iconst 4, 1) := by decide +kernel
theorem dX2_expand_78 : decode cX2_expand 78 = .ok (.iload 6, 2) := by decide +kernel
theorem dX2_expand_80 : decode cX2_expand 80 = .ok (.imul, 1) := by decide +kernel
theorem dX2_expand_81 : decode cX2_expand 81 = .ok (.iadd, 1) := by decide +kernel
theorem dX2_expand_82 : decode cX2_expand 82 = .ok (.invokevirtual 34, 3) := by decide +kernel
theorem dX2_expand_85 : decode cX2_expand 85 = .ok (.bipush 32, 2) := by decide +kernel
theorem dX2_expand_87 : decode cX2_expand 87 = .ok (.lushr, 1) := by decide +kernel
theorem dX2_expand_88 : decode cX2_expand 88 = .ok (.l2i, 1) := by decide +kernel
theorem dX2_expand_89 : decode cX2_expand 89 = .ok (.iastore, 1) := by decide +kernel
theorem dX2_expand_90 : decode cX2_expand 90 = .ok (.iinc 6 1, 3) := by decide +kernel
theorem dX2_expand_93 : decode cX2_expand 93 = .ok (.goto (-38), 3) := by decide +kernel
theorem dX2_expand_96 : decode cX2_expand 96 = .ok (.iconst 1, 1) := by decide +kernel
theorem dX2_expand_97 : decode cX2_expand 97 = .ok (.istore 6, 2) := by decide +kernel
theorem dX2_expand_99 : decode cX2_expand 99 = .ok (.iconst 0, 1) := by decide +kernel
theorem dX2_expand_100 : decode cX2_expand 100 = .ok (.istore 7, 2) := by decide +kernel
theorem dX2_expand_102 : decode cX2_expand 102 = .ok (.iload 4, 2) := by decide +kernel
theorem dX2_expand_104 : decode cX2_expand 104 = .ok (.istore 8, 2) := by decide +kernel
theorem dX2_expand_106 : decode cX2_expand 106 = .ok (.iload 8, 2) := by decide +kernel
theorem dX2_expand_108 : decode cX2_expand 108 = .ok (.iload 5, 2) := by decide +kernel
theorem dX2_expand_110 : decode cX2_expand 110 = .ok (.if_icmp .ge 127, 3) := by decide +kernel
theorem dX2_expand_113 : decode cX2_expand 113 = .ok (.aload_n 0, 1) := by decide +kernel
theorem dX2_expand_114 : decode cX2_expand 114 = .ok (.getfield 7, 3) := by decide +kernel
theorem dX2_expand_117 : decode cX2_expand 117 = .ok (.iload 8, 2) := by decide +kernel
theorem dX2_expand_119 : decode cX2_expand 119 = .ok (.iconst 1, 1) := by decide +kernel
theorem dX2_expand_120 : decode cX2_expand 120 = .ok (.isub, 1) := by decide +kernel
theorem dX2_expand_121 : decode cX2_expand 121 = .ok (.iaload, 1) := by decide +kernel
theorem dX2_expand_122 : decode cX2_expand 122 = .ok (.istore 9, 2) := by decide +kernel
theorem dX2_expand_124 : decode cX2_expand 124 = .ok (.iload 7, 2) := by decide +kernel
theorem dX2_expand_126 : decode cX2_expand 126 = .ok (.ifCond .ne 45, 3) := by decide +kernel
theorem dX2_expand_129 : decode cX2_expand 129 = .ok (.aload_n 0, 1) := by decide +kernel
theorem dX2_expand_130 : decode cX2_expand 130 = .ok (.iload 9, 2) := by decide +kernel
theorem dX2_expand_132 : decode cX2_expand 132 = .ok (.bipush 8, 2) := by decide +kernel
theorem dX2_expand_134 : decode cX2_expand 134 = .ok (.ishl, 1) := by decide +kernel
theorem dX2_expand_135 : decode cX2_expand 135 = .ok (.iload 9, 2) := by decide +kernel
theorem dX2_expand_137 : decode cX2_expand 137 = .ok (.bipush 24, 2) := by decide +kernel
theorem dX2_expand_139 : decode cX2_expand 139 = .ok (.iushr, 1) := by decide +kernel
theorem dX2_expand_140 : decode cX2_expand 140 = .ok (.ior, 1) := by decide +kernel
theorem dX2_expand_141 : decode cX2_expand 141 = .ok (.invokevirtual 40, 3) := by decide +kernel
theorem dX2_expand_144 : decode cX2_expand 144 = .ok (.iload 6, 2) := by decide +kernel
theorem dX2_expand_146 : decode cX2_expand 146 = .ok (.bipush 24, 2) := by decide +kernel
theorem dX2_expand_148 : decode cX2_expand 148 = .ok (.ishl, 1) := by decide +kernel
theorem dX2_expand_149 : decode cX2_expand 149 = .ok (.ixor, 1) := by decide +kernel
theorem dX2_expand_150 : decode cX2_expand 150 = .ok (.istore 9, 2) := by decide +kernel
theorem dX2_expand_152 : decode cX2_expand 152 = .ok (.iload 6, 2) := by decide +kernel
theorem dX2_expand_154 : decode cX2_expand 154 = .ok (.iconst 1, 1) := by decide +kernel
theorem dX2_expand_155 : decode cX2_expand 155 = .ok (.ishl, 1) := by decide +kernel
theorem dX2_expand_156 : decode cX2_expand 156 = .ok (.iload 6, 2) := by decide +kernel
theorem dX2_expand_158 : decode cX2_expand 158 = .ok (.bipush 7, 2) := by decide +kernel
theorem dX2_expand_160 : decode cX2_expand 160 = .ok (.ishr, 1) := by decide +kernel
theorem dX2_expand_161 : decode cX2_expand 161 = .ok (.sipush 283, 3) := by decide +kernel
theorem dX2_expand_164 : decode cX2_expand 164 = .ok (.imul, 1) := by decide +kernel
theorem dX2_expand_165 : decode cX2_expand 165 = .ok (.ixor, 1) := by decide +kernel
theorem dX2_expand_166 : decode cX2_expand 166 = .ok (.istore 6, 2) := by decide +kernel
theorem dX2_expand_168 : decode cX2_expand 168 = .ok (.goto 24, 3) := by decide +kernel
theorem dX2_expand_171 : decode cX2_expand 171 = .ok (.iload 4, 2) := by decide +kernel
theorem dX2_expand_173 : decode cX2_expand 173 = .ok (.bipush 8, 2) := by decide +kernel
theorem dX2_expand_175 : decode cX2_expand 175 = .ok (.if_icmp .ne 17, 3) := by decide +kernel
theorem dX2_expand_178 : decode cX2_expand 178 = .ok (.iload 7, 2) := by decide +kernel
theorem dX2_expand_180 : decode cX2_expand 180 = .ok (.iconst 4, 1) := by decide +kernel
theorem dX2_expand_181 : decode cX2_expand 181 = .ok (.if_icmp .ne 11, 3) := by decide +kernel
theorem dX2_expand_184 : decode cX2_expand 184 = .ok (.aload_n 0, 1) := by decide +kernel
theorem dX2_expand_185 : decode cX2_expand 185 = .ok (.iload 9, 2) := by decide +kernel
theorem dX2_expand_187 : decode cX2_expand 187 = .ok (.invokevirtual 40, 3) := by decide +kernel
theorem dX2_expand_190 : decode cX2_expand 190 = .ok (.istore 9, 2) := by decide +kernel
theorem dX2_expand_192 : decode cX2_expand 192 = .ok (.aload_n 0, 1) := by decide +kernel
theorem dX2_expand_193 : decode cX2_expand 193 = .ok (.getfield 7, 3) := by decide +kernel
theorem dX2_expand_196 : decode cX2_expand 196 = .ok (.iload 8, 2) := by decide +kernel
theorem dX2_expand_198 : decode cX2_expand 198 = .ok (.aload_n 0, 1) := by decide +kernel
theorem dX2_expand_199 : decode cX2_expand 199 = .ok (.getfield 7, 3) := by decide +kernel
theorem dX2_expand_202 : decode cX2_expand 202 = .ok (.iload 8, 2) := by decide +kernel
theorem dX2_expand_204 : decode cX2_expand 204 = .ok (.iload 4, 2) := by decide +kernel
theorem dX2_expand_206 : decode cX2_expand 206 = .ok (.isub, 1) := by decide +kernel
theorem dX2_expand_207 : decode cX2_expand 207 = .ok (.iaload, 1) := by decide +kernel
theorem dX2_expand_208 : decode cX2_expand 208 = .ok (.iload 9, 2) := by decide +kernel
theorem dX2_expand_210 : decode cX2_expand 210 = .ok (.ixor, 1) := by decide +kernel
theorem dX2_expand_211 : decode cX2_expand 211 = .ok (.iastore, 1) := by decide +kernel
theorem dX2_expand_212 : decode cX2_expand 212 = .ok (.iload 7, 2) := by decide +kernel
theorem dX2_expand_214 : decode cX2_expand 214 = .ok (.iconst 1, 1) := by decide +kernel
theorem dX2_expand_215 : decode cX2_expand 215 = .ok (.iadd, 1) := by decide +kernel
theorem dX2_expand_216 : decode cX2_expand 216 = .ok (.iload 4, 2) := by decide +kernel
theorem dX2_expand_218 : decode cX2_expand 218 = .ok (.if_icmp .ne 7, 3) := by decide +kernel
theorem dX2_expand_221 : decode cX2_expand 221 = .ok (.iconst 0, 1) := by decide +kernel
theorem dX2_expand_222 : decode cX2_expand 222 = .ok (.goto 7, 3) := by decide +kernel
theorem dX2_expand_225 : decode cX2_expand 225 = .ok (.iload 7, 2) := by decide +kernel
theorem dX2_expand_227 : decode cX2_expand 227 = .ok (.iconst 1, 1) := by decide +kernel
theorem dX2_expand_228 : decode cX2_expand 228 = .ok (.iadd, 1) := by decide +kernel
theorem dX2_expand_229 : decode cX2_expand 229 = .ok (.istore 7, 2) := by decide +kernel
theorem dX2_expand_231 : decode cX2_expand 231 = .ok (.iinc 8 1, 3) := by decide +kernel
theorem dX2_expand_234 : decode cX2_expand 234 = .ok (.goto (-128), 3) := by decide +kernel
theorem dX2_expand_237 : decode cX2_expand 237 = .ok (.aload_n 0, 1) := by decide +kernel
theorem dX2_expand_238 : decode cX2_expand 238 = .ok (.invokevirtual 44, 3) := by decide +kernel
theorem dX2_expand_241 : decode cX2_expand 241 = .ok (.return_, 1) := by decide +kernel
theorem dX2_boxed_0 : decode cX2_boxed 0 = .ok (.aload_n 0, 1) := by decide +kernel
theorem dX2_boxed_1 : decode cX2_boxed 1 = .ok (.getfield 20, 3) := by decide +kernel
theorem dX2_boxed_4 : decode cX2_boxed 4 = .ok (.iload_n 1, 1) := by decide +kernel
theorem dX2_boxed_5 : decode cX2_boxed 5 = .ok (.i2l, 1) := by decide +kernel
theorem dX2_boxed_6 : decode cX2_boxed 6 = .ok (.ldc2_w 47, 3) := by decide +kernel
theorem dX2_boxed_9 : decode cX2_boxed 9 = .ok (.land, 1) := by decide +kernel
theorem dX2_boxed_10 : decode cX2_boxed 10 = .ok (.lconst 0, 1) := by decide +kernel
theorem dX2_boxed_11 : decode cX2_boxed 11 = .ok (.invokevirtual 49, 3) := by decide +kernel
theorem dX2_boxed_14 : decode cX2_boxed 14 = .ok (.aload_n 0, 1) := by decide +kernel
theorem dX2_boxed_15 : decode cX2_boxed 15 = .ok (.getfield 20, 3) := by decide +kernel
theorem dX2_boxed_18 : decode cX2_boxed 18 = .ok (.invokevirtual 53, 3) := by decide +kernel
theorem dX2_boxed_21 : decode cX2_boxed 21 = .ok (.aload_n 0, 1) := by decide +kernel
theorem dX2_boxed_22 : decode cX2_boxed 22 = .ok (.getfield 20, 3) := by decide +kernel
theorem dX2_boxed_25 : decode cX2_boxed 25 = .ok (.invokevirtual 56, 3) := by decide +kernel
theorem dX2_boxed_28 : decode cX2_boxed 28 = .ok (.l2i, 1) := by decide +kernel
theorem dX2_boxed_29 : decode cX2_boxed 29 = .ok (.ireturn, 1) := by decide +kernel
theorem dX2_sliceKeys_0 : decode cX2_sliceKeys 0 = .ok (.iconst 0, 1) := by decide +kernel
theorem dX2_sliceKeys_1 : decode cX2_sliceKeys 1 = .ok (.istore_n 1, 1) := by decide +kernel
theorem dX2_sliceKeys_2 : decode cX2_sliceKeys 2 = .ok (.iconst 2, 1) := by decide +kernel
theorem dX2_sliceKeys_3 : decode cX2_sliceKeys 3 = .ok (.iload_n 1, 1) := by decide +kernel
theorem dX2_sliceKeys_4 : decode cX2_sliceKeys 4 = .ok (.imul, 1) := by decide +kernel
theorem dX2_sliceKeys_5 : decode cX2_sliceKeys 5 = .ok (.iconst 1, 1) := by decide +kernel
theorem dX2_sliceKeys_6 : decode cX2_sliceKeys 6 = .ok (.iadd, 1) := by decide +kernel
theorem dX2_sliceKeys_7 : decode cX2_sliceKeys 7 = .ok (.aload_n 0, 1) := by decide +kernel
theorem dX2_sliceKeys_8 : decode cX2_sliceKeys 8 = .ok (.getfield 13, 3) := by decide +kernel
theorem dX2_sliceKeys_11 : decode cX2_sliceKeys 11 = .ok (.arraylength, 1) := by decide +kernel
theorem dX2_sliceKeys_12 : decode cX2_sliceKeys 12 = .ok (.if_icmp .ge 64, 3) := by decide +kernel
theorem dX2_sliceKeys_15 : decode cX2_sliceKeys 15 = .ok (.aload_n 0, 1) := by decide +kernel
theorem dX2_sliceKeys_16 : decode cX2_sliceKeys 16 = .ok (.getfield 20, 3) := by decide +kernel
theorem dX2_sliceKeys_19 : decode cX2_sliceKeys 19 = .ok (.aload_n 0, 1) := by decide +kernel
theorem dX2_sliceKeys_20 : decode cX2_sliceKeys 20 = .ok (.iconst 4, 1) := by decide +kernel
theorem dX2_sliceKeys_21 : decode cX2_sliceKeys 21 = .ok (.iload_n 1, 1) := by decide +kernel
theorem dX2_sliceKeys_22 : decode cX2_sliceKeys 22 = .ok (.imul, 1) := by decide +kernel
theorem dX2_sliceKeys_23 : decode cX2_sliceKeys 23 = .ok (.invokevirtual 60, 3) := by decide +kernel
theorem dX2_sliceKeys_26 : decode cX2_sliceKeys 26 = .ok (.aload_n 0, 1) := by decide +kernel
theorem dX2_sliceKeys_27 : decode cX2_sliceKeys 27 = .ok (.iconst 4, 1) := by decide +kernel
theorem dX2_sliceKeys_28 : decode cX2_sliceKeys 28 = .ok (.iload_n 1, 1) := by decide +kernel
theorem dX2_sliceKeys_29 : decode cX2_sliceKeys 29 = .ok (.imul, 1) := by decide +kernel
theorem dX2_sliceKeys_30 : decode cX2_sliceKeys 30 = .ok (.iconst 2, 1) := by decide +kernel
theorem dX2_sliceKeys_31 : decode cX2_sliceKeys 31 = .ok (.iadd, 1) := by decide +kernel
theorem dX2_sliceKeys_32 : decode cX2_sliceKeys 32 = .ok (.invokevirtual 60, 3) := by decide +kernel
theorem dX2_sliceKeys_35 : decode cX2_sliceKeys 35 = .ok (.invokevirtual 49, 3) := by decide +kernel
theorem dX2_sliceKeys_38 : decode cX2_sliceKeys 38 = .ok (.aload_n 0, 1) := by decide +kernel
theorem dX2_sliceKeys_39 : decode cX2_sliceKeys 39 = .ok (.getfield 13, 3) := by decide +kernel
theorem dX2_sliceKeys_42 : decode cX2_sliceKeys 42 = .ok (.iconst 2, 1) := by decide +kernel
theorem dX2_sliceKeys_43 : decode cX2_sliceKeys 43 = .ok (.iload_n 1, 1) := by decide +kernel
theorem dX2_sliceKeys_44 : decode cX2_sliceKeys 44 = .ok (.imul, 1) := by decide +kernel
theorem dX2_sliceKeys_45 : decode cX2_sliceKeys 45 = .ok (.aload_n 0, 1) := by decide +kernel
theorem dX2_sliceKeys_46 : decode cX2_sliceKeys 46 = .ok (.getfield 20, 3) := by decide +kernel
theorem dX2_sliceKeys_49 : decode cX2_sliceKeys 49 = .ok (.getfield 63, 3) := by decide +kernel
theorem dX2_sliceKeys_52 : decode cX2_sliceKeys 52 = .ok (.lastore, 1) := by decide +kernel
theorem dX2_sliceKeys_53 : decode cX2_sliceKeys 53 = .ok (.aload_n 0, 1) := by decide +kernel
theorem dX2_sliceKeys_54 : decode cX2_sliceKeys 54 = .ok (.getfield 13, 3) := by decide +kernel
theorem dX2_sliceKeys_57 : decode cX2_sliceKeys 57 = .ok (.iconst 2, 1) := by decide +kernel
theorem dX2_sliceKeys_58 : decode cX2_sliceKeys 58 = .ok (.iload_n 1, 1) := by decide +kernel
theorem dX2_sliceKeys_59 : decode cX2_sliceKeys 59 = .ok (.imul, 1) := by decide +kernel
theorem dX2_sliceKeys_60 : decode cX2_sliceKeys 60 = .ok (.iconst 1, 1) := by decide +kernel
theorem dX2_sliceKeys_61 : decode cX2_sliceKeys 61 = .ok (.iadd, 1) := by decide +kernel
theorem dX2_sliceKeys_62 : decode cX2_sliceKeys 62 = .ok (.aload_n 0, 1) := by decide +kernel
theorem dX2_sliceKeys_63 : decode cX2_sliceKeys 63 = .ok (.getfield 20, 3) := by decide +kernel
theorem dX2_sliceKeys_66 : decode cX2_sliceKeys 66 = .ok (.getfield 67, 3) := by decide +kernel
theorem dX2_sliceKeys_69 : decode cX2_sliceKeys 69 = .ok (.lastore, 1) := by decide +kernel
theorem dX2_sliceKeys_70 : decode cX2_sliceKeys 70 = .ok (.iinc 1 1, 3) := by decide +kernel
theorem dX2_sliceKeys_73 : decode cX2_sliceKeys 73 = .ok (.goto (-71), 3) := by decide +kernel
theorem dX2_sliceKeys_76 : decode cX2_sliceKeys 76 = .ok (.return_, 1) := by decide +kernel
theorem dX2_pair_0 : decode cX2_pair 0 = .ok (.iload_n 1, 1) := by decide +kernel
theorem dX2_pair_1 : decode cX2_pair 1 = .ok (.ifCond .lt 41, 3) := by decide +kernel
theorem dX2_pair_4 : decode cX2_pair 4 = .ok (.iload_n 1, 1) := by decide +kernel
theorem dX2_pair_5 : decode cX2_pair 5 = .ok (.iconst 1, 1) := by decide +kernel
theorem dX2_pair_6 : decode cX2_pair 6 = .ok (.iadd, 1) := by decide +kernel
theorem dX2_pair_7 : decode cX2_pair 7 = .ok (.aload_n 0, 1) := by decide +kernel
theorem dX2_pair_8 : decode cX2_pair 8 = .ok (.getfield 7, 3) := by decide +kernel
theorem dX2_pair_11 : decode cX2_pair 11 = .ok (.arraylength, 1) := by decide +kernel
theorem dX2_pair_12 : decode cX2_pair 12 = .ok (.if_icmp .ge 30, 3) := by decide +kernel
theorem dX2_pair_15 : decode cX2_pair 15 = .ok (.aload_n 0, 1) := by decide +kernel
theorem dX2_pair_16 : decode cX2_pair 16 = .ok (.getfield 7, 3) := by decide +kernel
theorem dX2_pair_19 : decode cX2_pair 19 = .ok (.iload_n 1, 1) := by decide +kernel
theorem dX2_pair_20 : decode cX2_pair 20 = .ok (.iaload, 1) := by decide +kernel
theorem dX2_pair_21 : decode cX2_pair 21 = .ok (.i2l, 1) := by decide +kernel
theorem dX2_pair_22 : decode cX2_pair 22 = .ok (.bipush 32, 2) := by decide +kernel
theorem dX2_pair_24 : decode cX2_pair 24 = .ok (.lshl, 1) := by decide +kernel
theorem dX2_pair_25 : decode cX2_pair 25 = .ok (.aload_n 0, 1) := by decide +kernel
theorem dX2_pair_26 : decode cX2_pair 26 = .ok (.getfield 7, 3) := by decide +kernel
theorem dX2_pair_29 : decode cX2_pair 29 = .ok (.iload_n 1, 1) := by decide +kernel
theorem dX2_pair_30 : decode cX2_pair 30 = .ok (.iconst 1, 1) := by decide +kernel
theorem dX2_pair_31 : decode cX2_pair 31 = .ok (.iadd, 1) := by decide +kernel
theorem dX2_pair_32 : decode cX2_pair 32 = .ok (.iaload, 1) := by decide +kernel
theorem dX2_pair_33 : decode cX2_pair 33 = .ok (.i2l, 1) := by decide +kernel
theorem dX2_pair_34 : decode cX2_pair 34 = .ok (.ldc2_w 47, 3) := by decide +kernel
theorem dX2_pair_37 : decode cX2_pair 37 = .ok (.land, 1) := by decide +kernel
theorem dX2_pair_38 : decode cX2_pair 38 = .ok (.lor, 1) := by decide +kernel
theorem dX2_pair_39 : decode cX2_pair 39 = .ok (.goto 4, 3) := by decide +kernel
theorem dX2_pair_42 : decode cX2_pair 42 = .ok (.lconst 0, 1) := by decide +kernel
theorem dX2_pair_43 : decode cX2_pair 43 = .ok (.lreturn, 1) := by decide +kernel
theorem dX2_keyOctets_0 : decode cX2_keyOctets 0 = .ok (.bipush 16, 2) := by decide +kernel
theorem dX2_keyOctets_2 : decode cX2_keyOctets 2 = .ok (.aload_n 0, 1) := by decide +kernel
theorem dX2_keyOctets_3 : decode cX2_keyOctets 3 = .ok (.getfield 24, 3) := by decide +kernel
theorem dX2_keyOctets_6 : decode cX2_keyOctets 6 = .ok (.iconst 1, 1) := by decide +kernel
theorem dX2_keyOctets_7 : decode cX2_keyOctets 7 = .ok (.iadd, 1) := by decide +kernel
theorem dX2_keyOctets_8 : decode cX2_keyOctets 8 = .ok (.imul, 1) := by decide +kernel
theorem dX2_keyOctets_9 : decode cX2_keyOctets 9 = .ok (.ireturn, 1) := by decide +kernel
theorem dX2_keyOctet_0 : decode cX2_keyOctet 0 = .ok (.iload_n 1, 1) := by decide +kernel
theorem dX2_keyOctet_1 : decode cX2_keyOctet 1 = .ok (.iconst 2, 1) := by decide +kernel
theorem dX2_keyOctet_2 : decode cX2_keyOctet 2 = .ok (.ishr, 1) := by decide +kernel
theorem dX2_keyOctet_3 : decode cX2_keyOctet 3 = .ok (.istore_n 2, 1) := by decide +kernel
theorem dX2_keyOctet_4 : decode cX2_keyOctet 4 = .ok (.iload_n 2, 1) := by decide +kernel
theorem dX2_keyOctet_5 : decode cX2_keyOctet 5 = .ok (.ifCond .lt 35, 3) := by decide +kernel
theorem dX2_keyOctet_8 : decode cX2_keyOctet 8 = .ok (.iload_n 2, 1) := by decide +kernel
theorem dX2_keyOctet_9 : decode cX2_keyOctet 9 = .ok (.aload_n 0, 1) := by decide +kernel
theorem dX2_keyOctet_10 : decode cX2_keyOctet 10 = .ok (.getfield 7, 3) := by decide +kernel
theorem dX2_keyOctet_13 : decode cX2_keyOctet 13 = .ok (.arraylength, 1) := by decide +kernel
theorem dX2_keyOctet_14 : decode cX2_keyOctet 14 = .ok (.if_icmp .ge 26, 3) := by decide +kernel
theorem dX2_keyOctet_17 : decode cX2_keyOctet 17 = .ok (.aload_n 0, 1) := by decide +kernel
theorem dX2_keyOctet_18 : decode cX2_keyOctet 18 = .ok (.getfield 7, 3) := by decide +kernel
theorem dX2_keyOctet_21 : decode cX2_keyOctet 21 = .ok (.iload_n 2, 1) := by decide +kernel
theorem dX2_keyOctet_22 : decode cX2_keyOctet 22 = .ok (.iaload, 1) := by decide +kernel
theorem dX2_keyOctet_23 : decode cX2_keyOctet 23 = .ok (.bipush 24, 2) := by decide +kernel
theorem dX2_keyOctet_25 : decode cX2_keyOctet 25 = .ok (.bipush 8, 2) := by decide +kernel
theorem dX2_keyOctet_27 : decode cX2_keyOctet 27 = .ok (.iload_n 1, 1) := by decide +kernel
theorem dX2_keyOctet_28 : decode cX2_keyOctet 28 = .ok (.iconst 3, 1) := by decide +kernel
theorem dX2_keyOctet_29 : decode cX2_keyOctet 29 = .ok (.iand, 1) := by decide +kernel
theorem dX2_keyOctet_30 : decode cX2_keyOctet 30 = .ok (.imul, 1) := by decide +kernel
theorem dX2_keyOctet_31 : decode cX2_keyOctet 31 = .ok (.isub, 1) := by decide +kernel
theorem dX2_keyOctet_32 : decode cX2_keyOctet 32 = .ok (.iushr, 1) := by decide +kernel
theorem dX2_keyOctet_33 : decode cX2_keyOctet 33 = .ok (.sipush 255, 3) := by decide +kernel
theorem dX2_keyOctet_36 : decode cX2_keyOctet 36 = .ok (.iand, 1) := by decide +kernel
theorem dX2_keyOctet_37 : decode cX2_keyOctet 37 = .ok (.goto 4, 3) := by decide +kernel
theorem dX2_keyOctet_40 : decode cX2_keyOctet 40 = .ok (.iconst 0, 1) := by decide +kernel
theorem dX2_keyOctet_41 : decode cX2_keyOctet 41 = .ok (.ireturn, 1) := by decide +kernel
theorem dX2_encrypt_0 : decode cX2_encrypt 0 = .ok (.aload_n 0, 1) := by decide +kernel
theorem dX2_encrypt_1 : decode cX2_encrypt 1 = .ok (.getfield 20, 3) := by decide +kernel
theorem dX2_encrypt_4 : decode cX2_encrypt 4 = .ok (.aload_n 1, 1) := by decide +kernel
theorem dX2_encrypt_5 : decode cX2_encrypt 5 = .ok (.getfield 70, 3) := by decide +kernel
theorem dX2_encrypt_8 : decode cX2_encrypt 8 = .ok (.aload_n 1, 1) := by decide +kernel
theorem dX2_encrypt_9 : decode cX2_encrypt 9 = .ok (.getfield 73, 3) := by decide +kernel
theorem dX2_encrypt_12 : decode cX2_encrypt 12 = .ok (.invokevirtual 49, 3) := by decide +kernel
theorem dX2_encrypt_15 : decode cX2_encrypt 15 = .ok (.aload_n 0, 1) := by decide +kernel
theorem dX2_encrypt_16 : decode cX2_encrypt 16 = .ok (.getfield 20, 3) := by decide +kernel
theorem dX2_encrypt_19 : decode cX2_encrypt 19 = .ok (.aload_n 0, 1) := by decide +kernel
theorem dX2_encrypt_20 : decode cX2_encrypt 20 = .ok (.getfield 13, 3) := by decide +kernel
theorem dX2_encrypt_23 : decode cX2_encrypt 23 = .ok (.iconst 0, 1) := by decide +kernel
theorem dX2_encrypt_24 : decode cX2_encrypt 24 = .ok (.invokevirtual 74, 3) := by decide +kernel
theorem dX2_encrypt_27 : decode cX2_encrypt 27 = .ok (.iconst 1, 1) := by decide +kernel
theorem dX2_encrypt_28 : decode cX2_encrypt 28 = .ok (.istore_n 2, 1) := by decide +kernel
theorem dX2_encrypt_29 : decode cX2_encrypt 29 = .ok (.iload_n 2, 1) := by decide +kernel
theorem dX2_encrypt_30 : decode cX2_encrypt 30 = .ok (.aload_n 0, 1) := by decide +kernel
theorem dX2_encrypt_31 : decode cX2_encrypt 31 = .ok (.getfield 24, 3) := by decide +kernel
theorem dX2_encrypt_34 : decode cX2_encrypt 34 = .ok (.if_icmp .ge 42, 3) := by decide +kernel
theorem dX2_encrypt_37 : decode cX2_encrypt 37 = .ok (.aload_n 0, 1) := by decide +kernel
theorem dX2_encrypt_38 : decode cX2_encrypt 38 = .ok (.getfield 20, 3) := by decide +kernel
theorem dX2_encrypt_41 : decode cX2_encrypt 41 = .ok (.invokevirtual 53, 3) := by decide +kernel
theorem dX2_encrypt_44 : decode cX2_encrypt 44 = .ok (.aload_n 0, 1) := by decide +kernel
theorem dX2_encrypt_45 : decode cX2_encrypt 45 = .ok (.getfield 20, 3) := by decide +kernel
theorem dX2_encrypt_48 : decode cX2_encrypt 48 = .ok (.invokevirtual 78, 3) := by decide +kernel
theorem dX2_encrypt_51 : decode cX2_encrypt 51 = .ok (.aload_n 0, 1) := by decide +kernel
theorem dX2_encrypt_52 : decode cX2_encrypt 52 = .ok (.getfield 20, 3) := by decide +kernel
theorem dX2_encrypt_55 : decode cX2_encrypt 55 = .ok (.invokevirtual 81, 3) := by decide +kernel
theorem dX2_encrypt_58 : decode cX2_encrypt 58 = .ok (.aload_n 0, 1) := by decide +kernel
theorem dX2_encrypt_59 : decode cX2_encrypt 59 = .ok (.getfield 20, 3) := by decide +kernel
theorem dX2_encrypt_62 : decode cX2_encrypt 62 = .ok (.aload_n 0, 1) := by decide +kernel
theorem dX2_encrypt_63 : decode cX2_encrypt 63 = .ok (.getfield 13, 3) := by decide +kernel
theorem dX2_encrypt_66 : decode cX2_encrypt 66 = .ok (.iload_n 2, 1) := by decide +kernel
theorem dX2_encrypt_67 : decode cX2_encrypt 67 = .ok (.invokevirtual 74, 3) := by decide +kernel
theorem dX2_encrypt_70 : decode cX2_encrypt 70 = .ok (.iinc 2 1, 3) := by decide +kernel
theorem dX2_encrypt_73 : decode cX2_encrypt 73 = .ok (.goto (-44), 3) := by decide +kernel
theorem dX2_encrypt_76 : decode cX2_encrypt 76 = .ok (.aload_n 0, 1) := by decide +kernel
theorem dX2_encrypt_77 : decode cX2_encrypt 77 = .ok (.getfield 20, 3) := by decide +kernel
theorem dX2_encrypt_80 : decode cX2_encrypt 80 = .ok (.invokevirtual 53, 3) := by decide +kernel
theorem dX2_encrypt_83 : decode cX2_encrypt 83 = .ok (.aload_n 0, 1) := by decide +kernel
theorem dX2_encrypt_84 : decode cX2_encrypt 84 = .ok (.getfield 20, 3) := by decide +kernel
theorem dX2_encrypt_87 : decode cX2_encrypt 87 = .ok (.invokevirtual 78, 3) := by decide +kernel
theorem dX2_encrypt_90 : decode cX2_encrypt 90 = .ok (.aload_n 0, 1) := by decide +kernel
theorem dX2_encrypt_91 : decode cX2_encrypt 91 = .ok (.getfield 20, 3) := by decide +kernel
theorem dX2_encrypt_94 : decode cX2_encrypt 94 = .ok (.aload_n 0, 1) := by decide +kernel
theorem dX2_encrypt_95 : decode cX2_encrypt 95 = .ok (.getfield 13, 3) := by decide +kernel
theorem dX2_encrypt_98 : decode cX2_encrypt 98 = .ok (.aload_n 0, 1) := by decide +kernel
theorem dX2_encrypt_99 : decode cX2_encrypt 99 = .ok (.getfield 24, 3) := by decide +kernel
theorem dX2_encrypt_102 : decode cX2_encrypt 102 = .ok (.invokevirtual 74, 3) := by decide +kernel
theorem dX2_encrypt_105 : decode cX2_encrypt 105 = .ok (.aload_n 1, 1) := by decide +kernel
theorem dX2_encrypt_106 : decode cX2_encrypt 106 = .ok (.aload_n 0, 1) := by decide +kernel
theorem dX2_encrypt_107 : decode cX2_encrypt 107 = .ok (.getfield 20, 3) := by decide +kernel
theorem dX2_encrypt_110 : decode cX2_encrypt 110 = .ok (.invokevirtual 56, 3) := by decide +kernel
theorem dX2_encrypt_113 : decode cX2_encrypt 113 = .ok (.aload_n 0, 1) := by decide +kernel
theorem dX2_encrypt_114 : decode cX2_encrypt 114 = .ok (.getfield 20, 3) := by decide +kernel
theorem dX2_encrypt_117 : decode cX2_encrypt 117 = .ok (.invokevirtual 84, 3) := by decide +kernel
theorem dX2_encrypt_120 : decode cX2_encrypt 120 = .ok (.invokevirtual 87, 3) := by decide +kernel
theorem dX2_encrypt_123 : decode cX2_encrypt 123 = .ok (.return_, 1) := by decide +kernel
theorem dX2_decrypt_0 : decode cX2_decrypt 0 = .ok (.aload_n 0, 1) := by decide +kernel
theorem dX2_decrypt_1 : decode cX2_decrypt 1 = .ok (.getfield 20, 3) := by decide +kernel
theorem dX2_decrypt_4 : decode cX2_decrypt 4 = .ok (.aload_n 1, 1) := by decide +kernel
theorem dX2_decrypt_5 : decode cX2_decrypt 5 = .ok (.getfield 70, 3) := by decide +kernel
theorem dX2_decrypt_8 : decode cX2_decrypt 8 = .ok (.aload_n 1, 1) := by decide +kernel
theorem dX2_decrypt_9 : decode cX2_decrypt 9 = .ok (.getfield 73, 3) := by decide +kernel
theorem dX2_decrypt_12 : decode cX2_decrypt 12 = .ok (.invokevirtual 49, 3) := by decide +kernel
theorem dX2_decrypt_15 : decode cX2_decrypt 15 = .ok (.aload_n 0, 1) := by decide +kernel
theorem dX2_decrypt_16 : decode cX2_decrypt 16 = .ok (.getfield 20, 3) := by decide +kernel
theorem dX2_decrypt_19 : decode cX2_decrypt 19 = .ok (.aload_n 0, 1) := by decide +kernel
theorem dX2_decrypt_20 : decode cX2_decrypt 20 = .ok (.getfield 13, 3) := by decide +kernel
theorem dX2_decrypt_23 : decode cX2_decrypt 23 = .ok (.aload_n 0, 1) := by decide +kernel
theorem dX2_decrypt_24 : decode cX2_decrypt 24 = .ok (.getfield 24, 3) := by decide +kernel
theorem dX2_decrypt_27 : decode cX2_decrypt 27 = .ok (.invokevirtual 74, 3) := by decide +kernel
theorem dX2_decrypt_30 : decode cX2_decrypt 30 = .ok (.aload_n 0, 1) := by decide +kernel
theorem dX2_decrypt_31 : decode cX2_decrypt 31 = .ok (.getfield 24, 3) := by decide +kernel
theorem dX2_decrypt_34 : decode cX2_decrypt 34 = .ok (.iconst 1, 1) := by decide +kernel
theorem dX2_decrypt_35 : decode cX2_decrypt 35 = .ok (.isub, 1) := by decide +kernel
theorem dX2_decrypt_36 : decode cX2_decrypt 36 = .ok (.istore_n 2, 1) := by decide +kernel
theorem dX2_decrypt_37 : decode cX2_decrypt 37 = .ok (.iload_n 2, 1) := by decide +kernel
theorem dX2_decrypt_38 : decode cX2_decrypt 38 = .ok (.ifCond .le 56, 3) := by decide +kernel
theorem dX2_decrypt_41 : decode cX2_decrypt 41 = .ok (.aload_n 0, 1) := by decide +kernel
theorem dX2_decrypt_42 : decode cX2_decrypt 42 = .ok (.getfield 20, 3) := by decide +kernel
theorem dX2_decrypt_45 : decode cX2_decrypt 45 = .ok (.invokevirtual 90, 3) := by decide +kernel
theorem dX2_decrypt_48 : decode cX2_decrypt 48 = .ok (.aload_n 0, 1) := by decide +kernel
theorem dX2_decrypt_49 : decode cX2_decrypt 49 = .ok (.getfield 20, 3) := by decide +kernel
theorem dX2_decrypt_52 : decode cX2_decrypt 52 = .ok (.invokevirtual 93, 3) := by decide +kernel
theorem dX2_decrypt_55 : decode cX2_decrypt 55 = .ok (.aload_n 0, 1) := by decide +kernel
theorem dX2_decrypt_56 : decode cX2_decrypt 56 = .ok (.getfield 20, 3) := by decide +kernel
theorem dX2_decrypt_59 : decode cX2_decrypt 59 = .ok (.aload_n 0, 1) := by decide +kernel
theorem dX2_decrypt_60 : decode cX2_decrypt 60 = .ok (.getfield 13, 3) := by decide +kernel
theorem dX2_decrypt_63 : decode cX2_decrypt 63 = .ok (.iload_n 2, 1) := by decide +kernel
theorem dX2_decrypt_64 : decode cX2_decrypt 64 = .ok (.invokevirtual 74, 3) := by decide +kernel
theorem dX2_decrypt_67 : decode cX2_decrypt 67 = .ok (.aload_n 0, 1) := by decide +kernel
theorem dX2_decrypt_68 : decode cX2_decrypt 68 = .ok (.getfield 20, 3) := by decide +kernel
theorem dX2_decrypt_71 : decode cX2_decrypt 71 = .ok (.invokevirtual 81, 3) := by decide +kernel
theorem dX2_decrypt_74 : decode cX2_decrypt 74 = .ok (.aload_n 0, 1) := by decide +kernel
theorem dX2_decrypt_75 : decode cX2_decrypt 75 = .ok (.getfield 20, 3) := by decide +kernel
theorem dX2_decrypt_78 : decode cX2_decrypt 78 = .ok (.invokevirtual 81, 3) := by decide +kernel
theorem dX2_decrypt_81 : decode cX2_decrypt 81 = .ok (.aload_n 0, 1) := by decide +kernel
theorem dX2_decrypt_82 : decode cX2_decrypt 82 = .ok (.getfield 20, 3) := by decide +kernel
theorem dX2_decrypt_85 : decode cX2_decrypt 85 = .ok (.invokevirtual 81, 3) := by decide +kernel
theorem dX2_decrypt_88 : decode cX2_decrypt 88 = .ok (.iinc 2 (-1), 3) := by decide +kernel
theorem dX2_decrypt_91 : decode cX2_decrypt 91 = .ok (.goto (-54), 3) := by decide +kernel
theorem dX2_decrypt_94 : decode cX2_decrypt 94 = .ok (.aload_n 0, 1) := by decide +kernel
theorem dX2_decrypt_95 : decode cX2_decrypt 95 = .ok (.getfield 20, 3) := by decide +kernel
theorem dX2_decrypt_98 : decode cX2_decrypt 98 = .ok (.invokevirtual 90, 3) := by decide +kernel
theorem dX2_decrypt_101 : decode cX2_decrypt 101 = .ok (.aload_n 0, 1) := by decide +kernel
theorem dX2_decrypt_102 : decode cX2_decrypt 102 = .ok (.getfield 20, 3) := by decide +kernel
theorem dX2_decrypt_105 : decode cX2_decrypt 105 = .ok (.invokevirtual 93, 3) := by decide +kernel
theorem dX2_decrypt_108 : decode cX2_decrypt 108 = .ok (.aload_n 0, 1) := by decide +kernel
theorem dX2_decrypt_109 : decode cX2_decrypt 109 = .ok (.getfield 20, 3) := by decide +kernel
theorem dX2_decrypt_112 : decode cX2_decrypt 112 = .ok (.aload_n 0, 1) := by decide +kernel
theorem dX2_decrypt_113 : decode cX2_decrypt 113 = .ok (.getfield 13, 3) := by decide +kernel
theorem dX2_decrypt_116 : decode cX2_decrypt 116 = .ok (.iconst 0, 1) := by decide +kernel
theorem dX2_decrypt_117 : decode cX2_decrypt 117 = .ok (.invokevirtual 74, 3) := by decide +kernel
theorem dX2_decrypt_120 : decode cX2_decrypt 120 = .ok (.aload_n 1, 1) := by decide +kernel
theorem dX2_decrypt_121 : decode cX2_decrypt 121 = .ok (.aload_n 0, 1) := by decide +kernel
theorem dX2_decrypt_122 : decode cX2_decrypt 122 = .ok (.getfield 20, 3) := by decide +kernel
theorem dX2_decrypt_125 : decode cX2_decrypt 125 = .ok (.invokevirtual 56, 3) := by decide +kernel
theorem dX2_decrypt_128 : decode cX2_decrypt 128 = .ok (.aload_n 0, 1) := by decide +kernel
theorem dX2_decrypt_129 : decode cX2_decrypt 129 = .ok (.getfield 20, 3) := by decide +kernel
theorem dX2_decrypt_132 : decode cX2_decrypt 132 = .ok (.invokevirtual 84, 3) := by decide +kernel
theorem dX2_decrypt_135 : decode cX2_decrypt 135 = .ok (.invokevirtual 87, 3) := by decide +kernel
theorem dX2_decrypt_138 : decode cX2_decrypt 138 = .ok (.return_, 1) := by decide +kernel

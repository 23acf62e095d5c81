theorem dX12_sector_1 : decode cX12_sector 1 = .ok (.getfield 47, 3) := by decide +kernel
theorem dX12_sector_4 : decode cX12_sector 4 = .ok (.iconst 0, 1) := by decide +kernel
theorem dX12_sector_5 : decode cX12_sector 5 = .ok (.aload_n 0, 1) := by decide +kernel
theorem dX12_sector_6 : decode cX12_sector 6 = .ok (.getfield 53, 3) := by decide +kernel
theorem dX12_sector_9 : decode cX12_sector 9 = .ok (.iconst 0, 1) := by decide +kernel
theorem dX12_sector_10 : decode cX12_sector 10 = .ok (.bipush 16, 2) := by decide +kernel
theorem dX12_sector_12 : decode cX12_sector 12 = .ok (.invokestatic 133, 3) := by decide +kernel
theorem dX12_sector_15 : decode cX12_sector 15 = .ok (.aload_n 0, 1) := by decide +kernel
theorem dX12_sector_16 : decode cX12_sector 16 = .ok (.iconst 1, 1) := by decide +kernel
theorem dX12_sector_17 : decode cX12_sector 17 = .ok (.aload_n 0, 1) := by decide +kernel
theorem dX12_sector_18 : decode cX12_sector 18 = .ok (.getfield 53, 3) := by decide +kernel
theorem dX12_sector_21 : decode cX12_sector 21 = .ok (.iconst 0, 1) := by decide +kernel
theorem dX12_sector_22 : decode cX12_sector 22 = .ok (.invokevirtual 146, 3) := by decide +kernel
theorem dX12_sector_25 : decode cX12_sector 25 = .ok (.aload_n 0, 1) := by decide +kernel
theorem dX12_sector_26 : decode cX12_sector 26 = .ok (.getfield 41, 3) := by decide +kernel
theorem dX12_sector_29 : decode cX12_sector 29 = .ok (.iconst 0, 1) := by decide +kernel
theorem dX12_sector_30 : decode cX12_sector 30 = .ok (.aload_n 0, 1) := by decide +kernel
theorem dX12_sector_31 : decode cX12_sector 31 = .ok (.getfield 44, 3) := by decide +kernel
theorem dX12_sector_34 : decode cX12_sector 34 = .ok (.iconst 0, 1) := by decide +kernel
theorem dX12_sector_35 : decode cX12_sector 35 = .ok (.aload_n 0, 1) := by decide +kernel
theorem dX12_sector_36 : decode cX12_sector 36 = .ok (.getfield 130, 3) := by decide +kernel
theorem dX12_sector_39 : decode cX12_sector 39 = .ok (.invokestatic 133, 3) := by decide +kernel
theorem dX12_sector_42 : decode cX12_sector 42 = .ok (.aload_n 0, 1) := by decide +kernel
theorem dX12_sector_43 : decode cX12_sector 43 = .ok (.getfield 130, 3) := by decide +kernel
theorem dX12_sector_46 : decode cX12_sector 46 = .ok (.bipush 16, 2) := by decide +kernel
theorem dX12_sector_48 : decode cX12_sector 48 = .ok (.idiv, 1) := by decide +kernel
theorem dX12_sector_49 : decode cX12_sector 49 = .ok (.istore_n 2, 1) := by decide +kernel
theorem dX12_sector_50 : decode cX12_sector 50 = .ok (.aload_n 0, 1) := by decide +kernel
theorem dX12_sector_51 : decode cX12_sector 51 = .ok (.getfield 130, 3) := by decide +kernel
theorem dX12_sector_54 : decode cX12_sector 54 = .ok (.bipush 16, 2) := by decide +kernel
theorem dX12_sector_56 : decode cX12_sector 56 = .ok (.irem, 1) := by decide +kernel
theorem dX12_sector_57 : decode cX12_sector 57 = .ok (.istore_n 3, 1) := by decide +kernel
theorem dX12_sector_58 : decode cX12_sector 58 = .ok (.iconst 0, 1) := by decide +kernel
theorem dX12_sector_59 : decode cX12_sector 59 = .ok (.istore 4, 2) := by decide +kernel
theorem dX12_sector_61 : decode cX12_sector 61 = .ok (.iload 4, 2) := by decide +kernel
theorem dX12_sector_63 : decode cX12_sector 63 = .ok (.iload_n 2, 1) := by decide +kernel
theorem dX12_sector_64 : decode cX12_sector 64 = .ok (.if_icmp .ge 83, 3) := by decide +kernel
theorem dX12_sector_67 : decode cX12_sector 67 = .ok (.iload_n 1, 1) := by decide +kernel
theorem dX12_sector_68 : decode cX12_sector 68 = .ok (.ifCond .eq 19, 3) := by decide +kernel
theorem dX12_sector_71 : decode cX12_sector 71 = .ok (.iload_n 3, 1) := by decide +kernel
theorem dX12_sector_72 : decode cX12_sector 72 = .ok (.ifCond .le 15, 3) := by decide +kernel
theorem dX12_sector_75 : decode cX12_sector 75 = .ok (.iload 4, 2) := by decide +kernel
theorem dX12_sector_77 : decode cX12_sector 77 = .ok (.iload_n 2, 1) := by decide +kernel
theorem dX12_sector_78 : decode cX12_sector 78 = .ok (.iconst 1, 1) := by decide +kernel
theorem dX12_sector_79 : decode cX12_sector 79 = .ok (.isub, 1) := by decide +kernel
theorem dX12_sector_80 : decode cX12_sector 80 = .ok (.if_icmp .ne 7, 3) := by decide +kernel
theorem dX12_sector_83 : decode cX12_sector 83 = .ok (.iconst 1, 1) := by decide +kernel
theorem dX12_sector_84 : decode cX12_sector 84 = .ok (.goto 4, 3) := by decide +kernel
theorem dX12_sector_87 : decode cX12_sector 87 = .ok (.iconst 0, 1) := by decide +kernel
theorem dX12_sector_88 : decode cX12_sector 88 = .ok (.istore 5, 2) := by decide +kernel
theorem dX12_sector_90 : decode cX12_sector 90 = .ok (.iload 5, 2) := by decide +kernel
theorem dX12_sector_92 : decode cX12_sector 92 = .ok (.ifCond .eq 26, 3) := by decide +kernel
theorem dX12_sector_95 : decode cX12_sector 95 = .ok (.aload_n 0, 1) := by decide +kernel
theorem dX12_sector_96 : decode cX12_sector 96 = .ok (.getfield 53, 3) := by decide +kernel
theorem dX12_sector_99 : decode cX12_sector 99 = .ok (.iconst 0, 1) := by decide +kernel
theorem dX12_sector_100 : decode cX12_sector 100 = .ok (.aload_n 0, 1) := by decide +kernel
theorem dX12_sector_101 : decode cX12_sector 101 = .ok (.getfield 59, 3) := by decide +kernel
theorem dX12_sector_104 : decode cX12_sector 104 = .ok (.iconst 0, 1) := by decide +kernel
theorem dX12_sector_105 : decode cX12_sector 105 = .ok (.bipush 16, 2) := by decide +kernel
theorem dX12_sector_107 : decode cX12_sector 107 = .ok (.invokestatic 133, 3) := by decide +kernel
theorem dX12_sector_110 : decode cX12_sector 110 = .ok (.aload_n 0, 1) := by decide +kernel
theorem dX12_sector_111 : decode cX12_sector 111 = .ok (.aload_n 0, 1) := by decide +kernel
theorem dX12_sector_112 : decode cX12_sector 112 = .ok (.getfield 53, 3) := by decide +kernel
theorem dX12_sector_115 : decode cX12_sector 115 = .ok (.invokevirtual 172, 3) := by decide +kernel
theorem dX12_sector_118 : decode cX12_sector 118 = .ok (.aload_n 0, 1) := by decide +kernel
theorem dX12_sector_119 : decode cX12_sector 119 = .ok (.iload_n 1, 1) := by decide +kernel
theorem dX12_sector_120 : decode cX12_sector 120 = .ok (.bipush 16, 2) := by decide +kernel
theorem dX12_sector_122 : decode cX12_sector 122 = .ok (.iload 4, 2) := by decide +kernel
theorem dX12_sector_124 : decode cX12_sector 124 = .ok (.imul, 1) := by decide +kernel
theorem dX12_sector_125 : decode cX12_sector 125 = .ok (.invokevirtual 176, 3) := by decide +kernel
theorem dX12_sector_128 : decode cX12_sector 128 = .ok (.iload 5, 2) := by decide +kernel
theorem dX12_sector_130 : decode cX12_sector 130 = .ok (.ifCond .ne 11, 3) := by decide +kernel
theorem dX12_sector_133 : decode cX12_sector 133 = .ok (.aload_n 0, 1) := by decide +kernel
theorem dX12_sector_134 : decode cX12_sector 134 = .ok (.aload_n 0, 1) := by decide +kernel
theorem dX12_sector_135 : decode cX12_sector 135 = .ok (.getfield 53, 3) := by decide +kernel
theorem dX12_sector_138 : decode cX12_sector 138 = .ok (.invokevirtual 172, 3) := by decide +kernel
theorem dX12_sector_141 : decode cX12_sector 141 = .ok (.iinc 4 1, 3) := by decide +kernel
theorem dX12_sector_144 : decode cX12_sector 144 = .ok (.goto (-83), 3) := by decide +kernel
theorem dX12_sector_147 : decode cX12_sector 147 = .ok (.aload_n 0, 1) := by decide +kernel
theorem dX12_sector_148 : decode cX12_sector 148 = .ok (.aload_n 0, 1) := by decide +kernel
theorem dX12_sector_149 : decode cX12_sector 149 = .ok (.getfield 130, 3) := by decide +kernel
theorem dX12_sector_152 : decode cX12_sector 152 = .ok (.putfield 153, 3) := by decide +kernel
theorem dX12_sector_155 : decode cX12_sector 155 = .ok (.iload_n 3, 1) := by decide +kernel
theorem dX12_sector_156 : decode cX12_sector 156 = .ok (.ifCond .ne 4, 3) := by decide +kernel
theorem dX12_sector_159 : decode cX12_sector 159 = .ok (.return_, 1) := by decide +kernel
theorem dX12_sector_160 : decode cX12_sector 160 = .ok (.bipush 16, 2) := by decide +kernel
theorem dX12_sector_162 : decode cX12_sector 162 = .ok (.iload_n 2, 1) := by decide +kernel
theorem dX12_sector_163 : decode cX12_sector 163 = .ok (.iconst 1, 1) := by decide +kernel
theorem dX12_sector_164 : decode cX12_sector 164 = .ok (.isub, 1) := by decide +kernel
theorem dX12_sector_165 : decode cX12_sector 165 = .ok (.imul, 1) := by decide +kernel
theorem dX12_sector_166 : decode cX12_sector 166 = .ok (.istore 4, 2) := by decide +kernel
theorem dX12_sector_168 : decode cX12_sector 168 = .ok (.iconst 0, 1) := by decide +kernel
theorem dX12_sector_169 : decode cX12_sector 169 = .ok (.istore 5, 2) := by decide +kernel
theorem dX12_sector_171 : decode cX12_sector 171 = .ok (.iload 5, 2) := by decide +kernel
theorem dX12_sector_173 : decode cX12_sector 173 = .ok (.iload_n 3, 1) := by decide +kernel
theorem dX12_sector_174 : decode cX12_sector 174 = .ok (.if_icmp .ge 59, 3) := by decide +kernel
theorem dX12_sector_177 : decode cX12_sector 177 = .ok (.aload_n 0, 1) := by decide +kernel
theorem dX12_sector_178 : decode cX12_sector 178 = .ok (.getfield 44, 3) := by decide +kernel
theorem dX12_sector_181 : decode cX12_sector 181 = .ok (.iload 4, 2) := by decide +kernel
theorem dX12_sector_183 : decode cX12_sector 183 = .ok (.iload 5, 2) := by decide +kernel
theorem dX12_sector_185 : decode cX12_sector 185 = .ok (.iadd, 1) := by decide +kernel
theorem dX12_sector_186 : decode cX12_sector 186 = .ok (.iaload, 1) := by decide +kernel
theorem dX12_sector_187 : decode cX12_sector 187 = .ok (.istore 6, 2) := by decide +kernel
theorem dX12_sector_189 : decode cX12_sector 189 = .ok (.aload_n 0, 1) := by decide +kernel
theorem dX12_sector_190 : decode cX12_sector 190 = .ok (.getfield 44, 3) := by decide +kernel
theorem dX12_sector_193 : decode cX12_sector 193 = .ok (.iload 4, 2) := by decide +kernel
theorem dX12_sector_195 : decode cX12_sector 195 = .ok (.iload 5, 2) := by decide +kernel
theorem dX12_sector_197 : decode cX12_sector 197 = .ok (.iadd, 1) := by decide +kernel
theorem dX12_sector_198 : decode cX12_sector 198 = .ok (.aload_n 0, 1) := by decide +kernel
theorem dX12_sector_199 : decode cX12_sector 199 = .ok (.getfield 44, 3) := by decide +kernel
theorem dX12_sector_202 : decode cX12_sector 202 = .ok (.iload 4, 2) := by decide +kernel
theorem dX12_sector_204 : decode cX12_sector 204 = .ok (.bipush 16, 2) := by decide +kernel
theorem dX12_sector_206 : decode cX12_sector 206 = .ok (.iadd, 1) := by decide +kernel
theorem dX12_sector_207 : decode cX12_sector 207 = .ok (.iload 5, 2) := by decide +kernel
theorem dX12_sector_209 : decode cX12_sector 209 = .ok (.iadd, 1) := by decide +kernel
theorem dX12_sector_210 : decode cX12_sector 210 = .ok (.iaload, 1) := by decide +kernel
theorem dX12_sector_211 : decode cX12_sector 211 = .ok (.iastore, 1) := by decide +kernel
theorem dX12_sector_212 : decode cX12_sector 212 = .ok (.aload_n 0, 1) := by decide +kernel
theorem dX12_sector_213 : decode cX12_sector 213 = .ok (.getfield 44, 3) := by decide +kernel
theorem dX12_sector_216 : decode cX12_sector 216 = .ok (.iload 4, 2) := by decide +kernel
theorem dX12_sector_218 : decode cX12_sector 218 = .ok (.bipush 16, 2) := by decide +kernel
theorem dX12_sector_220 : decode cX12_sector 220 = .ok (.iadd, 1) := by decide +kernel
theorem dX12_sector_221 : decode cX12_sector 221 = .ok (.iload 5, 2) := by decide +kernel
theorem dX12_sector_223 : decode cX12_sector 223 = .ok (.iadd, 1) := by decide +kernel
theorem dX12_sector_224 : decode cX12_sector 224 = .ok (.iload 6, 2) := by decide +kernel
theorem dX12_sector_226 : decode cX12_sector 226 = .ok (.iastore, 1) := by decide +kernel
theorem dX12_sector_227 : decode cX12_sector 227 = .ok (.iinc 5 1, 3) := by decide +kernel
theorem dX12_sector_230 : decode cX12_sector 230 = .ok (.goto (-59), 3) := by decide +kernel
theorem dX12_sector_233 : decode cX12_sector 233 = .ok (.iload_n 1, 1) := by decide +kernel
theorem dX12_sector_234 : decode cX12_sector 234 = .ok (.ifCond .eq 18, 3) := by decide +kernel
theorem dX12_sector_237 : decode cX12_sector 237 = .ok (.aload_n 0, 1) := by decide +kernel
theorem dX12_sector_238 : decode cX12_sector 238 = .ok (.getfield 59, 3) := by decide +kernel
theorem dX12_sector_241 : decode cX12_sector 241 = .ok (.iconst 0, 1) := by decide +kernel
theorem dX12_sector_242 : decode cX12_sector 242 = .ok (.aload_n 0, 1) := by decide +kernel
theorem dX12_sector_243 : decode cX12_sector 243 = .ok (.getfield 53, 3) := by decide +kernel
theorem dX12_sector_246 : decode cX12_sector 246 = .ok (.iconst 0, 1) := by decide +kernel
theorem dX12_sector_247 : decode cX12_sector 247 = .ok (.bipush 16, 2) := by decide +kernel
theorem dX12_sector_249 : decode cX12_sector 249 = .ok (.invokestatic 133, 3) := by decide +kernel
theorem dX12_sector_252 : decode cX12_sector 252 = .ok (.aload_n 0, 1) := by decide +kernel
theorem dX12_sector_253 : decode cX12_sector 253 = .ok (.iload_n 1, 1) := by decide +kernel
theorem dX12_sector_254 : decode cX12_sector 254 = .ok (.iload 4, 2) := by decide +kernel
theorem dX12_sector_256 : decode cX12_sector 256 = .ok (.invokevirtual 176, 3) := by decide +kernel
theorem dX12_sector_259 : decode cX12_sector 259 = .ok (.return_, 1) := by decide +kernel
theorem dX12_wrapAll_0 : decode cX12_wrapAll 0 = .ok (.iconst 0, 1) := by decide +kernel
theorem dX12_wrapAll_1 : decode cX12_wrapAll 1 = .ok (.istore_n 2, 1) := by decide +kernel
theorem dX12_wrapAll_2 : decode cX12_wrapAll 2 = .ok (.iload_n 2, 1) := by decide +kernel
theorem dX12_wrapAll_3 : decode cX12_wrapAll 3 = .ok (.bipush 6, 2) := by decide +kernel
theorem dX12_wrapAll_5 : decode cX12_wrapAll 5 = .ok (.if_icmp .ge 109, 3) := by decide +kernel
theorem dX12_wrapAll_8 : decode cX12_wrapAll 8 = .ok (.iconst 1, 1) := by decide +kernel
theorem dX12_wrapAll_9 : decode cX12_wrapAll 9 = .ok (.istore_n 3, 1) := by decide +kernel
theorem dX12_wrapAll_10 : decode cX12_wrapAll 10 = .ok (.iload_n 3, 1) := by decide +kernel
theorem dX12_wrapAll_11 : decode cX12_wrapAll 11 = .ok (.iload_n 1, 1) := by decide +kernel
theorem dX12_wrapAll_12 : decode cX12_wrapAll 12 = .ok (.if_icmp .gt 96, 3) := by decide +kernel
theorem dX12_wrapAll_15 : decode cX12_wrapAll 15 = .ok (.aload_n 0, 1) := by decide +kernel
theorem dX12_wrapAll_16 : decode cX12_wrapAll 16 = .ok (.getfield 44, 3) := by decide +kernel
theorem dX12_wrapAll_19 : decode cX12_wrapAll 19 = .ok (.iconst 0, 1) := by decide +kernel
theorem dX12_wrapAll_20 : decode cX12_wrapAll 20 = .ok (.aload_n 0, 1) := by decide +kernel
theorem dX12_wrapAll_21 : decode cX12_wrapAll 21 = .ok (.getfield 56, 3) := by decide +kernel
theorem dX12_wrapAll_24 : decode cX12_wrapAll 24 = .ok (.iconst 0, 1) := by decide +kernel
theorem dX12_wrapAll_25 : decode cX12_wrapAll 25 = .ok (.bipush 8, 2) := by decide +kernel
theorem dX12_wrapAll_27 : decode cX12_wrapAll 27 = .ok (.invokestatic 133, 3) := by decide +kernel
theorem dX12_wrapAll_30 : decode cX12_wrapAll 30 = .ok (.aload_n 0, 1) := by decide +kernel
theorem dX12_wrapAll_31 : decode cX12_wrapAll 31 = .ok (.getfield 44, 3) := by decide +kernel
theorem dX12_wrapAll_34 : decode cX12_wrapAll 34 = .ok (.bipush 8, 2) := by decide +kernel
theorem dX12_wrapAll_36 : decode cX12_wrapAll 36 = .ok (.iload_n 3, 1) := by decide +kernel
theorem dX12_wrapAll_37 : decode cX12_wrapAll 37 = .ok (.imul, 1) := by decide +kernel
theorem dX12_wrapAll_38 : decode cX12_wrapAll 38 = .ok (.aload_n 0, 1) := by decide +kernel
theorem dX12_wrapAll_39 : decode cX12_wrapAll 39 = .ok (.getfield 56, 3) := by decide +kernel
theorem dX12_wrapAll_42 : decode cX12_wrapAll 42 = .ok (.bipush 8, 2) := by decide +kernel
theorem dX12_wrapAll_44 : decode cX12_wrapAll 44 = .ok (.bipush 8, 2) := by decide +kernel
theorem dX12_wrapAll_46 : decode cX12_wrapAll 46 = .ok (.invokestatic 133, 3) := by decide +kernel
theorem dX12_wrapAll_49 : decode cX12_wrapAll 49 = .ok (.aload_n 0, 1) := by decide +kernel
theorem dX12_wrapAll_50 : decode cX12_wrapAll 50 = .ok (.iconst 0, 1) := by decide +kernel
theorem dX12_wrapAll_51 : decode cX12_wrapAll 51 = .ok (.aload_n 0, 1) := by decide +kernel
theorem dX12_wrapAll_52 : decode cX12_wrapAll 52 = .ok (.getfield 56, 3) := by decide +kernel
theorem dX12_wrapAll_55 : decode cX12_wrapAll 55 = .ok (.iconst 0, 1) := by decide +kernel
theorem dX12_wrapAll_56 : decode cX12_wrapAll 56 = .ok (.invokevirtual 146, 3) := by decide +kernel
theorem dX12_wrapAll_59 : decode cX12_wrapAll 59 = .ok (.aload_n 0, 1) := by decide +kernel
theorem dX12_wrapAll_60 : decode cX12_wrapAll 60 = .ok (.iload_n 1, 1) := by decide +kernel
theorem dX12_wrapAll_61 : decode cX12_wrapAll 61 = .ok (.iload_n 2, 1) := by decide +kernel
theorem dX12_wrapAll_62 : decode cX12_wrapAll 62 = .ok (.imul, 1) := by decide +kernel
theorem dX12_wrapAll_63 : decode cX12_wrapAll 63 = .ok (.iload_n 3, 1) := by decide +kernel
theorem dX12_wrapAll_64 : decode cX12_wrapAll 64 = .ok (.iadd, 1) := by decide +kernel
theorem dX12_wrapAll_65 : decode cX12_wrapAll 65 = .ok (.invokevirtual 180, 3) := by decide +kernel
theorem dX12_wrapAll_68 : decode cX12_wrapAll 68 = .ok (.aload_n 0, 1) := by decide +kernel
theorem dX12_wrapAll_69 : decode cX12_wrapAll 69 = .ok (.getfield 56, 3) := by decide +kernel
theorem dX12_wrapAll_72 : decode cX12_wrapAll 72 = .ok (.iconst 0, 1) := by decide +kernel
theorem dX12_wrapAll_73 : decode cX12_wrapAll 73 = .ok (.aload_n 0, 1) := by decide +kernel
theorem dX12_wrapAll_74 : decode cX12_wrapAll 74 = .ok (.getfield 44, 3) := by decide +kernel
theorem dX12_wrapAll_77 : decode cX12_wrapAll 77 = .ok (.iconst 0, 1) := by decide +kernel
theorem dX12_wrapAll_78 : decode cX12_wrapAll 78 = .ok (.bipush 8, 2) := by decide +kernel
theorem dX12_wrapAll_80 : decode cX12_wrapAll 80 = .ok (.invokestatic 133, 3) := by decide +kernel
theorem dX12_wrapAll_83 : decode cX12_wrapAll 83 = .ok (.aload_n 0, 1) := by decide +kernel
theorem dX12_wrapAll_84 : decode cX12_wrapAll 84 = .ok (.getfield 56, 3) := by decide +kernel
theorem dX12_wrapAll_87 : decode cX12_wrapAll 87 = .ok (.bipush 8, 2) := by decide +kernel
theorem dX12_wrapAll_89 : decode cX12_wrapAll 89 = .ok (.aload_n 0, 1) := by decide +kernel
theorem dX12_wrapAll_90 : decode cX12_wrapAll 90 = .ok (.getfield 44, 3) := by decide +kernel
theorem dX12_wrapAll_93 : decode cX12_wrapAll 93 = .ok (.bipush 8, 2) := by decide +kernel
theorem dX12_wrapAll_95 : decode cX12_wrapAll 95 = .ok (.iload_n 3, 1) := by decide +kernel
theorem dX12_wrapAll_96 : decode cX12_wrapAll 96 = .ok (.imul, 1) := by decide +kernel
theorem dX12_wrapAll_97 : decode cX12_wrapAll 97 = .ok (.bipush 8, 2) := by decide +kernel
theorem dX12_wrapAll_99 : decode cX12_wrapAll 99 = .ok (.invokestatic 133, 3) := by decide +kernel
theorem dX12_wrapAll_102 : decode cX12_wrapAll 102 = .ok (.iinc 3 1, 3) := by decide +kernel
theorem dX12_wrapAll_105 : decode cX12_wrapAll 105 = .ok (.goto (-95), 3) := by decide +kernel
theorem dX12_wrapAll_108 : decode cX12_wrapAll 108 = .ok (.iinc 2 1, 3) := by decide +kernel
theorem dX12_wrapAll_111 : decode cX12_wrapAll 111 = .ok (.goto (-109), 3) := by decide +kernel
theorem dX12_wrapAll_114 : decode cX12_wrapAll 114 = .ok (.return_, 1) := by decide +kernel
theorem dX12_addNumber_0 : decode cX12_addNumber 0 = .ok (.iconst 0, 1) := by decide +kernel
theorem dX12_addNumber_1 : decode cX12_addNumber 1 = .ok (.istore_n 2, 1) := by decide +kernel
theorem dX12_addNumber_2 : decode cX12_addNumber 2 = .ok (.iload_n 2, 1) := by decide +kernel
theorem dX12_addNumber_3 : decode cX12_addNumber 3 = .ok (.iconst 4, 1) := by decide +kernel
theorem dX12_addNumber_4 : decode cX12_addNumber 4 = .ok (.if_icmp .ge 31, 3) := by decide +kernel
theorem dX12_addNumber_7 : decode cX12_addNumber 7 = .ok (.aload_n 0, 1) := by decide +kernel
theorem dX12_addNumber_8 : decode cX12_addNumber 8 = .ok (.getfield 56, 3) := by decide +kernel
theorem dX12_addNumber_11 : decode cX12_addNumber 11 = .ok (.bipush 7, 2) := by decide +kernel
theorem dX12_addNumber_13 : decode cX12_addNumber 13 = .ok (.iload_n 2, 1) := by decide +kernel
theorem dX12_addNumber_14 : decode cX12_addNumber 14 = .ok (.isub, 1) := by decide +kernel
theorem dX12_addNumber_15 : decode cX12_addNumber 15 = .ok (.dup2, 1) := by decide +kernel
theorem dX12_addNumber_16 : decode cX12_addNumber 16 = .ok (.iaload, 1) := by decide +kernel
theorem dX12_addNumber_17 : decode cX12_addNumber 17 = .ok (.iload_n 1, 1) := by decide +kernel
theorem dX12_addNumber_18 : decode cX12_addNumber 18 = .ok (.bipush 8, 2) := by decide +kernel
theorem dX12_addNumber_20 : decode cX12_addNumber 20 = .ok (.iload_n 2, 1) := by decide +kernel
theorem dX12_addNumber_21 : decode cX12_addNumber 21 = .ok (.imul, 1) := by decide +kernel
theorem dX12_addNumber_22 : decode cX12_addNumber 22 = .ok (.ishr, 1) := by decide +kernel
theorem dX12_addNumber_23 : decode cX12_addNumber 23 = .ok (.sipush 255, 3) := by decide +kernel
theorem dX12_addNumber_26 : decode cX12_addNumber 26 = .ok (.iand, 1) := by decide +kernel
theorem dX12_addNumber_27 : decode cX12_addNumber 27 = .ok (.ixor, 1) := by decide +kernel
theorem dX12_addNumber_28 : decode cX12_addNumber 28 = .ok (.iastore, 1) := by decide +kernel
theorem dX12_addNumber_29 : decode cX12_addNumber 29 = .ok (.iinc 2 1, 3) := by decide +kernel
theorem dX12_addNumber_32 : decode cX12_addNumber 32 = .ok (.goto (-30), 3) := by decide +kernel
theorem dX12_addNumber_35 : decode cX12_addNumber 35 = .ok (.return_, 1) := by decide +kernel
theorem dX12_unwrapAll_0 : decode cX12_unwrapAll 0 = .ok (.iconst 5, 1) := by decide +kernel
theorem dX12_unwrapAll_1 : decode cX12_unwrapAll 1 = .ok (.istore_n 2, 1) := by decide +kernel
theorem dX12_unwrapAll_2 : decode cX12_unwrapAll 2 = .ok (.iload_n 2, 1) := by decide +kernel
theorem dX12_unwrapAll_3 : decode cX12_unwrapAll 3 = .ok (.ifCond .lt 109, 3) := by decide +kernel
theorem dX12_unwrapAll_6 : decode cX12_unwrapAll 6 = .ok (.iload_n 1, 1) := by decide +kernel
theorem dX12_unwrapAll_7 : decode cX12_unwrapAll 7 = .ok (.istore_n 3, 1) := by decide +kernel
theorem dX12_unwrapAll_8 : decode cX12_unwrapAll 8 = .ok (.iload_n 3, 1) := by decide +kernel
theorem dX12_unwrapAll_9 : decode cX12_unwrapAll 9 = .ok (.iconst 1, 1) := by decide +kernel
theorem dX12_unwrapAll_10 : decode cX12_unwrapAll 10 = .ok (.if_icmp .lt 96, 3) := by decide +kernel
theorem dX12_unwrapAll_13 : decode cX12_unwrapAll 13 = .ok (.aload_n 0, 1) := by decide +kernel
theorem dX12_unwrapAll_14 : decode cX12_unwrapAll 14 = .ok (.getfield 44, 3) := by decide +kernel
theorem dX12_unwrapAll_17 : decode cX12_unwrapAll 17 = .ok (.iconst 0, 1) := by decide +kernel
theorem dX12_unwrapAll_18 : decode cX12_unwrapAll 18 = .ok (.aload_n 0, 1) := by decide +kernel
theorem dX12_unwrapAll_19 : decode cX12_unwrapAll 19 = .ok (.getfield 56, 3) := by decide +kernel
theorem dX12_unwrapAll_22 : decode cX12_unwrapAll 22 = .ok (.iconst 0, 1) := by decide +kernel
theorem dX12_unwrapAll_23 : decode cX12_unwrapAll 23 = .ok (.bipush 8, 2) := by decide +kernel
theorem dX12_unwrapAll_25 : decode cX12_unwrapAll 25 = .ok (.invokestatic 133, 3) := by decide +kernel
theorem dX12_unwrapAll_28 : decode cX12_unwrapAll 28 = .ok (.aload_n 0, 1) := by decide +kernel
theorem dX12_unwrapAll_29 : decode cX12_unwrapAll 29 = .ok (.iload_n 1, 1) := by decide +kernel
theorem dX12_unwrapAll_30 : decode cX12_unwrapAll 30 = .ok (.iload_n 2, 1) := by decide +kernel
theorem dX12_unwrapAll_31 : decode cX12_unwrapAll 31 = .ok (.imul, 1) := by decide +kernel
theorem dX12_unwrapAll_32 : decode cX12_unwrapAll 32 = .ok (.iload_n 3, 1) := by decide +kernel
theorem dX12_unwrapAll_33 : decode cX12_unwrapAll 33 = .ok (.iadd, 1) := by decide +kernel
theorem dX12_unwrapAll_34 : decode cX12_unwrapAll 34 = .ok (.invokevirtual 180, 3) := by decide +kernel
theorem dX12_unwrapAll_37 : decode cX12_unwrapAll 37 = .ok (.aload_n 0, 1) := by decide +kernel
theorem dX12_unwrapAll_38 : decode cX12_unwrapAll 38 = .ok (.getfield 44, 3) := by decide +kernel
theorem dX12_unwrapAll_41 : decode cX12_unwrapAll 41 = .ok (.bipush 8, 2) := by decide +kernel
theorem dX12_unwrapAll_43 : decode cX12_unwrapAll 43 = .ok (.iload_n 3, 1) := by decide +kernel
theorem dX12_unwrapAll_44 : decode cX12_unwrapAll 44 = .ok (.imul, 1) := by decide +kernel
theorem dX12_unwrapAll_45 : decode cX12_unwrapAll 45 = .ok (.aload_n 0, 1) := by decide +kernel
theorem dX12_unwrapAll_46 : decode cX12_unwrapAll 46 = .ok (.getfield 56, 3) := by decide +kernel
theorem dX12_unwrapAll_49 : decode cX12_unwrapAll 49 = .ok (.bipush 8, 2) := by decide +kernel
theorem dX12_unwrapAll_51 : decode cX12_unwrapAll 51 = .ok (.bipush 8, 2) := by decide +kernel
theorem dX12_unwrapAll_53 : decode cX12_unwrapAll 53 = .ok (.invokestatic 133, 3) := by decide +kernel
theorem dX12_unwrapAll_56 : decode cX12_unwrapAll 56 = .ok (.aload_n 0, 1) := by decide +kernel
theorem dX12_unwrapAll_57 : decode cX12_unwrapAll 57 = .ok (.iconst 0, 1) := by decide +kernel
theorem dX12_unwrapAll_58 : decode cX12_unwrapAll 58 = .ok (.aload_n 0, 1) := by decide +kernel
theorem dX12_unwrapAll_59 : decode cX12_unwrapAll 59 = .ok (.getfield 56, 3) := by decide +kernel
theorem dX12_unwrapAll_62 : decode cX12_unwrapAll 62 = .ok (.iconst 0, 1) := by decide +kernel
theorem dX12_unwrapAll_63 : decode cX12_unwrapAll 63 = .ok (.invokevirtual 150, 3) := by decide +kernel
theorem dX12_unwrapAll_66 : decode cX12_unwrapAll 66 = .ok (.aload_n 0, 1) := by decide +kernel
theorem dX12_unwrapAll_67 : decode cX12_unwrapAll 67 = .ok (.getfield 56, 3) := by decide +kernel
theorem dX12_unwrapAll_70 : decode cX12_unwrapAll 70 = .ok (.iconst 0, 1) := by decide +kernel
theorem dX12_unwrapAll_71 : decode cX12_unwrapAll 71 = .ok (.aload_n 0, 1) := by decide +kernel
theorem dX12_unwrapAll_72 : decode cX12_unwrapAll 72 = .ok (.getfield 44, 3) := by decide +kernel
theorem dX12_unwrapAll_75 : decode cX12_unwrapAll 75 = .ok (.iconst 0, 1) := by decide +kernel
theorem dX12_unwrapAll_76 : decode cX12_unwrapAll 76 = .ok (.bipush 8, 2) := by decide +kernel
theorem dX12_unwrapAll_78 : decode cX12_unwrapAll 78 = .ok (.invokestatic 133, 3) := by decide +kernel
theorem dX12_unwrapAll_81 : decode cX12_unwrapAll 81 = .ok (.aload_n 0, 1) := by decide +kernel
theorem dX12_unwrapAll_82 : decode cX12_unwrapAll 82 = .ok (.getfield 56, 3) := by decide +kernel
theorem dX12_unwrapAll_85 : decode cX12_unwrapAll 85 = .ok (.bipush 8, 2) := by decide +kernel
theorem dX12_unwrapAll_87 : decode cX12_unwrapAll 87 = .ok (.aload_n 0, 1) := by decide +kernel
theorem dX12_unwrapAll_88 : decode cX12_unwrapAll 88 = .ok (.getfield 44, 3) := by decide +kernel
theorem dX12_unwrapAll_91 : decode cX12_unwrapAll 91 = .ok (.bipush 8, 2) := by decide +kernel
theorem dX12_unwrapAll_93 : decode cX12_unwrapAll 93 = .ok (.iload_n 3, 1) := by decide +kernel
theorem dX12_unwrapAll_94 : decode cX12_unwrapAll 94 = .ok (.imul, 1) := by decide +kernel
theorem dX12_unwrapAll_95 : decode cX12_unwrapAll 95 = .ok (.bipush 8, 2) := by decide +kernel
theorem dX12_unwrapAll_97 : decode cX12_unwrapAll 97 = .ok (.invokestatic 133, 3) := by decide +kernel
theorem dX12_unwrapAll_100 : decode cX12_unwrapAll 100 = .ok (.iinc 3 (-1), 3) := by decide +kernel
theorem dX12_unwrapAll_103 : decode cX12_unwrapAll 103 = .ok (.goto (-95), 3) := by decide +kernel
theorem dX12_unwrapAll_106 : decode cX12_unwrapAll 106 = .ok (.iinc 2 (-1), 3) := by decide +kernel
theorem dX12_unwrapAll_109 : decode cX12_unwrapAll 109 = .ok (.goto (-107), 3) := by decide +kernel
theorem dX12_unwrapAll_112 : decode cX12_unwrapAll 112 = .ok (.return_, 1) := by decide +kernel
theorem dX12_wrap_0 : decode cX12_wrap 0 = .ok (.iload_n 1, 1) := by decide +kernel
theorem dX12_wrap_1 : decode cX12_wrap 1 = .ok (.ifCond .ne 68, 3) := by decide +kernel
theorem dX12_wrap_4 : decode cX12_wrap 4 = .ok (.iconst 0, 1) := by decide +kernel
theorem dX12_wrap_5 : decode cX12_wrap 5 = .ok (.istore_n 2, 1) := by decide +kernel
theorem dX12_wrap_6 : decode cX12_wrap 6 = .ok (.iload_n 2, 1) := by decide +kernel
theorem dX12_wrap_7 : decode cX12_wrap 7 = .ok (.bipush 8, 2) := by decide +kernel
theorem dX12_wrap_9 : decode cX12_wrap 9 = .ok (.if_icmp .ge 18, 3) := by decide +kernel
theorem dX12_wrap_12 : decode cX12_wrap 12 = .ok (.aload_n 0, 1) := by decide +kernel
theorem dX12_wrap_13 : decode cX12_wrap 13 = .ok (.getfield 44, 3) := by decide +kernel
theorem dX12_wrap_16 : decode cX12_wrap 16 = .ok (.iload_n 2, 1) := by decide +kernel
theorem dX12_wrap_17 : decode cX12_wrap 17 = .ok (.sipush 166, 3) := by decide +kernel
theorem dX12_wrap_20 : decode cX12_wrap 20 = .ok (.iastore, 1) := by decide +kernel
theorem dX12_wrap_21 : decode cX12_wrap 21 = .ok (.iinc 2 1, 3) := by decide +kernel
theorem dX12_wrap_24 : decode cX12_wrap 24 = .ok (.goto (-18), 3) := by decide +kernel
theorem dX12_wrap_27 : decode cX12_wrap 27 = .ok (.aload_n 0, 1) := by decide +kernel
theorem dX12_wrap_28 : decode cX12_wrap 28 = .ok (.getfield 41, 3) := by decide +kernel
theorem dX12_wrap_31 : decode cX12_wrap 31 = .ok (.iconst 0, 1) := by decide +kernel
theorem dX12_wrap_32 : decode cX12_wrap 32 = .ok (.aload_n 0, 1) := by decide +kernel
theorem dX12_wrap_33 : decode cX12_wrap 33 = .ok (.getfield 44, 3) := by decide +kernel
theorem dX12_wrap_36 : decode cX12_wrap 36 = .ok (.bipush 8, 2) := by decide +kernel
theorem dX12_wrap_38 : decode cX12_wrap 38 = .ok (.aload_n 0, 1) := by decide +kernel
theorem dX12_wrap_39 : decode cX12_wrap 39 = .ok (.getfield 130, 3) := by decide +kernel
theorem dX12_wrap_42 : decode cX12_wrap 42 = .ok (.invokestatic 133, 3) := by decide +kernel
theorem dX12_wrap_45 : decode cX12_wrap 45 = .ok (.aload_n 0, 1) := by decide +kernel
theorem dX12_wrap_46 : decode cX12_wrap 46 = .ok (.aload_n 0, 1) := by decide +kernel
theorem dX12_wrap_47 : decode cX12_wrap 47 = .ok (.getfield 130, 3) := by decide +kernel
theorem dX12_wrap_50 : decode cX12_wrap 50 = .ok (.bipush 8, 2) := by decide +kernel
theorem dX12_wrap_52 : decode cX12_wrap 52 = .ok (.idiv, 1) := by decide +kernel
theorem dX12_wrap_53 : decode cX12_wrap 53 = .ok (.invokevirtual 183, 3) := by decide +kernel
theorem dX12_wrap_56 : decode cX12_wrap 56 = .ok (.aload_n 0, 1) := by decide +kernel
theorem dX12_wrap_57 : decode cX12_wrap 57 = .ok (.aload_n 0, 1) := by decide +kernel
theorem dX12_wrap_58 : decode cX12_wrap 58 = .ok (.getfield 130, 3) := by decide +kernel
theorem dX12_wrap_61 : decode cX12_wrap 61 = .ok (.bipush 8, 2) := by decide +kernel
theorem dX12_wrap_63 : decode cX12_wrap 63 = .ok (.iadd, 1) := by decide +kernel
theorem dX12_wrap_64 : decode cX12_wrap 64 = .ok (.putfield 153, 3) := by decide +kernel
theorem dX12_wrap_67 : decode cX12_wrap 67 = .ok (.iconst 0, 1) := by decide +kernel
theorem dX12_wrap_68 : decode cX12_wrap 68 = .ok (.ireturn, 1) := by decide +kernel
theorem dX12_wrap_69 : decode cX12_wrap 69 = .ok (.aload_n 0, 1) := by decide +kernel
theorem dX12_wrap_70 : decode cX12_wrap 70 = .ok (.getfield 41, 3) := by decide +kernel
theorem dX12_wrap_73 : decode cX12_wrap 73 = .ok (.iconst 0, 1) := by decide +kernel
theorem dX12_wrap_74 : decode cX12_wrap 74 = .ok (.aload_n 0, 1) := by decide +kernel
theorem dX12_wrap_75 : decode cX12_wrap 75 = .ok (.getfield 44, 3) := by decide +kernel
theorem dX12_wrap_78 : decode cX12_wrap 78 = .ok (.iconst 0, 1) := by decide +kernel
theorem dX12_wrap_79 : decode cX12_wrap 79 = .ok (.aload_n 0, 1) := by decide +kernel
theorem dX12_wrap_80 : decode cX12_wrap 80 = .ok (.getfield 130, 3) := by decide +kernel
theorem dX12_wrap_83 : decode cX12_wrap 83 = .ok (.invokestatic 133, 3) := by decide +kernel
theorem dX12_wrap_86 : decode cX12_wrap 86 = .ok (.aload_n 0, 1) := by decide +kernel
theorem dX12_wrap_87 : decode cX12_wrap 87 = .ok (.aload_n 0, 1) := by decide +kernel
theorem dX12_wrap_88 : decode cX12_wrap 88 = .ok (.getfield 130, 3) := by decide +kernel
theorem dX12_wrap_91 : decode cX12_wrap 91 = .ok (.bipush 8, 2) := by decide +kernel
theorem dX12_wrap_93 : decode cX12_wrap 93 = .ok (.idiv, 1) := by decide +kernel
theorem dX12_wrap_94 : decode cX12_wrap 94 = .ok (.iconst 1, 1) := by decide +kernel
theorem dX12_wrap_95 : decode cX12_wrap 95 = .ok (.isub, 1) := by decide +kernel
theorem dX12_wrap_96 : decode cX12_wrap 96 = .ok (.invokevirtual 186, 3) := by decide +kernel
theorem dX12_wrap_99 : decode cX12_wrap 99 = .ok (.iconst 1, 1) := by decide +kernel
theorem dX12_wrap_100 : decode cX12_wrap 100 = .ok (.istore_n 2, 1) := by decide +kernel
theorem dX12_wrap_101 : decode cX12_wrap 101 = .ok (.iconst 0, 1) := by decide +kernel
theorem dX12_wrap_102 : decode cX12_wrap 102 = .ok (.istore_n 3, 1) := by decide +kernel
theorem dX12_wrap_103 : decode cX12_wrap 103 = .ok (.iload_n 3, 1) := by decide +kernel
theorem dX12_wrap_104 : decode cX12_wrap 104 = .ok (.bipush 8, 2) := by decide +kernel
theorem dX12_wrap_106 : decode cX12_wrap 106 = .ok (.if_icmp .ge 31, 3) := by decide +kernel
theorem dX12_wrap_109 : decode cX12_wrap 109 = .ok (.iload_n 2, 1) := by decide +kernel
theorem dX12_wrap_110 : decode cX12_wrap 110 = .ok (.ifCond .eq 19, 3) := by decide +kernel
theorem dX12_wrap_113 : decode cX12_wrap 113 = .ok (.aload_n 0, 1) := by decide +kernel
theorem dX12_wrap_114 : decode cX12_wrap 114 = .ok (.getfield 44, 3) := by decide +kernel
theorem dX12_wrap_117 : decode cX12_wrap 117 = .ok (.iload_n 3, 1) := by decide +kernel
theorem dX12_wrap_118 : decode cX12_wrap 118 = .ok (.iaload, 1) := by decide +kernel
theorem dX12_wrap_119 : decode cX12_wrap 119 = .ok (.sipush 166, 3) := by decide +kernel
theorem dX12_wrap_122 : decode cX12_wrap 122 = .ok (.if_icmp .ne 7, 3) := by decide +kernel
theorem dX12_wrap_125 : decode cX12_wrap 125 = .ok (.iconst 1, 1) := by decide +kernel
theorem dX12_wrap_126 : decode cX12_wrap 126 = .ok (.goto 4, 3) := by decide +kernel
theorem dX12_wrap_129 : decode cX12_wrap 129 = .ok (.iconst 0, 1) := by decide +kernel
theorem dX12_wrap_130 : decode cX12_wrap 130 = .ok (.istore_n 2, 1) := by decide +kernel
theorem dX12_wrap_131 : decode cX12_wrap 131 = .ok (.iinc 3 1, 3) := by decide +kernel
theorem dX12_wrap_134 : decode cX12_wrap 134 = .ok (.goto (-31), 3) := by decide +kernel
theorem dX12_wrap_137 : decode cX12_wrap 137 = .ok (.aload_n 0, 1) := by decide +kernel
theorem dX12_wrap_138 : decode cX12_wrap 138 = .ok (.getfield 44, 3) := by decide +kernel
theorem dX12_wrap_141 : decode cX12_wrap 141 = .ok (.bipush 8, 2) := by decide +kernel
theorem dX12_wrap_143 : decode cX12_wrap 143 = .ok (.aload_n 0, 1) := by decide +kernel
theorem dX12_wrap_144 : decode cX12_wrap 144 = .ok (.getfield 44, 3) := by decide +kernel
theorem dX12_wrap_147 : decode cX12_wrap 147 = .ok (.iconst 0, 1) := by decide +kernel
theorem dX12_wrap_148 : decode cX12_wrap 148 = .ok (.aload_n 0, 1) := by decide +kernel
theorem dX12_wrap_149 : decode cX12_wrap 149 = .ok (.getfield 130, 3) := by decide +kernel
theorem dX12_wrap_152 : decode cX12_wrap 152 = .ok (.bipush 8, 2) := by decide +kernel
theorem dX12_wrap_154 : decode cX12_wrap 154 = .ok (.isub, 1) := by decide +kernel
theorem dX12_wrap_155 : decode cX12_wrap 155 = .ok (.invokestatic 133, 3) := by decide +kernel
theorem dX12_wrap_158 : decode cX12_wrap 158 = .ok (.aload_n 0, 1) := by decide +kernel
theorem dX12_wrap_159 : decode cX12_wrap 159 = .ok (.aload_n 0, 1) := by decide +kernel
theorem dX12_wrap_160 : decode cX12_wrap 160 = .ok (.getfield 130, 3) := by decide +kernel
theorem dX12_wrap_163 : decode cX12_wrap 163 = .ok (.bipush 8, 2) := by decide +kernel
theorem dX12_wrap_165 : decode cX12_wrap 165 = .ok (.isub, 1) := by decide +kernel
theorem dX12_wrap_166 : decode cX12_wrap 166 = .ok (.putfield 153, 3) := by decide +kernel
theorem dX12_wrap_169 : decode cX12_wrap 169 = .ok (.iload_n 2, 1) := by decide +kernel
theorem dX12_wrap_170 : decode cX12_wrap 170 = .ok (.ifCond .eq 7, 3) := by decide +kernel
theorem dX12_wrap_173 : decode cX12_wrap 173 = .ok (.iconst 0, 1) := by decide +kernel
theorem dX12_wrap_174 : decode cX12_wrap 174 = .ok (.goto 5, 3) := by decide +kernel
theorem dX12_wrap_177 : decode cX12_wrap 177 = .ok (.bipush (-6), 2) := by decide +kernel
theorem dX12_wrap_179 : decode cX12_wrap 179 = .ok (.ireturn, 1) := by decide +kernel
theorem dX12_paddedWrap_0 : decode cX12_paddedWrap 0 = .ok (.iload_n 1, 1) := by decide +kernel
theorem dX12_paddedWrap_1 : decode cX12_paddedWrap 1 = .ok (.ifCond .ne 161, 3) := by decide +kernel
theorem dX12_paddedWrap_4 : decode cX12_paddedWrap 4 = .ok (.aload_n 0, 1) := by decide +kernel
theorem dX12_paddedWrap_5 : decode cX12_paddedWrap 5 = .ok (.getfield 130, 3) := by decide +kernel
theorem dX12_paddedWrap_8 : decode cX12_paddedWrap 8 = .ok (.bipush 7, 2) := by decide +kernel
theorem dX12_paddedWrap_10 : decode cX12_paddedWrap 10 = .ok (.iadd, 1) := by decide +kernel
theorem dX12_paddedWrap_11 : decode cX12_paddedWrap 11 = .ok (.bipush 8, 2) := by decide +kernel
theorem dX12_paddedWrap_13 : decode cX12_paddedWrap 13 = .ok (.idiv, 1) := by decide +kernel
theorem dX12_paddedWrap_14 : decode cX12_paddedWrap 14 = .ok (.bipush 8, 2) := by decide +kernel
theorem dX12_paddedWrap_16 : decode cX12_paddedWrap 16 = .ok (.imul, 1) := by decide +kernel
theorem dX12_paddedWrap_17 : decode cX12_paddedWrap 17 = .ok (.istore_n 2, 1) := by decide +kernel
theorem dX12_paddedWrap_18 : decode cX12_paddedWrap 18 = .ok (.aload_n 0, 1) := by decide +kernel
theorem dX12_paddedWrap_19 : decode cX12_paddedWrap 19 = .ok (.getfield 44, 3) := by decide +kernel
theorem dX12_paddedWrap_22 : decode cX12_paddedWrap 22 = .ok (.iconst 0, 1) := by decide +kernel
theorem dX12_paddedWrap_23 : decode cX12_paddedWrap 23 = .ok (.sipush 166, 3) := by decide +kernel
theorem dX12_paddedWrap_26 : decode cX12_paddedWrap 26 = .ok (.iastore, 1) := by decide +kernel
theorem dX12_paddedWrap_27 : decode cX12_paddedWrap 27 = .ok (.aload_n 0, 1) := by decide +kernel
theorem dX12_paddedWrap_28 : decode cX12_paddedWrap 28 = .ok (.getfield 44, 3) := by decide +kernel
theorem dX12_paddedWrap_31 : decode cX12_paddedWrap 31 = .ok (.iconst 1, 1) := by decide +kernel
theorem dX12_paddedWrap_32 : decode cX12_paddedWrap 32 = .ok (.bipush 89, 2) := by decide +kernel
theorem dX12_paddedWrap_34 : decode cX12_paddedWrap 34 = .ok (.iastore, 1) := by decide +kernel
theorem dX12_paddedWrap_35 : decode cX12_paddedWrap 35 = .ok (.aload_n 0, 1) := by decide +kernel
theorem dX12_paddedWrap_36 : decode cX12_paddedWrap 36 = .ok (.getfield 44, 3) := by decide +kernel
theorem dX12_paddedWrap_39 : decode cX12_paddedWrap 39 = .ok (.iconst 2, 1) := by decide +kernel
theorem dX12_paddedWrap_40 : decode cX12_paddedWrap 40 = .ok (.bipush 89, 2) := by decide +kernel
theorem dX12_paddedWrap_42 : decode cX12_paddedWrap 42 = .ok (.iastore, 1) := by decide +kernel
theorem dX12_paddedWrap_43 : decode cX12_paddedWrap 43 = .ok (.aload_n 0, 1) := by decide +kernel
theorem dX12_paddedWrap_44 : decode cX12_paddedWrap 44 = .ok (.getfield 44, 3) := by decide +kernel
theorem dX12_paddedWrap_47 : decode cX12_paddedWrap 47 = .ok (.iconst 3, 1) := by decide +kernel
theorem dX12_paddedWrap_48 : decode cX12_paddedWrap 48 = .ok (.sipush 166, 3) := by decide +kernel
theorem dX12_paddedWrap_51 : decode cX12_paddedWrap 51 = .ok (.iastore, 1) := by decide +kernel
theorem dX12_paddedWrap_52 : decode cX12_paddedWrap 52 = .ok (.iconst 0, 1) := by decide +kernel
theorem dX12_paddedWrap_53 : decode cX12_paddedWrap 53 = .ok (.istore_n 3, 1) := by decide +kernel
theorem dX12_paddedWrap_54 : decode cX12_paddedWrap 54 = .ok (.iload_n 3, 1) := by decide +kernel
theorem dX12_paddedWrap_55 : decode cX12_paddedWrap 55 = .ok (.iconst 4, 1) := by decide +kernel
theorem dX12_paddedWrap_56 : decode cX12_paddedWrap 56 = .ok (.if_icmp .ge 33, 3) := by decide +kernel
theorem dX12_paddedWrap_59 : decode cX12_paddedWrap 59 = .ok (.aload_n 0, 1) := by decide +kernel
theorem dX12_paddedWrap_60 : decode cX12_paddedWrap 60 = .ok (.getfield 44, 3) := by decide +kernel
theorem dX12_paddedWrap_63 : decode cX12_paddedWrap 63 = .ok (.iconst 4, 1) := by decide +kernel
theorem dX12_paddedWrap_64 : decode cX12_paddedWrap 64 = .ok (.iload_n 3, 1) := by decide +kernel
theorem dX12_paddedWrap_65 : decode cX12_paddedWrap 65 = .ok (.iadd, 1) := by decide +kernel
theorem dX12_paddedWrap_66 : decode cX12_paddedWrap 66 = .ok (.aload_n 0, 1) := by decide +kernel
theorem dX12_paddedWrap_67 : decode cX12_paddedWrap 67 = .ok (.getfield 130, 3) := by decide +kernel
theorem dX12_paddedWrap_70 : decode cX12_paddedWrap 70 = .ok (.bipush 24, 2) := by decide +kernel
theorem dX12_paddedWrap_72 : decode cX12_paddedWrap 72 = .ok (.bipush 8, 2) := by decide +kernel
theorem dX12_paddedWrap_74 : decode cX12_paddedWrap 74 = .ok (.iload_n 3, 1) := by decide +kernel
theorem dX12_paddedWrap_75 : decode cX12_paddedWrap 75 = .ok (.imul, 1) := by decide +kernel
theorem dX12_paddedWrap_76 : decode cX12_paddedWrap 76 = .ok (.isub, 1) := by decide +kernel
theorem dX12_paddedWrap_77 : decode cX12_paddedWrap 77 = .ok (.ishr, 1) := by decide +kernel
theorem dX12_paddedWrap_78 : decode cX12_paddedWrap 78 = .ok (.sipush 255, 3) := by decide +kernel
theorem dX12_paddedWrap_81 : decode cX12_paddedWrap 81 = .ok (.iand, 1) := by decide +kernel
theorem dX12_paddedWrap_82 : decode cX12_paddedWrap 82 = .ok (.iastore, 1) := by decide +kernel
theorem dX12_paddedWrap_83 : decode cX12_paddedWrap 83 = .ok (.iinc 3 1, 3) := by decide +kernel
theorem dX12_paddedWrap_86 : decode cX12_paddedWrap 86 = .ok (.goto (-32), 3) := by decide +kernel
theorem dX12_paddedWrap_89 : decode cX12_paddedWrap 89 = .ok (.aload_n 0, 1) := by decide +kernel
theorem dX12_paddedWrap_90 : decode cX12_paddedWrap 90 = .ok (.getfield 41, 3) := by decide +kernel
theorem dX12_paddedWrap_93 : decode cX12_paddedWrap 93 = .ok (.iconst 0, 1) := by decide +kernel
theorem dX12_paddedWrap_94 : decode cX12_paddedWrap 94 = .ok (.aload_n 0, 1) := by decide +kernel
theorem dX12_paddedWrap_95 : decode cX12_paddedWrap 95 = .ok (.getfield 44, 3) := by decide +kernel
theorem dX12_paddedWrap_98 : decode cX12_paddedWrap 98 = .ok (.bipush 8, 2) := by decide +kernel
theorem dX12_paddedWrap_100 : decode cX12_paddedWrap 100 = .ok (.aload_n 0, 1) := by decide +kernel
theorem dX12_paddedWrap_101 : decode cX12_paddedWrap 101 = .ok (.getfield 130, 3) := by decide +kernel
theorem dX12_paddedWrap_104 : decode cX12_paddedWrap 104 = .ok (.invokestatic 133, 3) := by decide +kernel
theorem dX12_paddedWrap_107 : decode cX12_paddedWrap 107 = .ok (.aload_n 0, 1) := by decide +kernel
theorem dX12_paddedWrap_108 : decode cX12_paddedWrap 108 = .ok (.getfield 44, 3) := by decide +kernel
theorem dX12_paddedWrap_111 : decode cX12_paddedWrap 111 = .ok (.bipush 8, 2) := by decide +kernel
theorem dX12_paddedWrap_113 : decode cX12_paddedWrap 113 = .ok (.aload_n 0, 1) := by decide +kernel
theorem dX12_paddedWrap_114 : decode cX12_paddedWrap 114 = .ok (.getfield 130, 3) := by decide +kernel
theorem dX12_paddedWrap_117 : decode cX12_paddedWrap 117 = .ok (.iadd, 1) := by decide +kernel
theorem dX12_paddedWrap_118 : decode cX12_paddedWrap 118 = .ok (.bipush 8, 2) := by decide +kernel
theorem dX12_paddedWrap_120 : decode cX12_paddedWrap 120 = .ok (.iload_n 2, 1) := by decide +kernel
theorem dX12_paddedWrap_121 : decode cX12_paddedWrap 121 = .ok (.iadd, 1) := by decide +kernel
theorem dX12_paddedWrap_122 : decode cX12_paddedWrap 122 = .ok (.invokestatic 164, 3) := by decide +kernel
theorem dX12_paddedWrap_125 : decode cX12_paddedWrap 125 = .ok (.iload_n 2, 1) := by decide +kernel
theorem dX12_paddedWrap_126 : decode cX12_paddedWrap 126 = .ok (.bipush 8, 2) := by decide +kernel
theorem dX12_paddedWrap_128 : decode cX12_paddedWrap 128 = .ok (.if_icmp .ne 16, 3) := by decide +kernel
theorem dX12_paddedWrap_131 : decode cX12_paddedWrap 131 = .ok (.aload_n 0, 1) := by decide +kernel
theorem dX12_paddedWrap_132 : decode cX12_paddedWrap 132 = .ok (.iconst 0, 1) := by decide +kernel
theorem dX12_paddedWrap_133 : decode cX12_paddedWrap 133 = .ok (.aload_n 0, 1) := by decide +kernel
theorem dX12_paddedWrap_134 : decode cX12_paddedWrap 134 = .ok (.getfield 44, 3) := by decide +kernel
theorem dX12_paddedWrap_137 : decode cX12_paddedWrap 137 = .ok (.iconst 0, 1) := by decide +kernel
theorem dX12_paddedWrap_138 : decode cX12_paddedWrap 138 = .ok (.invokevirtual 146, 3) := by decide +kernel
theorem dX12_paddedWrap_141 : decode cX12_paddedWrap 141 = .ok (.goto 11, 3) := by decide +kernel
theorem dX12_paddedWrap_144 : decode cX12_paddedWrap 144 = .ok (.aload_n 0, 1) := by decide +kernel
theorem dX12_paddedWrap_145 : decode cX12_paddedWrap 145 = .ok (.iload_n 2, 1) := by decide +kernel
theorem dX12_paddedWrap_146 : decode cX12_paddedWrap 146 = .ok (.bipush 8, 2) := by decide +kernel
theorem dX12_paddedWrap_148 : decode cX12_paddedWrap 148 = .ok (.idiv, 1) := by decide +kernel
theorem dX12_paddedWrap_149 : decode cX12_paddedWrap 149 = .ok (.invokevirtual 183, 3) := by decide +kernel
theorem dX12_paddedWrap_152 : decode cX12_paddedWrap 152 = .ok (.aload_n 0, 1) := by decide +kernel
theorem dX12_paddedWrap_153 : decode cX12_paddedWrap 153 = .ok (.iload_n 2, 1) := by decide +kernel
theorem dX12_paddedWrap_154 : decode cX12_paddedWrap 154 = .ok (.bipush 8, 2) := by decide +kernel
theorem dX12_paddedWrap_156 : decode cX12_paddedWrap 156 = .ok (.iadd, 1) := by decide +kernel
theorem dX12_paddedWrap_157 : decode cX12_paddedWrap 157 = .ok (.putfield 153, 3) := by decide +kernel
theorem dX12_paddedWrap_160 : decode cX12_paddedWrap 160 = .ok (.iconst 0, 1) := by decide +kernel
theorem dX12_paddedWrap_161 : decode cX12_paddedWrap 161 = .ok (.ireturn, 1) := by decide +kernel
theorem dX12_paddedWrap_162 : decode cX12_paddedWrap 162 = .ok (.aload_n 0, 1) := by decide +kernel
theorem dX12_paddedWrap_163 : decode cX12_paddedWrap 163 = .ok (.getfield 41, 3) := by decide +kernel
theorem dX12_paddedWrap_166 : decode cX12_paddedWrap 166 = .ok (.iconst 0, 1) := by decide +kernel
theorem dX12_paddedWrap_167 : decode cX12_paddedWrap 167 = .ok (.aload_n 0, 1) := by decide +kernel
theorem dX12_paddedWrap_168 : decode cX12_paddedWrap 168 = .ok (.getfield 44, 3) := by decide +kernel
theorem dX12_paddedWrap_171 : decode cX12_paddedWrap 171 = .ok (.iconst 0, 1) := by decide +kernel
theorem dX12_paddedWrap_172 : decode cX12_paddedWrap 172 = .ok (.aload_n 0, 1) := by decide +kernel
theorem dX12_paddedWrap_173 : decode cX12_paddedWrap 173 = .ok (.getfield 130, 3) := by decide +kernel
theorem dX12_paddedWrap_176 : decode cX12_paddedWrap 176 = .ok (.invokestatic 133, 3) := by decide +kernel
theorem dX12_paddedWrap_179 : decode cX12_paddedWrap 179 = .ok (.aload_n 0, 1) := by decide +kernel
theorem dX12_paddedWrap_180 : decode cX12_paddedWrap 180 = .ok (.getfield 130, 3) := by decide +kernel
theorem dX12_paddedWrap_183 : decode cX12_paddedWrap 183 = .ok (.bipush 16, 2) := by decide +kernel
theorem dX12_paddedWrap_185 : decode cX12_paddedWrap 185 = .ok (.if_icmp .ne 16, 3) := by decide +kernel
theorem dX12_paddedWrap_188 : decode cX12_paddedWrap 188 = .ok (.aload_n 0, 1) := by decide +kernel
theorem dX12_paddedWrap_189 : decode cX12_paddedWrap 189 = .ok (.iconst 0, 1) := by decide +kernel
theorem dX12_paddedWrap_190 : decode cX12_paddedWrap 190 = .ok (.aload_n 0, 1) := by decide +kernel
theorem dX12_paddedWrap_191 : decode cX12_paddedWrap 191 = .ok (.getfield 44, 3) := by decide +kernel
theorem dX12_paddedWrap_194 : decode cX12_paddedWrap 194 = .ok (.iconst 0, 1) := by decide +kernel
theorem dX12_paddedWrap_195 : decode cX12_paddedWrap 195 = .ok (.invokevirtual 150, 3) := by decide +kernel
theorem dX12_paddedWrap_198 : decode cX12_paddedWrap 198 = .ok (.goto 16, 3) := by decide +kernel
theorem dX12_paddedWrap_201 : decode cX12_paddedWrap 201 = .ok (.aload_n 0, 1) := by decide +kernel
theorem dX12_paddedWrap_202 : decode cX12_paddedWrap 202 = .ok (.aload_n 0, 1) := by decide +kernel
theorem dX12_paddedWrap_203 : decode cX12_paddedWrap 203 = .ok (.getfield 130, 3) := by decide +kernel
theorem dX12_paddedWrap_206 : decode cX12_paddedWrap 206 = .ok (.bipush 8, 2) := by decide +kernel
theorem dX12_paddedWrap_208 : decode cX12_paddedWrap 208 = .ok (.idiv, 1) := by decide +kernel
theorem dX12_paddedWrap_209 : decode cX12_paddedWrap 209 = .ok (.iconst 1, 1) := by decide +kernel
theorem dX12_paddedWrap_210 : decode cX12_paddedWrap 210 = .ok (.isub, 1) := by decide +kernel
theorem dX12_paddedWrap_211 : decode cX12_paddedWrap 211 = .ok (.invokevirtual 186, 3) := by decide +kernel
theorem dX12_paddedWrap_214 : decode cX12_paddedWrap 214 = .ok (.aload_n 0, 1) := by decide +kernel
theorem dX12_paddedWrap_215 : decode cX12_paddedWrap 215 = .ok (.getfield 44, 3) := by decide +kernel
theorem dX12_paddedWrap_218 : decode cX12_paddedWrap 218 = .ok (.iconst 0, 1) := by decide +kernel
theorem dX12_paddedWrap_219 : decode cX12_paddedWrap 219 = .ok (.iaload, 1) := by decide +kernel
theorem dX12_paddedWrap_220 : decode cX12_paddedWrap 220 = .ok (.sipush 166, 3) := by decide +kernel
theorem dX12_paddedWrap_223 : decode cX12_paddedWrap 223 = .ok (.if_icmp .ne 59, 3) := by decide +kernel
theorem dX12_paddedWrap_226 : decode cX12_paddedWrap 226 = .ok (.aload_n 0, 1) := by decide +kernel
theorem dX12_paddedWrap_227 : decode cX12_paddedWrap 227 = .ok (.getfield 44, 3) := by decide +kernel
theorem dX12_paddedWrap_230 : decode cX12_paddedWrap 230 = .ok (.iconst 1, 1) := by decide +kernel
theorem dX12_paddedWrap_231 : decode cX12_paddedWrap 231 = .ok (.iaload, 1) := by decide +kernel
theorem dX12_paddedWrap_232 : decode cX12_paddedWrap 232 = .ok (.bipush 89, 2) := by decide +kernel
theorem dX12_paddedWrap_234 : decode cX12_paddedWrap 234 = .ok (.if_icmp .ne 48, 3) := by decide +kernel
theorem dX12_paddedWrap_237 : decode cX12_paddedWrap 237 = .ok (.aload_n 0, 1) := by decide +kernel
theorem dX12_paddedWrap_238 : decode cX12_paddedWrap 238 = .ok (.getfield 44, 3) := by decide +kernel
theorem dX12_paddedWrap_241 : decode cX12_paddedWrap 241 = .ok (.iconst 2, 1) := by decide +kernel
theorem dX12_paddedWrap_242 : decode cX12_paddedWrap 242 = .ok (.iaload, 1) := by decide +kernel
theorem dX12_paddedWrap_243 : decode cX12_paddedWrap 243 = .ok (.bipush 89, 2) := by decide +kernel
theorem dX12_paddedWrap_245 : decode cX12_paddedWrap 245 = .ok (.if_icmp .ne 37, 3) := by decide +kernel
theorem dX12_paddedWrap_248 : decode cX12_paddedWrap 248 = .ok (.aload_n 0, 1) := by decide +kernel
theorem dX12_paddedWrap_249 : decode cX12_paddedWrap 249 = .ok (.getfield 44, 3) := by decide +kernel
theorem dX12_paddedWrap_252 : decode cX12_paddedWrap 252 = .ok (.iconst 3, 1) := by decide +kernel
theorem dX12_paddedWrap_253 : decode cX12_paddedWrap 253 = .ok (.iaload, 1) := by decide +kernel
theorem dX12_paddedWrap_254 : decode cX12_paddedWrap 254 = .ok (.sipush 166, 3) := by decide +kernel
theorem dX12_paddedWrap_257 : decode cX12_paddedWrap 257 = .ok (.if_icmp .ne 25, 3) := by decide +kernel
theorem dX12_paddedWrap_260 : decode cX12_paddedWrap 260 = .ok (.aload_n 0, 1) := by decide +kernel
theorem dX12_paddedWrap_261 : decode cX12_paddedWrap 261 = .ok (.getfield 44, 3) := by decide +kernel
theorem dX12_paddedWrap_264 : decode cX12_paddedWrap 264 = .ok (.iconst 4, 1) := by decide +kernel
theorem dX12_paddedWrap_265 : decode cX12_paddedWrap 265 = .ok (.iaload, 1) := by decide +kernel
theorem dX12_paddedWrap_266 : decode cX12_paddedWrap 266 = .ok (.ifCond .ne 16, 3) := by decide +kernel
theorem dX12_paddedWrap_269 : decode cX12_paddedWrap 269 = .ok (.aload_n 0, 1) := by decide +kernel
theorem dX12_paddedWrap_270 : decode cX12_paddedWrap 270 = .ok (.getfield 44, 3) := by decide +kernel
theorem dX12_paddedWrap_273 : decode cX12_paddedWrap 273 = .ok (.iconst 5, 1) := by decide +kernel
theorem dX12_paddedWrap_274 : decode cX12_paddedWrap 274 = .ok (.iaload, 1) := by decide +kernel
theorem dX12_paddedWrap_275 : decode cX12_paddedWrap 275 = .ok (.ifCond .ne 7, 3) := by decide +kernel
theorem dX12_paddedWrap_278 : decode cX12_paddedWrap 278 = .ok (.iconst 1, 1) := by decide +kernel
theorem dX12_paddedWrap_279 : decode cX12_paddedWrap 279 = .ok (.goto 4, 3) := by decide +kernel
theorem dX12_paddedWrap_282 : decode cX12_paddedWrap 282 = .ok (.iconst 0, 1) := by decide +kernel
theorem dX12_paddedWrap_283 : decode cX12_paddedWrap 283 = .ok (.istore_n 2, 1) := by decide +kernel
theorem dX12_paddedWrap_284 : decode cX12_paddedWrap 284 = .ok (.sipush 256, 3) := by decide +kernel
theorem dX12_paddedWrap_287 : decode cX12_paddedWrap 287 = .ok (.aload_n 0, 1) := by decide +kernel
theorem dX12_paddedWrap_288 : decode cX12_paddedWrap 288 = .ok (.getfield 44, 3) := by decide +kernel
theorem dX12_paddedWrap_291 : decode cX12_paddedWrap 291 = .ok (.bipush 6, 2) := by decide +kernel
theorem dX12_paddedWrap_293 : decode cX12_paddedWrap 293 = .ok (.iaload, 1) := by decide +kernel
theorem dX12_paddedWrap_294 : decode cX12_paddedWrap 294 = .ok (.imul, 1) := by decide +kernel
theorem dX12_paddedWrap_295 : decode cX12_paddedWrap 295 = .ok (.aload_n 0, 1) := by decide +kernel
theorem dX12_paddedWrap_296 : decode cX12_paddedWrap 296 = .ok (.getfield 44, 3) := by decide +kernel
theorem dX12_paddedWrap_299 : decode cX12_paddedWrap 299 = .ok (.bipush 7, 2) := by decide +kernel
theorem dX12_paddedWrap_301 : decode cX12_paddedWrap 301 = .ok (.iaload, 1) := by decide +kernel
theorem dX12_paddedWrap_302 : decode cX12_paddedWrap 302 = .ok (.iadd, 1) := by decide +kernel
theorem dX12_paddedWrap_303 : decode cX12_paddedWrap 303 = .ok (.istore_n 3, 1) := by decide +kernel
theorem dX12_paddedWrap_304 : decode cX12_paddedWrap 304 = .ok (.iload_n 2, 1) := by decide +kernel
theorem dX12_paddedWrap_305 : decode cX12_paddedWrap 305 = .ok (.ifCond .eq 29, 3) := by decide +kernel
theorem dX12_paddedWrap_308 : decode cX12_paddedWrap 308 = .ok (.iload_n 3, 1) := by decide +kernel
theorem dX12_paddedWrap_309 : decode cX12_paddedWrap 309 = .ok (.aload_n 0, 1) := by decide +kernel
theorem dX12_paddedWrap_310 : decode cX12_paddedWrap 310 = .ok (.getfield 130, 3) := by decide +kernel
theorem dX12_paddedWrap_313 : decode cX12_paddedWrap 313 = .ok (.bipush 16, 2) := by decide +kernel
theorem dX12_paddedWrap_315 : decode cX12_paddedWrap 315 = .ok (.isub, 1) := by decide +kernel
theorem dX12_paddedWrap_316 : decode cX12_paddedWrap 316 = .ok (.if_icmp .le 18, 3) := by decide +kernel
theorem dX12_paddedWrap_319 : decode cX12_paddedWrap 319 = .ok (.iload_n 3, 1) := by decide +kernel
theorem dX12_paddedWrap_320 : decode cX12_paddedWrap 320 = .ok (.aload_n 0, 1) := by decide +kernel
theorem dX12_paddedWrap_321 : decode cX12_paddedWrap 321 = .ok (.getfield 130, 3) := by decide +kernel
theorem dX12_paddedWrap_324 : decode cX12_paddedWrap 324 = .ok (.bipush 8, 2) := by decide +kernel
theorem dX12_paddedWrap_326 : decode cX12_paddedWrap 326 = .ok (.isub, 1) := by decide +kernel
theorem dX12_paddedWrap_327 : decode cX12_paddedWrap 327 = .ok (.if_icmp .gt 7, 3) := by decide +kernel
theorem dX12_paddedWrap_330 : decode cX12_paddedWrap 330 = .ok (.iconst 1, 1) := by decide +kernel
theorem dX12_paddedWrap_331 : decode cX12_paddedWrap 331 = .ok (.goto 4, 3) := by decide +kernel
theorem dX12_paddedWrap_334 : decode cX12_paddedWrap 334 = .ok (.iconst 0, 1) := by decide +kernel
theorem dX12_paddedWrap_335 : decode cX12_paddedWrap 335 = .ok (.istore_n 2, 1) := by decide +kernel
theorem dX12_paddedWrap_336 : decode cX12_paddedWrap 336 = .ok (.bipush 8, 2) := by decide +kernel
theorem dX12_paddedWrap_338 : decode cX12_paddedWrap 338 = .ok (.iload_n 3, 1) := by decide +kernel
theorem dX12_paddedWrap_339 : decode cX12_paddedWrap 339 = .ok (.iadd, 1) := by decide +kernel
theorem dX12_paddedWrap_340 : decode cX12_paddedWrap 340 = .ok (.istore 4, 2) := by decide +kernel
theorem dX12_paddedWrap_342 : decode cX12_paddedWrap 342 = .ok (.iload_n 2, 1) := by decide +kernel
theorem dX12_paddedWrap_343 : decode cX12_paddedWrap 343 = .ok (.ifCond .eq 34, 3) := by decide +kernel
theorem dX12_paddedWrap_346 : decode cX12_paddedWrap 346 = .ok (.iload 4, 2) := by decide +kernel
theorem dX12_paddedWrap_348 : decode cX12_paddedWrap 348 = .ok (.aload_n 0, 1) := by decide +kernel
theorem dX12_paddedWrap_349 : decode cX12_paddedWrap 349 = .ok (.getfield 130, 3) := by decide +kernel
theorem dX12_paddedWrap_352 : decode cX12_paddedWrap 352 = .ok (.if_icmp .ge 25, 3) := by decide +kernel
theorem dX12_paddedWrap_355 : decode cX12_paddedWrap 355 = .ok (.aload_n 0, 1) := by decide +kernel
theorem dX12_paddedWrap_356 : decode cX12_paddedWrap 356 = .ok (.getfield 44, 3) := by decide +kernel
theorem dX12_paddedWrap_359 : decode cX12_paddedWrap 359 = .ok (.iload 4, 2) := by decide +kernel
theorem dX12_paddedWrap_361 : decode cX12_paddedWrap 361 = .ok (.iaload, 1) := by decide +kernel
theorem dX12_paddedWrap_362 : decode cX12_paddedWrap 362 = .ok (.ifCond .ne 7, 3) := by decide +kernel
theorem dX12_paddedWrap_365 : decode cX12_paddedWrap 365 = .ok (.iconst 1, 1) := by decide +kernel
theorem dX12_paddedWrap_366 : decode cX12_paddedWrap 366 = .ok (.goto 4, 3) := by decide +kernel
theorem dX12_paddedWrap_369 : decode cX12_paddedWrap 369 = .ok (.iconst 0, 1) := by decide +kernel
theorem dX12_paddedWrap_370 : decode cX12_paddedWrap 370 = .ok (.istore_n 2, 1) := by decide +kernel
theorem dX12_paddedWrap_371 : decode cX12_paddedWrap 371 = .ok (.iinc 4 1, 3) := by decide +kernel
theorem dX12_paddedWrap_374 : decode cX12_paddedWrap 374 = .ok (.goto (-32), 3) := by decide +kernel
theorem dX12_paddedWrap_377 : decode cX12_paddedWrap 377 = .ok (.aload_n 0, 1) := by decide +kernel
theorem dX12_paddedWrap_378 : decode cX12_paddedWrap 378 = .ok (.iload_n 2, 1) := by decide +kernel
theorem dX12_paddedWrap_379 : decode cX12_paddedWrap 379 = .ok (.ifCond .eq 7, 3) := by decide +kernel
theorem dX12_paddedWrap_382 : decode cX12_paddedWrap 382 = .ok (.iload_n 3, 1) := by decide +kernel
theorem dX12_paddedWrap_383 : decode cX12_paddedWrap 383 = .ok (.goto 4, 3) := by decide +kernel
theorem dX12_paddedWrap_386 : decode cX12_paddedWrap 386 = .ok (.iconst 0, 1) := by decide +kernel
theorem dX12_paddedWrap_387 : decode cX12_paddedWrap 387 = .ok (.putfield 153, 3) := by decide +kernel
theorem dX12_paddedWrap_390 : decode cX12_paddedWrap 390 = .ok (.aload_n 0, 1) := by decide +kernel
theorem dX12_paddedWrap_391 : decode cX12_paddedWrap 391 = .ok (.getfield 44, 3) := by decide +kernel
theorem dX12_paddedWrap_394 : decode cX12_paddedWrap 394 = .ok (.bipush 8, 2) := by decide +kernel
theorem dX12_paddedWrap_396 : decode cX12_paddedWrap 396 = .ok (.aload_n 0, 1) := by decide +kernel
theorem dX12_paddedWrap_397 : decode cX12_paddedWrap 397 = .ok (.getfield 44, 3) := by decide +kernel
theorem dX12_paddedWrap_400 : decode cX12_paddedWrap 400 = .ok (.iconst 0, 1) := by decide +kernel
theorem dX12_paddedWrap_401 : decode cX12_paddedWrap 401 = .ok (.aload_n 0, 1) := by decide +kernel
theorem dX12_paddedWrap_402 : decode cX12_paddedWrap 402 = .ok (.getfield 153, 3) := by decide +kernel
theorem dX12_paddedWrap_405 : decode cX12_paddedWrap 405 = .ok (.invokestatic 133, 3) := by decide +kernel
theorem dX12_paddedWrap_408 : decode cX12_paddedWrap 408 = .ok (.iload_n 2, 1) := by decide +kernel
theorem dX12_paddedWrap_409 : decode cX12_paddedWrap 409 = .ok (.ifCond .eq 7, 3) := by decide +kernel
theorem dX12_paddedWrap_412 : decode cX12_paddedWrap 412 = .ok (.iconst 0, 1) := by decide +kernel
theorem dX12_paddedWrap_413 : decode cX12_paddedWrap 413 = .ok (.goto 5, 3) := by decide +kernel
theorem dX12_paddedWrap_416 : decode cX12_paddedWrap 416 = .ok (.bipush (-6), 2) := by decide +kernel
theorem dX12_paddedWrap_418 : decode cX12_paddedWrap 418 = .ok (.ireturn, 1) := by decide +kernel
theorem dX12_timesH_0 : decode cX12_timesH 0 = .ok (.aload_n 0, 1) := by decide +kernel
theorem dX12_timesH_1 : decode cX12_timesH 1 = .ok (.getfield 71, 3) := by decide +kernel
theorem dX12_timesH_4 : decode cX12_timesH 4 = .ok (.iconst 0, 1) := by decide +kernel
theorem dX12_timesH_5 : decode cX12_timesH 5 = .ok (.bipush 16, 2) := by decide +kernel
theorem dX12_timesH_7 : decode cX12_timesH 7 = .ok (.invokestatic 164, 3) := by decide +kernel
theorem dX12_timesH_10 : decode cX12_timesH 10 = .ok (.aload_n 0, 1) := by decide +kernel
theorem dX12_timesH_11 : decode cX12_timesH 11 = .ok (.getfield 62, 3) := by decide +kernel
theorem dX12_timesH_14 : decode cX12_timesH 14 = .ok (.iconst 0, 1) := by decide +kernel
theorem dX12_timesH_15 : decode cX12_timesH 15 = .ok (.aload_n 0, 1) := by decide +kernel
theorem dX12_timesH_16 : decode cX12_timesH 16 = .ok (.getfield 68, 3) := by decide +kernel
theorem dX12_timesH_19 : decode cX12_timesH 19 = .ok (.iconst 0, 1) := by decide +kernel
theorem dX12_timesH_20 : decode cX12_timesH 20 = .ok (.bipush 16, 2) := by decide +kernel
theorem dX12_timesH_22 : decode cX12_timesH 22 = .ok (.invokestatic 133, 3) := by decide +kernel
theorem dX12_timesH_25 : decode cX12_timesH 25 = .ok (.iconst 0, 1) := by decide +kernel
theorem dX12_timesH_26 : decode cX12_timesH 26 = .ok (.istore_n 1, 1) := by decide +kernel
theorem dX12_timesH_27 : decode cX12_timesH 27 = .ok (.iload_n 1, 1) := by decide +kernel
theorem dX12_timesH_28 : decode cX12_timesH 28 = .ok (.sipush 128, 3) := by decide +kernel
theorem dX12_timesH_31 : decode cX12_timesH 31 = .ok (.if_icmp .ge 120, 3) := by decide +kernel
theorem dX12_timesH_34 : decode cX12_timesH 34 = .ok (.aload_n 0, 1) := by decide +kernel
theorem dX12_timesH_35 : decode cX12_timesH 35 = .ok (.getfield 65, 3) := by decide +kernel
theorem dX12_timesH_38 : decode cX12_timesH 38 = .ok (.iload_n 1, 1) := by decide +kernel
theorem dX12_timesH_39 : decode cX12_timesH 39 = .ok (.bipush 8, 2) := by decide +kernel
theorem dX12_timesH_41 : decode cX12_timesH 41 = .ok (.idiv, 1) := by decide +kernel
theorem dX12_timesH_42 : decode cX12_timesH 42 = .ok (.iaload, 1) := by decide +kernel
theorem dX12_timesH_43 : decode cX12_timesH 43 = .ok (.bipush 7, 2) := by decide +kernel
theorem dX12_timesH_45 : decode cX12_timesH 45 = .ok (.iload_n 1, 1) := by decide +kernel
theorem dX12_timesH_46 : decode cX12_timesH 46 = .ok (.bipush 8, 2) := by decide +kernel
theorem dX12_timesH_48 : decode cX12_timesH 48 = .ok (.irem, 1) := by decide +kernel
theorem dX12_timesH_49 : decode cX12_timesH 49 = .ok (.isub, 1) := by decide +kernel
theorem dX12_timesH_50 : decode cX12_timesH 50 = .ok (.ishr, 1) := by decide +kernel
theorem dX12_timesH_51 : decode cX12_timesH 51 = .ok (.iconst 1, 1) := by decide +kernel
theorem dX12_timesH_52 : decode cX12_timesH 52 = .ok (.iand, 1) := by decide +kernel
theorem dX12_timesH_53 : decode cX12_timesH 53 = .ok (.iconst 1, 1) := by decide +kernel
theorem dX12_timesH_54 : decode cX12_timesH 54 = .ok (.if_icmp .ne 18, 3) := by decide +kernel
theorem dX12_timesH_57 : decode cX12_timesH 57 = .ok (.aload_n 0, 1) := by decide +kernel
theorem dX12_timesH_58 : decode cX12_timesH 58 = .ok (.getfield 68, 3) := by decide +kernel
theorem dX12_timesH_61 : decode cX12_timesH 61 = .ok (.iconst 0, 1) := by decide +kernel
theorem dX12_timesH_62 : decode cX12_timesH 62 = .ok (.aload_n 0, 1) := by decide +kernel
theorem dX12_timesH_63 : decode cX12_timesH 63 = .ok (.getfield 71, 3) := by decide +kernel
theorem dX12_timesH_66 : decode cX12_timesH 66 = .ok (.iconst 0, 1) := by decide +kernel
theorem dX12_timesH_67 : decode cX12_timesH 67 = .ok (.bipush 16, 2) := by decide +kernel
theorem dX12_timesH_69 : decode cX12_timesH 69 = .ok (.invokestatic 143, 3) := by decide +kernel
theorem dX12_timesH_72 : decode cX12_timesH 72 = .ok (.aload_n 0, 1) := by decide +kernel
theorem dX12_timesH_73 : decode cX12_timesH 73 = .ok (.getfield 68, 3) := by decide +kernel
theorem dX12_timesH_76 : decode cX12_timesH 76 = .ok (.bipush 15, 2) := by decide +kernel
theorem dX12_timesH_78 : decode cX12_timesH 78 = .ok (.iaload, 1) := by decide +kernel
theorem dX12_timesH_79 : decode cX12_timesH 79 = .ok (.iconst 1, 1) := by decide +kernel
theorem dX12_timesH_80 : decode cX12_timesH 80 = .ok (.iand, 1) := by decide +kernel
theorem dX12_timesH_81 : decode cX12_timesH 81 = .ok (.istore_n 2, 1) := by decide +kernel
theorem dX12_timesH_82 : decode cX12_timesH 82 = .ok (.bipush 15, 2) := by decide +kernel
theorem dX12_timesH_84 : decode cX12_timesH 84 = .ok (.istore_n 3, 1) := by decide +kernel
theorem dX12_timesH_85 : decode cX12_timesH 85 = .ok (.iload_n 3, 1) := by decide +kernel
theorem dX12_timesH_86 : decode cX12_timesH 86 = .ok (.ifCond .lt 45, 3) := by decide +kernel
theorem dX12_timesH_89 : decode cX12_timesH 89 = .ok (.aload_n 0, 1) := by decide +kernel
theorem dX12_timesH_90 : decode cX12_timesH 90 = .ok (.getfield 68, 3) := by decide +kernel
theorem dX12_timesH_93 : decode cX12_timesH 93 = .ok (.iload_n 3, 1) := by decide +kernel
theorem dX12_timesH_94 : decode cX12_timesH 94 = .ok (.aload_n 0, 1) := by decide +kernel
theorem dX12_timesH_95 : decode cX12_timesH 95 = .ok (.getfield 68, 3) := by decide +kernel
theorem dX12_timesH_98 : decode cX12_timesH 98 = .ok (.iload_n 3, 1) := by decide +kernel
theorem dX12_timesH_99 : decode cX12_timesH 99 = .ok (.iaload, 1) := by decide +kernel
theorem dX12_timesH_100 : decode cX12_timesH 100 = .ok (.iconst 1, 1) := by decide +kernel
theorem dX12_timesH_101 : decode cX12_timesH 101 = .ok (.ishr, 1) := by decide +kernel
theorem dX12_timesH_102 : decode cX12_timesH 102 = .ok (.iload_n 3, 1) := by decide +kernel
theorem dX12_timesH_103 : decode cX12_timesH 103 = .ok (.ifCond .le 19, 3) := by decide +kernel
theorem dX12_timesH_106 : decode cX12_timesH 106 = .ok (.aload_n 0, 1) := by decide +kernel
theorem dX12_timesH_107 : decode cX12_timesH 107 = .ok (.getfield 68, 3) := by decide +kernel
theorem dX12_timesH_110 : decode cX12_timesH 110 = .ok (.iload_n 3, 1) := by decide +kernel
theorem dX12_timesH_111 : decode cX12_timesH 111 = .ok (.iconst 1, 1) := by decide +kernel
theorem dX12_timesH_112 : decode cX12_timesH 112 = .ok (.isub, 1) := by decide +kernel
theorem dX12_timesH_113 : decode cX12_timesH 113 = .ok (.iaload, 1) := by decide +kernel
theorem dX12_timesH_114 : decode cX12_timesH 114 = .ok (.iconst 1, 1) := by decide +kernel
theorem dX12_timesH_115 : decode cX12_timesH 115 = .ok (.iand, 1) := by decide +kernel
theorem dX12_timesH_116 : decode cX12_timesH 116 = .ok (.bipush 7, 2) := by decide +kernel
theorem dX12_timesH_118 : decode cX12_timesH 118 = .ok (.ishl, 1) := by decide +kernel
theorem dX12_timesH_119 : decode cX12_timesH 119 = .ok (.goto 4, 3) := by decide +kernel
theorem dX12_timesH_122 : decode cX12_timesH 122 = .ok (.iconst 0, 1) := by decide +kernel
theorem dX12_timesH_123 : decode cX12_timesH 123 = .ok (.ior, 1) := by decide +kernel
theorem dX12_timesH_124 : decode cX12_timesH 124 = .ok (.iastore, 1) := by decide +kernel
theorem dX12_timesH_125 : decode cX12_timesH 125 = .ok (.iinc 3 (-1), 3) := by decide +kernel
theorem dX12_timesH_128 : decode cX12_timesH 128 = .ok (.goto (-43), 3) := by decide +kernel
theorem dX12_timesH_131 : decode cX12_timesH 131 = .ok (.aload_n 0, 1) := by decide +kernel
theorem dX12_timesH_132 : decode cX12_timesH 132 = .ok (.getfield 68, 3) := by decide +kernel
theorem dX12_timesH_135 : decode cX12_timesH 135 = .ok (.iconst 0, 1) := by decide +kernel
theorem dX12_timesH_136 : decode cX12_timesH 136 = .ok (.dup2, 1) := by decide +kernel
theorem dX12_timesH_137 : decode cX12_timesH 137 = .ok (.iaload, 1) := by decide +kernel
theorem dX12_timesH_138 : decode cX12_timesH 138 = .ok (.iload_n 2, 1) := by decide +kernel
theorem dX12_timesH_139 : decode cX12_timesH 139 = .ok (.sipush 225, 3) := by decide +kernel
theorem dX12_timesH_142 : decode cX12_timesH 142 = .ok (.imul, 1) := by decide +kernel
theorem dX12_timesH_143 : decode cX12_timesH 143 = .ok (.ixor, 1) := by decide +kernel
theorem dX12_timesH_144 : decode cX12_timesH 144 = .ok (.iastore, 1) := by decide +kernel
theorem dX12_timesH_145 : decode cX12_timesH 145 = .ok (.iinc 1 1, 3) := by decide +kernel
theorem dX12_timesH_148 : decode cX12_timesH 148 = .ok (.goto (-121), 3) := by decide +kernel
theorem dX12_timesH_151 : decode cX12_timesH 151 = .ok (.aload_n 0, 1) := by decide +kernel
theorem dX12_timesH_152 : decode cX12_timesH 152 = .ok (.getfield 71, 3) := by decide +kernel
theorem dX12_timesH_155 : decode cX12_timesH 155 = .ok (.iconst 0, 1) := by decide +kernel
theorem dX12_timesH_156 : decode cX12_timesH 156 = .ok (.aload_n 0, 1) := by decide +kernel
theorem dX12_timesH_157 : decode cX12_timesH 157 = .ok (.getfield 65, 3) := by decide +kernel
theorem dX12_timesH_160 : decode cX12_timesH 160 = .ok (.iconst 0, 1) := by decide +kernel
theorem dX12_timesH_161 : decode cX12_timesH 161 = .ok (.bipush 16, 2) := by decide +kernel
theorem dX12_timesH_163 : decode cX12_timesH 163 = .ok (.invokestatic 133, 3) := by decide +kernel
theorem dX12_timesH_166 : decode cX12_timesH 166 = .ok (.return_, 1) := by decide +kernel
theorem dX12_sumRow_0 : decode cX12_sumRow 0 = .ok (.iconst 0, 1) := by decide +kernel
theorem dX12_sumRow_1 : decode cX12_sumRow 1 = .ok (.istore 4, 2) := by decide +kernel
theorem dX12_sumRow_3 : decode cX12_sumRow 3 = .ok (.iload 4, 2) := by decide +kernel
theorem dX12_sumRow_5 : decode cX12_sumRow 5 = .ok (.iload_n 3, 1) := by decide +kernel
theorem dX12_sumRow_6 : decode cX12_sumRow 6 = .ok (.if_icmp .ge 50, 3) := by decide +kernel
theorem dX12_sumRow_9 : decode cX12_sumRow 9 = .ok (.aload_n 0, 1) := by decide +kernel
theorem dX12_sumRow_10 : decode cX12_sumRow 10 = .ok (.getfield 65, 3) := by decide +kernel
theorem dX12_sumRow_13 : decode cX12_sumRow 13 = .ok (.iload 4, 2) := by decide +kernel
theorem dX12_sumRow_15 : decode cX12_sumRow 15 = .ok (.bipush 16, 2) := by decide +kernel
theorem dX12_sumRow_17 : decode cX12_sumRow 17 = .ok (.irem, 1) := by decide +kernel
theorem dX12_sumRow_18 : decode cX12_sumRow 18 = .ok (.dup2, 1) := by decide +kernel
theorem dX12_sumRow_19 : decode cX12_sumRow 19 = .ok (.iaload, 1) := by decide +kernel
theorem dX12_sumRow_20 : decode cX12_sumRow 20 = .ok (.aload_n 1, 1) := by decide +kernel
theorem dX12_sumRow_21 : decode cX12_sumRow 21 = .ok (.iload_n 2, 1) := by decide +kernel
theorem dX12_sumRow_22 : decode cX12_sumRow 22 = .ok (.iload 4, 2) := by decide +kernel
theorem dX12_sumRow_24 : decode cX12_sumRow 24 = .ok (.iadd, 1) := by decide +kernel
theorem dX12_sumRow_25 : decode cX12_sumRow 25 = .ok (.iaload, 1) := by decide +kernel
theorem dX12_sumRow_26 : decode cX12_sumRow 26 = .ok (.ixor, 1) := by decide +kernel
theorem dX12_sumRow_27 : decode cX12_sumRow 27 = .ok (.iastore, 1) := by decide +kernel
theorem dX12_sumRow_28 : decode cX12_sumRow 28 = .ok (.iload 4, 2) := by decide +kernel
theorem dX12_sumRow_30 : decode cX12_sumRow 30 = .ok (.bipush 16, 2) := by decide +kernel
theorem dX12_sumRow_32 : decode cX12_sumRow 32 = .ok (.irem, 1) := by decide +kernel
theorem dX12_sumRow_33 : decode cX12_sumRow 33 = .ok (.bipush 15, 2) := by decide +kernel
theorem dX12_sumRow_35 : decode cX12_sumRow 35 = .ok (.if_icmp .eq 11, 3) := by decide +kernel
theorem dX12_sumRow_38 : decode cX12_sumRow 38 = .ok (.iload 4, 2) := by decide +kernel
theorem dX12_sumRow_40 : decode cX12_sumRow 40 = .ok (.iload_n 3, 1) := by decide +kernel
theorem dX12_sumRow_41 : decode cX12_sumRow 41 = .ok (.iconst 1, 1) := by decide +kernel
theorem dX12_sumRow_42 : decode cX12_sumRow 42 = .ok (.isub, 1) := by decide +kernel
theorem dX12_sumRow_43 : decode cX12_sumRow 43 = .ok (.if_icmp .ne 7, 3) := by decide +kernel
theorem dX12_sumRow_46 : decode cX12_sumRow 46 = .ok (.aload_n 0, 1) := by decide +kernel
theorem dX12_sumRow_47 : decode cX12_sumRow 47 = .ok (.invokevirtual 189, 3) := by decide +kernel
theorem dX12_sumRow_50 : decode cX12_sumRow 50 = .ok (.iinc 4 1, 3) := by decide +kernel
theorem dX12_sumRow_53 : decode cX12_sumRow 53 = .ok (.goto (-50), 3) := by decide +kernel
theorem dX12_sumRow_56 : decode cX12_sumRow 56 = .ok (.return_, 1) := by decide +kernel
theorem dX12_sumLengths_0 : decode cX12_sumLengths 0 = .ok (.iconst 0, 1) := by decide +kernel
theorem dX12_sumLengths_1 : decode cX12_sumLengths 1 = .ok (.istore_n 3, 1) := by decide +kernel
theorem dX12_sumLengths_2 : decode cX12_sumLengths 2 = .ok (.iload_n 3, 1) := by decide +kernel
theorem dX12_sumLengths_3 : decode cX12_sumLengths 3 = .ok (.iconst 4, 1) := by decide +kernel
theorem dX12_sumLengths_4 : decode cX12_sumLengths 4 = .ok (.if_icmp .ge 59, 3) := by decide +kernel
theorem dX12_sumLengths_7 : decode cX12_sumLengths 7 = .ok (.aload_n 0, 1) := by decide +kernel
theorem dX12_sumLengths_8 : decode cX12_sumLengths 8 = .ok (.getfield 65, 3) := by decide +kernel
theorem dX12_sumLengths_11 : decode cX12_sumLengths 11 = .ok (.bipush 7, 2) := by decide +kernel
theorem dX12_sumLengths_13 : decode cX12_sumLengths 13 = .ok (.iload_n 3, 1) := by decide +kernel
theorem dX12_sumLengths_14 : decode cX12_sumLengths 14 = .ok (.isub, 1) := by decide +kernel
theorem dX12_sumLengths_15 : decode cX12_sumLengths 15 = .ok (.dup2, 1) := by decide +kernel
theorem dX12_sumLengths_16 : decode cX12_sumLengths 16 = .ok (.iaload, 1) := by decide +kernel
theorem dX12_sumLengths_17 : decode cX12_sumLengths 17 = .ok (.bipush 8, 2) := by decide +kernel
theorem dX12_sumLengths_19 : decode cX12_sumLengths 19 = .ok (.iload_n 1, 1) := by decide +kernel
theorem dX12_sumLengths_20 : decode cX12_sumLengths 20 = .ok (.imul, 1) := by decide +kernel
theorem dX12_sumLengths_21 : decode cX12_sumLengths 21 = .ok (.bipush 8, 2) := by decide +kernel
theorem dX12_sumLengths_23 : decode cX12_sumLengths 23 = .ok (.iload_n 3, 1) := by decide +kernel
theorem dX12_sumLengths_24 : decode cX12_sumLengths 24 = .ok (.imul, 1) := by decide +kernel
theorem dX12_sumLengths_25 : decode cX12_sumLengths 25 = .ok (.ishr, 1) := by decide +kernel
theorem dX12_sumLengths_26 : decode cX12_sumLengths 26 = .ok (.sipush 255, 3) := by decide +kernel
theorem dX12_sumLengths_29 : decode cX12_sumLengths 29 = .ok (.iand, 1) := by decide +kernel
theorem dX12_sumLengths_30 : decode cX12_sumLengths 30 = .ok (.ixor, 1) := by decide +kernel
theorem dX12_sumLengths_31 : decode cX12_sumLengths 31 = .ok (.iastore, 1) := by decide +kernel
theorem dX12_sumLengths_32 : decode cX12_sumLengths 32 = .ok (.aload_n 0, 1) := by decide +kernel
theorem dX12_sumLengths_33 : decode cX12_sumLengths 33 = .ok (.getfield 65, 3) := by decide +kernel
theorem dX12_sumLengths_36 : decode cX12_sumLengths 36 = .ok (.bipush 15, 2) := by decide +kernel
theorem dX12_sumLengths_38 : decode cX12_sumLengths 38 = .ok (.iload_n 3, 1) := by decide +kernel
theorem dX12_sumLengths_39 : decode cX12_sumLengths 39 = .ok (.isub, 1) := by decide +kernel
theorem dX12_sumLengths_40 : decode cX12_sumLengths 40 = .ok (.dup2, 1) := by decide +kernel
theorem dX12_sumLengths_41 : decode cX12_sumLengths 41 = .ok (.iaload, 1) := by decide +kernel
theorem dX12_sumLengths_42 : decode cX12_sumLengths 42 = .ok (.bipush 8, 2) := by decide +kernel
theorem dX12_sumLengths_44 : decode cX12_sumLengths 44 = .ok (.iload_n 2, 1) := by decide +kernel
theorem dX12_sumLengths_45 : decode cX12_sumLengths 45 = .ok (.imul, 1) := by decide +kernel
theorem dX12_sumLengths_46 : decode cX12_sumLengths 46 = .ok (.bipush 8, 2) := by decide +kernel
theorem dX12_sumLengths_48 : decode cX12_sumLengths 48 = .ok (.iload_n 3, 1) := by decide +kernel
theorem dX12_sumLengths_49 : decode cX12_sumLengths 49 = .ok (.imul, 1) := by decide +kernel
theorem dX12_sumLengths_50 : decode cX12_sumLengths 50 = .ok (.ishr, 1) := by decide +kernel
theorem dX12_sumLengths_51 : decode cX12_sumLengths 51 = .ok (.sipush 255, 3) := by decide +kernel
theorem dX12_sumLengths_54 : decode cX12_sumLengths 54 = .ok (.iand, 1) := by decide +kernel
theorem dX12_sumLengths_55 : decode cX12_sumLengths 55 = .ok (.ixor, 1) := by decide +kernel
theorem dX12_sumLengths_56 : decode cX12_sumLengths 56 = .ok (.iastore, 1) := by decide +kernel
theorem dX12_sumLengths_57 : decode cX12_sumLengths 57 = .ok (.iinc 3 1, 3) := by decide +kernel
theorem dX12_sumLengths_60 : decode cX12_sumLengths 60 = .ok (.goto (-58), 3) := by decide +kernel
theorem dX12_sumLengths_63 : decode cX12_sumLengths 63 = .ok (.aload_n 0, 1) := by decide +kernel
theorem dX12_sumLengths_64 : decode cX12_sumLengths 64 = .ok (.invokevirtual 189, 3) := by decide +kernel
theorem dX12_sumLengths_67 : decode cX12_sumLengths 67 = .ok (.return_, 1) := by decide +kernel
theorem dX12_macOf_0 : decode cX12_macOf 0 = .ok (.aload_n 0, 1) := by decide +kernel
theorem dX12_macOf_1 : decode cX12_macOf 1 = .ok (.getfield 77, 3) := by decide +kernel
theorem dX12_macOf_4 : decode cX12_macOf 4 = .ok (.iconst 0, 1) := by decide +kernel
theorem dX12_macOf_5 : decode cX12_macOf 5 = .ok (.bipush 16, 2) := by decide +kernel
theorem dX12_macOf_7 : decode cX12_macOf 7 = .ok (.invokestatic 164, 3) := by decide +kernel
theorem dX12_macOf_10 : decode cX12_macOf 10 = .ok (.aload_n 0, 1) := by decide +kernel
theorem dX12_macOf_11 : decode cX12_macOf 11 = .ok (.iload_n 1, 1) := by decide +kernel
theorem dX12_macOf_12 : decode cX12_macOf 12 = .ok (.aload_n 0, 1) := by decide +kernel
theorem dX12_macOf_13 : decode cX12_macOf 13 = .ok (.getfield 77, 3) := by decide +kernel
theorem dX12_macOf_16 : decode cX12_macOf 16 = .ok (.iconst 0, 1) := by decide +kernel
theorem dX12_macOf_17 : decode cX12_macOf 17 = .ok (.invokevirtual 146, 3) := by decide +kernel
theorem dX12_macOf_20 : decode cX12_macOf 20 = .ok (.aload_n 0, 1) := by decide +kernel
theorem dX12_macOf_21 : decode cX12_macOf 21 = .ok (.getfield 77, 3) := by decide +kernel
theorem dX12_macOf_24 : decode cX12_macOf 24 = .ok (.invokestatic 192, 3) := by decide +kernel
theorem dX12_macOf_27 : decode cX12_macOf 27 = .ok (.aload_n 0, 1) := by decide +kernel
theorem dX12_macOf_28 : decode cX12_macOf 28 = .ok (.getfield 74, 3) := by decide +kernel
theorem dX12_macOf_31 : decode cX12_macOf 31 = .ok (.iconst 0, 1) := by decide +kernel
theorem dX12_macOf_32 : decode cX12_macOf 32 = .ok (.bipush 16, 2) := by decide +kernel
theorem dX12_macOf_34 : decode cX12_macOf 34 = .ok (.invokestatic 164, 3) := by decide +kernel
theorem dX12_macOf_37 : decode cX12_macOf 37 = .ok (.aload_n 0, 1) := by decide +kernel
theorem dX12_macOf_38 : decode cX12_macOf 38 = .ok (.getfield 195, 3) := by decide +kernel
theorem dX12_macOf_41 : decode cX12_macOf 41 = .ok (.ifCond .ne 7, 3) := by decide +kernel
theorem dX12_macOf_44 : decode cX12_macOf 44 = .ok (.iconst 0, 1) := by decide +kernel
theorem dX12_macOf_45 : decode cX12_macOf 45 = .ok (.goto 12, 3) := by decide +kernel
theorem dX12_macOf_48 : decode cX12_macOf 48 = .ok (.aload_n 0, 1) := by decide +kernel
theorem dX12_macOf_49 : decode cX12_macOf 49 = .ok (.getfield 195, 3) := by decide +kernel
theorem dX12_macOf_52 : decode cX12_macOf 52 = .ok (.iconst 1, 1) := by decide +kernel
theorem dX12_macOf_53 : decode cX12_macOf 53 = .ok (.isub, 1) := by decide +kernel
theorem dX12_macOf_54 : decode cX12_macOf 54 = .ok (.bipush 16, 2) := by decide +kernel
theorem dX12_macOf_56 : decode cX12_macOf 56 = .ok (.idiv, 1) := by decide +kernel
theorem dX12_macOf_57 : decode cX12_macOf 57 = .ok (.istore_n 2, 1) := by decide +kernel
theorem dX12_macOf_58 : decode cX12_macOf 58 = .ok (.iconst 0, 1) := by decide +kernel
theorem dX12_macOf_59 : decode cX12_macOf 59 = .ok (.istore_n 3, 1) := by decide +kernel
theorem dX12_macOf_60 : decode cX12_macOf 60 = .ok (.iload_n 3, 1) := by decide +kernel
theorem dX12_macOf_61 : decode cX12_macOf 61 = .ok (.iload_n 2, 1) := by decide +kernel
theorem dX12_macOf_62 : decode cX12_macOf 62 = .ok (.if_icmp .ge 37, 3) := by decide +kernel
theorem dX12_macOf_65 : decode cX12_macOf 65 = .ok (.aload_n 0, 1) := by decide +kernel
theorem dX12_macOf_66 : decode cX12_macOf 66 = .ok (.getfield 80, 3) := by decide +kernel
theorem dX12_macOf_69 : decode cX12_macOf 69 = .ok (.bipush 16, 2) := by decide +kernel
theorem dX12_macOf_71 : decode cX12_macOf 71 = .ok (.iload_n 3, 1) := by decide +kernel
theorem dX12_macOf_72 : decode cX12_macOf 72 = .ok (.imul, 1) := by decide +kernel
theorem dX12_macOf_73 : decode cX12_macOf 73 = .ok (.aload_n 0, 1) := by decide +kernel
theorem dX12_macOf_74 : decode cX12_macOf 74 = .ok (.getfield 74, 3) := by decide +kernel
theorem dX12_macOf_77 : decode cX12_macOf 77 = .ok (.iconst 0, 1) := by decide +kernel
theorem dX12_macOf_78 : decode cX12_macOf 78 = .ok (.bipush 16, 2) := by decide +kernel
theorem dX12_macOf_80 : decode cX12_macOf 80 = .ok (.invokestatic 143, 3) := by decide +kernel
theorem dX12_macOf_83 : decode cX12_macOf 83 = .ok (.aload_n 0, 1) := by decide +kernel
theorem dX12_macOf_84 : decode cX12_macOf 84 = .ok (.iload_n 1, 1) := by decide +kernel
theorem dX12_macOf_85 : decode cX12_macOf 85 = .ok (.aload_n 0, 1) := by decide +kernel
theorem dX12_macOf_86 : decode cX12_macOf 86 = .ok (.getfield 74, 3) := by decide +kernel
theorem dX12_macOf_89 : decode cX12_macOf 89 = .ok (.iconst 0, 1) := by decide +kernel
theorem dX12_macOf_90 : decode cX12_macOf 90 = .ok (.invokevirtual 146, 3) := by decide +kernel
theorem dX12_macOf_93 : decode cX12_macOf 93 = .ok (.iinc 3 1, 3) := by decide +kernel
theorem dX12_macOf_96 : decode cX12_macOf 96 = .ok (.goto (-36), 3) := by decide +kernel
theorem dX12_macOf_99 : decode cX12_macOf 99 = .ok (.aload_n 0, 1) := by decide +kernel
theorem dX12_macOf_100 : decode cX12_macOf 100 = .ok (.getfield 195, 3) := by decide +kernel
theorem dX12_macOf_103 : decode cX12_macOf 103 = .ok (.bipush 16, 2) := by decide +kernel
theorem dX12_macOf_105 : decode cX12_macOf 105 = .ok (.iload_n 2, 1) := by decide +kernel
theorem dX12_macOf_106 : decode cX12_macOf 106 = .ok (.imul, 1) := by decide +kernel
theorem dX12_macOf_107 : decode cX12_macOf 107 = .ok (.isub, 1) := by decide +kernel
theorem dX12_macOf_108 : decode cX12_macOf 108 = .ok (.istore_n 3, 1) := by decide +kernel
theorem dX12_macOf_109 : decode cX12_macOf 109 = .ok (.aload_n 0, 1) := by decide +kernel
theorem dX12_macOf_110 : decode cX12_macOf 110 = .ok (.getfield 80, 3) := by decide +kernel
theorem dX12_macOf_113 : decode cX12_macOf 113 = .ok (.bipush 16, 2) := by decide +kernel
theorem dX12_macOf_115 : decode cX12_macOf 115 = .ok (.iload_n 2, 1) := by decide +kernel
theorem dX12_macOf_116 : decode cX12_macOf 116 = .ok (.imul, 1) := by decide +kernel
theorem dX12_macOf_117 : decode cX12_macOf 117 = .ok (.aload_n 0, 1) := by decide +kernel
theorem dX12_macOf_118 : decode cX12_macOf 118 = .ok (.getfield 74, 3) := by decide +kernel
theorem dX12_macOf_121 : decode cX12_macOf 121 = .ok (.iconst 0, 1) := by decide +kernel
theorem dX12_macOf_122 : decode cX12_macOf 122 = .ok (.iload_n 3, 1) := by decide +kernel
theorem dX12_macOf_123 : decode cX12_macOf 123 = .ok (.invokestatic 143, 3) := by decide +kernel
theorem dX12_macOf_126 : decode cX12_macOf 126 = .ok (.iload_n 3, 1) := by decide +kernel
theorem dX12_macOf_127 : decode cX12_macOf 127 = .ok (.bipush 16, 2) := by decide +kernel
theorem dX12_macOf_129 : decode cX12_macOf 129 = .ok (.if_icmp .ge 22, 3) := by decide +kernel
theorem dX12_macOf_132 : decode cX12_macOf 132 = .ok (.aload_n 0, 1) := by decide +kernel
theorem dX12_macOf_133 : decode cX12_macOf 133 = .ok (.getfield 74, 3) := by decide +kernel
theorem dX12_macOf_136 : decode cX12_macOf 136 = .ok (.iload_n 3, 1) := by decide +kernel
theorem dX12_macOf_137 : decode cX12_macOf 137 = .ok (.dup2, 1) := by decide +kernel
theorem dX12_macOf_138 : decode cX12_macOf 138 = .ok (.iaload, 1) := by decide +kernel
theorem dX12_macOf_139 : decode cX12_macOf 139 = .ok (.sipush 128, 3) := by decide +kernel
theorem dX12_macOf_142 : decode cX12_macOf 142 = .ok (.ixor, 1) := by decide +kernel
theorem dX12_macOf_143 : decode cX12_macOf 143 = .ok (.iastore, 1) := by decide +kernel
theorem dX12_macOf_144 : decode cX12_macOf 144 = .ok (.aload_n 0, 1) := by decide +kernel
theorem dX12_macOf_145 : decode cX12_macOf 145 = .ok (.getfield 77, 3) := by decide +kernel
theorem dX12_macOf_148 : decode cX12_macOf 148 = .ok (.invokestatic 192, 3) := by decide +kernel
theorem dX12_macOf_151 : decode cX12_macOf 151 = .ok (.aload_n 0, 1) := by decide +kernel
theorem dX12_macOf_152 : decode cX12_macOf 152 = .ok (.getfield 77, 3) := by decide +kernel
theorem dX12_macOf_155 : decode cX12_macOf 155 = .ok (.iconst 0, 1) := by decide +kernel
theorem dX12_macOf_156 : decode cX12_macOf 156 = .ok (.aload_n 0, 1) := by decide +kernel
theorem dX12_macOf_157 : decode cX12_macOf 157 = .ok (.getfield 74, 3) := by decide +kernel
theorem dX12_macOf_160 : decode cX12_macOf 160 = .ok (.iconst 0, 1) := by decide +kernel
theorem dX12_macOf_161 : decode cX12_macOf 161 = .ok (.bipush 16, 2) := by decide +kernel
theorem dX12_macOf_163 : decode cX12_macOf 163 = .ok (.invokestatic 143, 3) := by decide +kernel
theorem dX12_macOf_166 : decode cX12_macOf 166 = .ok (.aload_n 0, 1) := by decide +kernel
theorem dX12_macOf_167 : decode cX12_macOf 167 = .ok (.iload_n 1, 1) := by decide +kernel
theorem dX12_macOf_168 : decode cX12_macOf 168 = .ok (.aload_n 0, 1) := by decide +kernel
theorem dX12_macOf_169 : decode cX12_macOf 169 = .ok (.getfield 74, 3) := by decide +kernel
theorem dX12_macOf_172 : decode cX12_macOf 172 = .ok (.iconst 0, 1) := by decide +kernel
theorem dX12_macOf_173 : decode cX12_macOf 173 = .ok (.invokevirtual 146, 3) := by decide +kernel
theorem dX12_macOf_176 : decode cX12_macOf 176 = .ok (.return_, 1) := by decide +kernel
theorem dX12_galois_0 : decode cX12_galois 0 = .ok (.aload_n 0, 1) := by decide +kernel
theorem dX12_galois_1 : decode cX12_galois 1 = .ok (.getfield 62, 3) := by decide +kernel
theorem dX12_galois_4 : decode cX12_galois 4 = .ok (.iconst 0, 1) := by decide +kernel
theorem dX12_galois_5 : decode cX12_galois 5 = .ok (.bipush 16, 2) := by decide +kernel
theorem dX12_galois_7 : decode cX12_galois 7 = .ok (.invokestatic 164, 3) := by decide +kernel
theorem dX12_galois_10 : decode cX12_galois 10 = .ok (.aload_n 0, 1) := by decide +kernel
theorem dX12_galois_11 : decode cX12_galois 11 = .ok (.iconst 0, 1) := by decide +kernel
theorem dX12_galois_12 : decode cX12_galois 12 = .ok (.aload_n 0, 1) := by decide +kernel
theorem dX12_galois_13 : decode cX12_galois 13 = .ok (.getfield 62, 3) := by decide +kernel
theorem dX12_galois_16 : decode cX12_galois 16 = .ok (.iconst 0, 1) := by decide +kernel
theorem dX12_galois_17 : decode cX12_galois 17 = .ok (.invokevirtual 146, 3) := by decide +kernel
theorem dX12_galois_20 : decode cX12_galois 20 = .ok (.aload_n 0, 1) := by decide +kernel
theorem dX12_galois_21 : decode cX12_galois 21 = .ok (.getfield 65, 3) := by decide +kernel
theorem dX12_galois_24 : decode cX12_galois 24 = .ok (.iconst 0, 1) := by decide +kernel
theorem dX12_galois_25 : decode cX12_galois 25 = .ok (.bipush 16, 2) := by decide +kernel
theorem dX12_galois_27 : decode cX12_galois 27 = .ok (.invokestatic 164, 3) := by decide +kernel
theorem dX12_galois_30 : decode cX12_galois 30 = .ok (.aload_n 0, 1) := by decide +kernel
theorem dX12_galois_31 : decode cX12_galois 31 = .ok (.getfield 137, 3) := by decide +kernel
theorem dX12_galois_34 : decode cX12_galois 34 = .ok (.bipush 12, 2) := by decide +kernel
theorem dX12_galois_36 : decode cX12_galois 36 = .ok (.if_icmp .ne 29, 3) := by decide +kernel
theorem dX12_galois_39 : decode cX12_galois 39 = .ok (.aload_n 0, 1) := by decide +kernel
theorem dX12_galois_40 : decode cX12_galois 40 = .ok (.getfield 47, 3) := by decide +kernel
theorem dX12_galois_43 : decode cX12_galois 43 = .ok (.iconst 0, 1) := by decide +kernel
theorem dX12_galois_44 : decode cX12_galois 44 = .ok (.aload_n 0, 1) := by decide +kernel
theorem dX12_galois_45 : decode cX12_galois 45 = .ok (.getfield 65, 3) := by decide +kernel
theorem dX12_galois_48 : decode cX12_galois 48 = .ok (.iconst 0, 1) := by decide +kernel
theorem dX12_galois_49 : decode cX12_galois 49 = .ok (.bipush 12, 2) := by decide +kernel
theorem dX12_galois_51 : decode cX12_galois 51 = .ok (.invokestatic 133, 3) := by decide +kernel
theorem dX12_galois_54 : decode cX12_galois 54 = .ok (.aload_n 0, 1) := by decide +kernel
theorem dX12_galois_55 : decode cX12_galois 55 = .ok (.getfield 65, 3) := by decide +kernel
theorem dX12_galois_58 : decode cX12_galois 58 = .ok (.bipush 15, 2) := by decide +kernel
theorem dX12_galois_60 : decode cX12_galois 60 = .ok (.iconst 1, 1) := by decide +kernel
theorem dX12_galois_61 : decode cX12_galois 61 = .ok (.iastore, 1) := by decide +kernel
theorem dX12_galois_62 : decode cX12_galois 62 = .ok (.goto 25, 3) := by decide +kernel
theorem dX12_galois_65 : decode cX12_galois 65 = .ok (.aload_n 0, 1) := by decide +kernel
theorem dX12_galois_66 : decode cX12_galois 66 = .ok (.aload_n 0, 1) := by decide +kernel
theorem dX12_galois_67 : decode cX12_galois 67 = .ok (.getfield 47, 3) := by decide +kernel
theorem dX12_galois_70 : decode cX12_galois 70 = .ok (.iconst 0, 1) := by decide +kernel
theorem dX12_galois_71 : decode cX12_galois 71 = .ok (.aload_n 0, 1) := by decide +kernel
theorem dX12_galois_72 : decode cX12_galois 72 = .ok (.getfield 137, 3) := by decide +kernel
theorem dX12_galois_75 : decode cX12_galois 75 = .ok (.invokevirtual 198, 3) := by decide +kernel
theorem dX12_galois_78 : decode cX12_galois 78 = .ok (.aload_n 0, 1) := by decide +kernel
theorem dX12_galois_79 : decode cX12_galois 79 = .ok (.iconst 0, 1) := by decide +kernel

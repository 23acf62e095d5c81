theorem dX11_init_0 : decode cX11_init 0 = .ok (.aload_n 0, 1) := by decide +kernel
theorem dX11_init_1 : decode cX11_init 1 = .ok (.invokespecial 3, 3) := by decide +kernel
theorem dX11_init_4 : decode cX11_init 4 = .ok (.aload_n 0, 1) := by decide +kernel
theorem dX11_init_5 : decode cX11_init 5 = .ok (.new 9, 3) := by decide +kernel
theorem dX11_init_8 : decode cX11_init 8 = .ok (.dup, 1) := by decide +kernel
theorem dX11_init_9 : decode cX11_init 9 = .ok (.bipush 64, 2) := by decide +kernel
theorem dX11_init_11 : decode cX11_init 11 = .ok (.invokespecial 11, 3) := by decide +kernel
theorem dX11_init_14 : decode cX11_init 14 = .ok (.putfield 14, 3) := by decide +kernel
theorem dX11_init_17 : decode cX11_init 17 = .ok (.aload_n 0, 1) := by decide +kernel
theorem dX11_init_18 : decode cX11_init 18 = .ok (.new 9, 3) := by decide +kernel
theorem dX11_init_21 : decode cX11_init 21 = .ok (.dup, 1) := by decide +kernel
theorem dX11_init_22 : decode cX11_init 22 = .ok (.sipush 512, 3) := by decide +kernel
theorem dX11_init_25 : decode cX11_init 25 = .ok (.invokespecial 11, 3) := by decide +kernel
theorem dX11_init_28 : decode cX11_init 28 = .ok (.putfield 18, 3) := by decide +kernel
theorem dX11_init_31 : decode cX11_init 31 = .ok (.aload_n 0, 1) := by decide +kernel
theorem dX11_init_32 : decode cX11_init 32 = .ok (.new 9, 3) := by decide +kernel
theorem dX11_init_35 : decode cX11_init 35 = .ok (.dup, 1) := by decide +kernel
theorem dX11_init_36 : decode cX11_init 36 = .ok (.bipush 64, 2) := by decide +kernel
theorem dX11_init_38 : decode cX11_init 38 = .ok (.invokespecial 11, 3) := by decide +kernel
theorem dX11_init_41 : decode cX11_init 41 = .ok (.putfield 21, 3) := by decide +kernel
theorem dX11_init_44 : decode cX11_init 44 = .ok (.aload_n 0, 1) := by decide +kernel
theorem dX11_init_45 : decode cX11_init 45 = .ok (.new 9, 3) := by decide +kernel
theorem dX11_init_48 : decode cX11_init 48 = .ok (.dup, 1) := by decide +kernel
theorem dX11_init_49 : decode cX11_init 49 = .ok (.sipush 256, 3) := by decide +kernel
theorem dX11_init_52 : decode cX11_init 52 = .ok (.invokespecial 11, 3) := by decide +kernel
theorem dX11_init_55 : decode cX11_init 55 = .ok (.putfield 24, 3) := by decide +kernel
theorem dX11_init_58 : decode cX11_init 58 = .ok (.aload_n 0, 1) := by decide +kernel
theorem dX11_init_59 : decode cX11_init 59 = .ok (.new 9, 3) := by decide +kernel
theorem dX11_init_62 : decode cX11_init 62 = .ok (.dup, 1) := by decide +kernel
theorem dX11_init_63 : decode cX11_init 63 = .ok (.sipush 512, 3) := by decide +kernel
theorem dX11_init_66 : decode cX11_init 66 = .ok (.invokespecial 11, 3) := by decide +kernel
theorem dX11_init_69 : decode cX11_init 69 = .ok (.putfield 27, 3) := by decide +kernel
theorem dX11_init_72 : decode cX11_init 72 = .ok (.aload_n 0, 1) := by decide +kernel
theorem dX11_init_73 : decode cX11_init 73 = .ok (.new 9, 3) := by decide +kernel
theorem dX11_init_76 : decode cX11_init 76 = .ok (.dup, 1) := by decide +kernel
theorem dX11_init_77 : decode cX11_init 77 = .ok (.sipush 528, 3) := by decide +kernel
theorem dX11_init_80 : decode cX11_init 80 = .ok (.invokespecial 11, 3) := by decide +kernel
theorem dX11_init_83 : decode cX11_init 83 = .ok (.putfield 30, 3) := by decide +kernel
theorem dX11_init_86 : decode cX11_init 86 = .ok (.aload_n 0, 1) := by decide +kernel
theorem dX11_init_87 : decode cX11_init 87 = .ok (.new 9, 3) := by decide +kernel
theorem dX11_init_90 : decode cX11_init 90 = .ok (.dup, 1) := by decide +kernel
theorem dX11_init_91 : decode cX11_init 91 = .ok (.sipush 528, 3) := by decide +kernel
theorem dX11_init_94 : decode cX11_init 94 = .ok (.invokespecial 11, 3) := by decide +kernel
theorem dX11_init_97 : decode cX11_init 97 = .ok (.putfield 33, 3) := by decide +kernel
theorem dX11_init_100 : decode cX11_init 100 = .ok (.aload_n 0, 1) := by decide +kernel
theorem dX11_init_101 : decode cX11_init 101 = .ok (.bipush 16, 2) := by decide +kernel
theorem dX11_init_103 : decode cX11_init 103 = .ok (.putfield 36, 3) := by decide +kernel
theorem dX11_init_106 : decode cX11_init 106 = .ok (.aload_n 0, 1) := by decide +kernel
theorem dX11_init_107 : decode cX11_init 107 = .ok (.new 40, 3) := by decide +kernel
theorem dX11_init_110 : decode cX11_init 110 = .ok (.dup, 1) := by decide +kernel
theorem dX11_init_111 : decode cX11_init 111 = .ok (.invokespecial 42, 3) := by decide +kernel
theorem dX11_init_114 : decode cX11_init 114 = .ok (.putfield 43, 3) := by decide +kernel
theorem dX11_init_117 : decode cX11_init 117 = .ok (.aload_n 0, 1) := by decide +kernel
theorem dX11_init_118 : decode cX11_init 118 = .ok (.new 40, 3) := by decide +kernel
theorem dX11_init_121 : decode cX11_init 121 = .ok (.dup, 1) := by decide +kernel
theorem dX11_init_122 : decode cX11_init 122 = .ok (.invokespecial 42, 3) := by decide +kernel
theorem dX11_init_125 : decode cX11_init 125 = .ok (.putfield 47, 3) := by decide +kernel
theorem dX11_init_128 : decode cX11_init 128 = .ok (.new 9, 3) := by decide +kernel
theorem dX11_init_131 : decode cX11_init 131 = .ok (.dup, 1) := by decide +kernel
theorem dX11_init_132 : decode cX11_init 132 = .ok (.sipush 800, 3) := by decide +kernel
theorem dX11_init_135 : decode cX11_init 135 = .ok (.invokespecial 11, 3) := by decide +kernel
theorem dX11_init_138 : decode cX11_init 138 = .ok (.astore_n 1, 1) := by decide +kernel
theorem dX11_init_139 : decode cX11_init 139 = .ok (.aload_n 0, 1) := by decide +kernel
theorem dX11_init_140 : decode cX11_init 140 = .ok (.new 50, 3) := by decide +kernel
theorem dX11_init_143 : decode cX11_init 143 = .ok (.dup, 1) := by decide +kernel
theorem dX11_init_144 : decode cX11_init 144 = .ok (.aload_n 0, 1) := by decide +kernel
theorem dX11_init_145 : decode cX11_init 145 = .ok (.getfield 43, 3) := by decide +kernel
theorem dX11_init_148 : decode cX11_init 148 = .ok (.aload_n 0, 1) := by decide +kernel
theorem dX11_init_149 : decode cX11_init 149 = .ok (.getfield 21, 3) := by decide +kernel
theorem dX11_init_152 : decode cX11_init 152 = .ok (.aload_n 1, 1) := by decide +kernel
theorem dX11_init_153 : decode cX11_init 153 = .ok (.invokespecial 52, 3) := by decide +kernel
theorem dX11_init_156 : decode cX11_init 156 = .ok (.putfield 55, 3) := by decide +kernel
theorem dX11_init_159 : decode cX11_init 159 = .ok (.aload_n 0, 1) := by decide +kernel
theorem dX11_init_160 : decode cX11_init 160 = .ok (.new 59, 3) := by decide +kernel
theorem dX11_init_163 : decode cX11_init 163 = .ok (.dup, 1) := by decide +kernel
theorem dX11_init_164 : decode cX11_init 164 = .ok (.aload_n 0, 1) := by decide +kernel
theorem dX11_init_165 : decode cX11_init 165 = .ok (.getfield 43, 3) := by decide +kernel
theorem dX11_init_168 : decode cX11_init 168 = .ok (.aload_n 0, 1) := by decide +kernel
theorem dX11_init_169 : decode cX11_init 169 = .ok (.getfield 21, 3) := by decide +kernel
theorem dX11_init_172 : decode cX11_init 172 = .ok (.invokespecial 61, 3) := by decide +kernel
theorem dX11_init_175 : decode cX11_init 175 = .ok (.putfield 64, 3) := by decide +kernel
theorem dX11_init_178 : decode cX11_init 178 = .ok (.aload_n 0, 1) := by decide +kernel
theorem dX11_init_179 : decode cX11_init 179 = .ok (.new 68, 3) := by decide +kernel
theorem dX11_init_182 : decode cX11_init 182 = .ok (.dup, 1) := by decide +kernel
theorem dX11_init_183 : decode cX11_init 183 = .ok (.aload_n 0, 1) := by decide +kernel
theorem dX11_init_184 : decode cX11_init 184 = .ok (.getfield 43, 3) := by decide +kernel
theorem dX11_init_187 : decode cX11_init 187 = .ok (.aload_n 0, 1) := by decide +kernel
theorem dX11_init_188 : decode cX11_init 188 = .ok (.getfield 47, 3) := by decide +kernel
theorem dX11_init_191 : decode cX11_init 191 = .ok (.aload_n 0, 1) := by decide +kernel
theorem dX11_init_192 : decode cX11_init 192 = .ok (.getfield 21, 3) := by decide +kernel
theorem dX11_init_195 : decode cX11_init 195 = .ok (.invokespecial 70, 3) := by decide +kernel
theorem dX11_init_198 : decode cX11_init 198 = .ok (.putfield 73, 3) := by decide +kernel
theorem dX11_init_201 : decode cX11_init 201 = .ok (.aload_n 0, 1) := by decide +kernel
theorem dX11_init_202 : decode cX11_init 202 = .ok (.new 77, 3) := by decide +kernel
theorem dX11_init_205 : decode cX11_init 205 = .ok (.dup, 1) := by decide +kernel
theorem dX11_init_206 : decode cX11_init 206 = .ok (.aload_n 0, 1) := by decide +kernel
theorem dX11_init_207 : decode cX11_init 207 = .ok (.getfield 43, 3) := by decide +kernel
theorem dX11_init_210 : decode cX11_init 210 = .ok (.invokespecial 79, 3) := by decide +kernel
theorem dX11_init_213 : decode cX11_init 213 = .ok (.putfield 82, 3) := by decide +kernel
theorem dX11_init_216 : decode cX11_init 216 = .ok (.aload_n 0, 1) := by decide +kernel
theorem dX11_init_217 : decode cX11_init 217 = .ok (.new 86, 3) := by decide +kernel
theorem dX11_init_220 : decode cX11_init 220 = .ok (.dup, 1) := by decide +kernel
theorem dX11_init_221 : decode cX11_init 221 = .ok (.aload_n 0, 1) := by decide +kernel
theorem dX11_init_222 : decode cX11_init 222 = .ok (.getfield 43, 3) := by decide +kernel
theorem dX11_init_225 : decode cX11_init 225 = .ok (.aload_n 0, 1) := by decide +kernel
theorem dX11_init_226 : decode cX11_init 226 = .ok (.getfield 21, 3) := by decide +kernel
theorem dX11_init_229 : decode cX11_init 229 = .ok (.aload_n 0, 1) := by decide +kernel
theorem dX11_init_230 : decode cX11_init 230 = .ok (.getfield 24, 3) := by decide +kernel
theorem dX11_init_233 : decode cX11_init 233 = .ok (.invokespecial 88, 3) := by decide +kernel
theorem dX11_init_236 : decode cX11_init 236 = .ok (.putfield 89, 3) := by decide +kernel
theorem dX11_init_239 : decode cX11_init 239 = .ok (.aload_n 0, 1) := by decide +kernel
theorem dX11_init_240 : decode cX11_init 240 = .ok (.new 93, 3) := by decide +kernel
theorem dX11_init_243 : decode cX11_init 243 = .ok (.dup, 1) := by decide +kernel
theorem dX11_init_244 : decode cX11_init 244 = .ok (.aload_n 0, 1) := by decide +kernel
theorem dX11_init_245 : decode cX11_init 245 = .ok (.getfield 43, 3) := by decide +kernel
theorem dX11_init_248 : decode cX11_init 248 = .ok (.aload_n 0, 1) := by decide +kernel
theorem dX11_init_249 : decode cX11_init 249 = .ok (.getfield 47, 3) := by decide +kernel
theorem dX11_init_252 : decode cX11_init 252 = .ok (.aload_n 0, 1) := by decide +kernel
theorem dX11_init_253 : decode cX11_init 253 = .ok (.getfield 64, 3) := by decide +kernel
theorem dX11_init_256 : decode cX11_init 256 = .ok (.aload_n 0, 1) := by decide +kernel
theorem dX11_init_257 : decode cX11_init 257 = .ok (.getfield 21, 3) := by decide +kernel
theorem dX11_init_260 : decode cX11_init 260 = .ok (.aload_n 0, 1) := by decide +kernel
theorem dX11_init_261 : decode cX11_init 261 = .ok (.getfield 24, 3) := by decide +kernel
theorem dX11_init_264 : decode cX11_init 264 = .ok (.aload_n 1, 1) := by decide +kernel
theorem dX11_init_265 : decode cX11_init 265 = .ok (.invokespecial 95, 3) := by decide +kernel
theorem dX11_init_268 : decode cX11_init 268 = .ok (.putfield 98, 3) := by decide +kernel
theorem dX11_init_271 : decode cX11_init 271 = .ok (.aload_n 0, 1) := by decide +kernel
theorem dX11_init_272 : decode cX11_init 272 = .ok (.new 102, 3) := by decide +kernel
theorem dX11_init_275 : decode cX11_init 275 = .ok (.dup, 1) := by decide +kernel
theorem dX11_init_276 : decode cX11_init 276 = .ok (.aload_n 0, 1) := by decide +kernel
theorem dX11_init_277 : decode cX11_init 277 = .ok (.getfield 43, 3) := by decide +kernel
theorem dX11_init_280 : decode cX11_init 280 = .ok (.aload_n 0, 1) := by decide +kernel
theorem dX11_init_281 : decode cX11_init 281 = .ok (.getfield 21, 3) := by decide +kernel
theorem dX11_init_284 : decode cX11_init 284 = .ok (.aload_n 0, 1) := by decide +kernel
theorem dX11_init_285 : decode cX11_init 285 = .ok (.getfield 24, 3) := by decide +kernel
theorem dX11_init_288 : decode cX11_init 288 = .ok (.invokespecial 104, 3) := by decide +kernel
theorem dX11_init_291 : decode cX11_init 291 = .ok (.putfield 105, 3) := by decide +kernel
theorem dX11_init_294 : decode cX11_init 294 = .ok (.aload_n 0, 1) := by decide +kernel
theorem dX11_init_295 : decode cX11_init 295 = .ok (.new 109, 3) := by decide +kernel
theorem dX11_init_298 : decode cX11_init 298 = .ok (.dup, 1) := by decide +kernel
theorem dX11_init_299 : decode cX11_init 299 = .ok (.invokespecial 111, 3) := by decide +kernel
theorem dX11_init_302 : decode cX11_init 302 = .ok (.putfield 112, 3) := by decide +kernel
theorem dX11_init_305 : decode cX11_init 305 = .ok (.aload_n 0, 1) := by decide +kernel
theorem dX11_init_306 : decode cX11_init 306 = .ok (.new 109, 3) := by decide +kernel
theorem dX11_init_309 : decode cX11_init 309 = .ok (.dup, 1) := by decide +kernel
theorem dX11_init_310 : decode cX11_init 310 = .ok (.invokespecial 111, 3) := by decide +kernel
theorem dX11_init_313 : decode cX11_init 313 = .ok (.putfield 116, 3) := by decide +kernel
theorem dX11_init_316 : decode cX11_init 316 = .ok (.return_, 1) := by decide +kernel
theorem dX11_feed_0 : decode cX11_feed 0 = .ok (.aload_n 0, 1) := by decide +kernel
theorem dX11_feed_1 : decode cX11_feed 1 = .ok (.iload_n 1, 1) := by decide +kernel
theorem dX11_feed_2 : decode cX11_feed 2 = .ok (.invokevirtual 119, 3) := by decide +kernel
theorem dX11_feed_5 : decode cX11_feed 5 = .ok (.astore 5, 2) := by decide +kernel
theorem dX11_feed_7 : decode cX11_feed 7 = .ok (.aload 5, 2) := by decide +kernel
theorem dX11_feed_9 : decode cX11_feed 9 = .ok (.ifnull 15, 3) := by decide +kernel
theorem dX11_feed_12 : decode cX11_feed 12 = .ok (.iload 4, 2) := by decide +kernel
theorem dX11_feed_14 : decode cX11_feed 14 = .ok (.ifCond .lt 10, 3) := by decide +kernel
theorem dX11_feed_17 : decode cX11_feed 17 = .ok (.iload 4, 2) := by decide +kernel
theorem dX11_feed_19 : decode cX11_feed 19 = .ok (.bipush 8, 2) := by decide +kernel
theorem dX11_feed_21 : decode cX11_feed 21 = .ok (.if_icmp .le 6, 3) := by decide +kernel
theorem dX11_feed_24 : decode cX11_feed 24 = .ok (.bipush (-2), 2) := by decide +kernel
theorem dX11_feed_26 : decode cX11_feed 26 = .ok (.ireturn, 1) := by decide +kernel
theorem dX11_feed_27 : decode cX11_feed 27 = .ok (.iload 4, 2) := by decide +kernel
theorem dX11_feed_29 : decode cX11_feed 29 = .ok (.ifCond .ne 11, 3) := by decide +kernel
theorem dX11_feed_32 : decode cX11_feed 32 = .ok (.aload 5, 2) := by decide +kernel
theorem dX11_feed_34 : decode cX11_feed 34 = .ok (.iconst 0, 1) := by decide +kernel
theorem dX11_feed_35 : decode cX11_feed 35 = .ok (.invokevirtual 123, 3) := by decide +kernel
theorem dX11_feed_38 : decode cX11_feed 38 = .ok (.iconst 0, 1) := by decide +kernel
theorem dX11_feed_39 : decode cX11_feed 39 = .ok (.ireturn, 1) := by decide +kernel
theorem dX11_feed_40 : decode cX11_feed 40 = .ok (.aload 5, 2) := by decide +kernel
theorem dX11_feed_42 : decode cX11_feed 42 = .ok (.iload 4, 2) := by decide +kernel
theorem dX11_feed_44 : decode cX11_feed 44 = .ok (.invokevirtual 126, 3) := by decide +kernel
theorem dX11_feed_47 : decode cX11_feed 47 = .ok (.ifCond .ne 6, 3) := by decide +kernel
theorem dX11_feed_50 : decode cX11_feed 50 = .ok (.bipush (-4), 2) := by decide +kernel
theorem dX11_feed_52 : decode cX11_feed 52 = .ok (.ireturn, 1) := by decide +kernel
theorem dX11_feed_53 : decode cX11_feed 53 = .ok (.iload 4, 2) := by decide +kernel
theorem dX11_feed_55 : decode cX11_feed 55 = .ok (.iconst 1, 1) := by decide +kernel
theorem dX11_feed_56 : decode cX11_feed 56 = .ok (.isub, 1) := by decide +kernel
theorem dX11_feed_57 : decode cX11_feed 57 = .ok (.istore 6, 2) := by decide +kernel
theorem dX11_feed_59 : decode cX11_feed 59 = .ok (.iload 6, 2) := by decide +kernel
theorem dX11_feed_61 : decode cX11_feed 61 = .ok (.ifCond .lt 22, 3) := by decide +kernel
theorem dX11_feed_64 : decode cX11_feed 64 = .ok (.aload 5, 2) := by decide +kernel
theorem dX11_feed_66 : decode cX11_feed 66 = .ok (.lload_n 2, 1) := by decide +kernel
theorem dX11_feed_67 : decode cX11_feed 67 = .ok (.bipush 8, 2) := by decide +kernel
theorem dX11_feed_69 : decode cX11_feed 69 = .ok (.iload 6, 2) := by decide +kernel
theorem dX11_feed_71 : decode cX11_feed 71 = .ok (.imul, 1) := by decide +kernel
theorem dX11_feed_72 : decode cX11_feed 72 = .ok (.lushr, 1) := by decide +kernel
theorem dX11_feed_73 : decode cX11_feed 73 = .ok (.l2i, 1) := by decide +kernel
theorem dX11_feed_74 : decode cX11_feed 74 = .ok (.invokevirtual 130, 3) := by decide +kernel
theorem dX11_feed_77 : decode cX11_feed 77 = .ok (.iinc 6 (-1), 3) := by decide +kernel
theorem dX11_feed_80 : decode cX11_feed 80 = .ok (.goto (-21), 3) := by decide +kernel
theorem dX11_feed_83 : decode cX11_feed 83 = .ok (.aload 5, 2) := by decide +kernel
theorem dX11_feed_85 : decode cX11_feed 85 = .ok (.getfield 133, 3) := by decide +kernel
theorem dX11_feed_88 : decode cX11_feed 88 = .ok (.ireturn, 1) := by decide +kernel
theorem dX11_fill_0 : decode cX11_fill 0 = .ok (.aload_n 0, 1) := by decide +kernel
theorem dX11_fill_1 : decode cX11_fill 1 = .ok (.iload_n 1, 1) := by decide +kernel
theorem dX11_fill_2 : decode cX11_fill 2 = .ok (.invokevirtual 119, 3) := by decide +kernel
theorem dX11_fill_5 : decode cX11_fill 5 = .ok (.astore 4, 2) := by decide +kernel
theorem dX11_fill_7 : decode cX11_fill 7 = .ok (.aload 4, 2) := by decide +kernel
theorem dX11_fill_9 : decode cX11_fill 9 = .ok (.ifnull 7, 3) := by decide +kernel
theorem dX11_fill_12 : decode cX11_fill 12 = .ok (.iload_n 2, 1) := by decide +kernel
theorem dX11_fill_13 : decode cX11_fill 13 = .ok (.ifCond .ge 6, 3) := by decide +kernel
theorem dX11_fill_16 : decode cX11_fill 16 = .ok (.bipush (-2), 2) := by decide +kernel
theorem dX11_fill_18 : decode cX11_fill 18 = .ok (.ireturn, 1) := by decide +kernel
theorem dX11_fill_19 : decode cX11_fill 19 = .ok (.aload 4, 2) := by decide +kernel
theorem dX11_fill_21 : decode cX11_fill 21 = .ok (.iload_n 2, 1) := by decide +kernel
theorem dX11_fill_22 : decode cX11_fill 22 = .ok (.invokevirtual 126, 3) := by decide +kernel
theorem dX11_fill_25 : decode cX11_fill 25 = .ok (.ifCond .ne 6, 3) := by decide +kernel
theorem dX11_fill_28 : decode cX11_fill 28 = .ok (.bipush (-4), 2) := by decide +kernel
theorem dX11_fill_30 : decode cX11_fill 30 = .ok (.ireturn, 1) := by decide +kernel
theorem dX11_fill_31 : decode cX11_fill 31 = .ok (.iload_n 3, 1) := by decide +kernel
theorem dX11_fill_32 : decode cX11_fill 32 = .ok (.istore 5, 2) := by decide +kernel
theorem dX11_fill_34 : decode cX11_fill 34 = .ok (.iconst 0, 1) := by decide +kernel
theorem dX11_fill_35 : decode cX11_fill 35 = .ok (.istore 6, 2) := by decide +kernel
theorem dX11_fill_37 : decode cX11_fill 37 = .ok (.iload 6, 2) := by decide +kernel
theorem dX11_fill_39 : decode cX11_fill 39 = .ok (.iload_n 2, 1) := by decide +kernel
theorem dX11_fill_40 : decode cX11_fill 40 = .ok (.if_icmp .ge 29, 3) := by decide +kernel
theorem dX11_fill_43 : decode cX11_fill 43 = .ok (.iload 5, 2) := by decide +kernel
theorem dX11_fill_45 : decode cX11_fill 45 = .ok (.ldc 136, 2) := by decide +kernel
theorem dX11_fill_47 : decode cX11_fill 47 = .ok (.imul, 1) := by decide +kernel
theorem dX11_fill_48 : decode cX11_fill 48 = .ok (.ldc 137, 2) := by decide +kernel
theorem dX11_fill_50 : decode cX11_fill 50 = .ok (.iadd, 1) := by decide +kernel
theorem dX11_fill_51 : decode cX11_fill 51 = .ok (.istore 5, 2) := by decide +kernel
theorem dX11_fill_53 : decode cX11_fill 53 = .ok (.aload 4, 2) := by decide +kernel
theorem dX11_fill_55 : decode cX11_fill 55 = .ok (.iload 5, 2) := by decide +kernel
theorem dX11_fill_57 : decode cX11_fill 57 = .ok (.bipush 24, 2) := by decide +kernel
theorem dX11_fill_59 : decode cX11_fill 59 = .ok (.iushr, 1) := by decide +kernel
theorem dX11_fill_60 : decode cX11_fill 60 = .ok (.invokevirtual 130, 3) := by decide +kernel
theorem dX11_fill_63 : decode cX11_fill 63 = .ok (.iinc 6 1, 3) := by decide +kernel
theorem dX11_fill_66 : decode cX11_fill 66 = .ok (.goto (-29), 3) := by decide +kernel
theorem dX11_fill_69 : decode cX11_fill 69 = .ok (.aload 4, 2) := by decide +kernel
theorem dX11_fill_71 : decode cX11_fill 71 = .ok (.getfield 133, 3) := by decide +kernel
theorem dX11_fill_74 : decode cX11_fill 74 = .ok (.ireturn, 1) := by decide +kernel
theorem dX11_alter_0 : decode cX11_alter 0 = .ok (.aload_n 0, 1) := by decide +kernel
theorem dX11_alter_1 : decode cX11_alter 1 = .ok (.iload_n 1, 1) := by decide +kernel
theorem dX11_alter_2 : decode cX11_alter 2 = .ok (.invokevirtual 119, 3) := by decide +kernel
theorem dX11_alter_5 : decode cX11_alter 5 = .ok (.astore 4, 2) := by decide +kernel
theorem dX11_alter_7 : decode cX11_alter 7 = .ok (.aload 4, 2) := by decide +kernel
theorem dX11_alter_9 : decode cX11_alter 9 = .ok (.ifnull 23, 3) := by decide +kernel
theorem dX11_alter_12 : decode cX11_alter 12 = .ok (.aload 4, 2) := by decide +kernel
theorem dX11_alter_14 : decode cX11_alter 14 = .ok (.iload_n 2, 1) := by decide +kernel
theorem dX11_alter_15 : decode cX11_alter 15 = .ok (.invokevirtual 138, 3) := by decide +kernel
theorem dX11_alter_18 : decode cX11_alter 18 = .ok (.ifCond .eq 14, 3) := by decide +kernel
theorem dX11_alter_21 : decode cX11_alter 21 = .ok (.iload_n 3, 1) := by decide +kernel
theorem dX11_alter_22 : decode cX11_alter 22 = .ok (.ifCond .lt 10, 3) := by decide +kernel
theorem dX11_alter_25 : decode cX11_alter 25 = .ok (.iload_n 3, 1) := by decide +kernel
theorem dX11_alter_26 : decode cX11_alter 26 = .ok (.sipush 255, 3) := by decide +kernel
theorem dX11_alter_29 : decode cX11_alter 29 = .ok (.if_icmp .le 6, 3) := by decide +kernel
theorem dX11_alter_32 : decode cX11_alter 32 = .ok (.bipush (-2), 2) := by decide +kernel
theorem dX11_alter_34 : decode cX11_alter 34 = .ok (.ireturn, 1) := by decide +kernel
theorem dX11_alter_35 : decode cX11_alter 35 = .ok (.aload 4, 2) := by decide +kernel
theorem dX11_alter_37 : decode cX11_alter 37 = .ok (.iload_n 2, 1) := by decide +kernel
theorem dX11_alter_38 : decode cX11_alter 38 = .ok (.invokevirtual 141, 3) := by decide +kernel
theorem dX11_alter_41 : decode cX11_alter 41 = .ok (.istore 5, 2) := by decide +kernel
theorem dX11_alter_43 : decode cX11_alter 43 = .ok (.aload 4, 2) := by decide +kernel
theorem dX11_alter_45 : decode cX11_alter 45 = .ok (.iload_n 2, 1) := by decide +kernel
theorem dX11_alter_46 : decode cX11_alter 46 = .ok (.iload_n 3, 1) := by decide +kernel
theorem dX11_alter_47 : decode cX11_alter 47 = .ok (.invokevirtual 145, 3) := by decide +kernel
theorem dX11_alter_50 : decode cX11_alter 50 = .ok (.iload 5, 2) := by decide +kernel
theorem dX11_alter_52 : decode cX11_alter 52 = .ok (.ireturn, 1) := by decide +kernel
theorem dX11_octet_0 : decode cX11_octet 0 = .ok (.aload_n 0, 1) := by decide +kernel
theorem dX11_octet_1 : decode cX11_octet 1 = .ok (.iload_n 1, 1) := by decide +kernel
theorem dX11_octet_2 : decode cX11_octet 2 = .ok (.invokevirtual 119, 3) := by decide +kernel
theorem dX11_octet_5 : decode cX11_octet 5 = .ok (.astore_n 3, 1) := by decide +kernel
theorem dX11_octet_6 : decode cX11_octet 6 = .ok (.aload_n 3, 1) := by decide +kernel
theorem dX11_octet_7 : decode cX11_octet 7 = .ok (.ifnull 11, 3) := by decide +kernel
theorem dX11_octet_10 : decode cX11_octet 10 = .ok (.aload_n 3, 1) := by decide +kernel
theorem dX11_octet_11 : decode cX11_octet 11 = .ok (.iload_n 2, 1) := by decide +kernel
theorem dX11_octet_12 : decode cX11_octet 12 = .ok (.invokevirtual 138, 3) := by decide +kernel
theorem dX11_octet_15 : decode cX11_octet 15 = .ok (.ifCond .ne 8, 3) := by decide +kernel
theorem dX11_octet_18 : decode cX11_octet 18 = .ok (.bipush (-2), 2) := by decide +kernel
theorem dX11_octet_20 : decode cX11_octet 20 = .ok (.goto 8, 3) := by decide +kernel
theorem dX11_octet_23 : decode cX11_octet 23 = .ok (.aload_n 3, 1) := by decide +kernel
theorem dX11_octet_24 : decode cX11_octet 24 = .ok (.iload_n 2, 1) := by decide +kernel
theorem dX11_octet_25 : decode cX11_octet 25 = .ok (.invokevirtual 141, 3) := by decide +kernel
theorem dX11_octet_28 : decode cX11_octet 28 = .ok (.ireturn, 1) := by decide +kernel
theorem dX11_cut_0 : decode cX11_cut 0 = .ok (.aload_n 0, 1) := by decide +kernel
theorem dX11_cut_1 : decode cX11_cut 1 = .ok (.iload_n 1, 1) := by decide +kernel
theorem dX11_cut_2 : decode cX11_cut 2 = .ok (.invokevirtual 119, 3) := by decide +kernel
theorem dX11_cut_5 : decode cX11_cut 5 = .ok (.astore_n 3, 1) := by decide +kernel
theorem dX11_cut_6 : decode cX11_cut 6 = .ok (.aload_n 3, 1) := by decide +kernel
theorem dX11_cut_7 : decode cX11_cut 7 = .ok (.ifnull 15, 3) := by decide +kernel
theorem dX11_cut_10 : decode cX11_cut 10 = .ok (.iload_n 2, 1) := by decide +kernel
theorem dX11_cut_11 : decode cX11_cut 11 = .ok (.ifCond .lt 11, 3) := by decide +kernel
theorem dX11_cut_14 : decode cX11_cut 14 = .ok (.iload_n 2, 1) := by decide +kernel
theorem dX11_cut_15 : decode cX11_cut 15 = .ok (.aload_n 3, 1) := by decide +kernel
theorem dX11_cut_16 : decode cX11_cut 16 = .ok (.getfield 133, 3) := by decide +kernel
theorem dX11_cut_19 : decode cX11_cut 19 = .ok (.if_icmp .le 6, 3) := by decide +kernel
theorem dX11_cut_22 : decode cX11_cut 22 = .ok (.bipush (-2), 2) := by decide +kernel
theorem dX11_cut_24 : decode cX11_cut 24 = .ok (.ireturn, 1) := by decide +kernel
theorem dX11_cut_25 : decode cX11_cut 25 = .ok (.aload_n 3, 1) := by decide +kernel
theorem dX11_cut_26 : decode cX11_cut 26 = .ok (.getfield 133, 3) := by decide +kernel
theorem dX11_cut_29 : decode cX11_cut 29 = .ok (.istore 4, 2) := by decide +kernel
theorem dX11_cut_31 : decode cX11_cut 31 = .ok (.aload_n 3, 1) := by decide +kernel
theorem dX11_cut_32 : decode cX11_cut 32 = .ok (.iload_n 2, 1) := by decide +kernel
theorem dX11_cut_33 : decode cX11_cut 33 = .ok (.invokevirtual 123, 3) := by decide +kernel
theorem dX11_cut_36 : decode cX11_cut 36 = .ok (.iload 4, 2) := by decide +kernel
theorem dX11_cut_38 : decode cX11_cut 38 = .ok (.ireturn, 1) := by decide +kernel
theorem dX11_tag_0 : decode cX11_tag 0 = .ok (.iload_n 1, 1) := by decide +kernel
theorem dX11_tag_1 : decode cX11_tag 1 = .ok (.iconst 4, 1) := by decide +kernel
theorem dX11_tag_2 : decode cX11_tag 2 = .ok (.if_icmp .lt 9, 3) := by decide +kernel
theorem dX11_tag_5 : decode cX11_tag 5 = .ok (.iload_n 1, 1) := by decide +kernel
theorem dX11_tag_6 : decode cX11_tag 6 = .ok (.bipush 16, 2) := by decide +kernel
theorem dX11_tag_8 : decode cX11_tag 8 = .ok (.if_icmp .le 6, 3) := by decide +kernel
theorem dX11_tag_11 : decode cX11_tag 11 = .ok (.bipush (-2), 2) := by decide +kernel
theorem dX11_tag_13 : decode cX11_tag 13 = .ok (.ireturn, 1) := by decide +kernel
theorem dX11_tag_14 : decode cX11_tag 14 = .ok (.aload_n 0, 1) := by decide +kernel
theorem dX11_tag_15 : decode cX11_tag 15 = .ok (.getfield 36, 3) := by decide +kernel
theorem dX11_tag_18 : decode cX11_tag 18 = .ok (.istore_n 2, 1) := by decide +kernel
theorem dX11_tag_19 : decode cX11_tag 19 = .ok (.aload_n 0, 1) := by decide +kernel
theorem dX11_tag_20 : decode cX11_tag 20 = .ok (.iload_n 1, 1) := by decide +kernel
theorem dX11_tag_21 : decode cX11_tag 21 = .ok (.putfield 36, 3) := by decide +kernel
theorem dX11_tag_24 : decode cX11_tag 24 = .ok (.iload_n 2, 1) := by decide +kernel
theorem dX11_tag_25 : decode cX11_tag 25 = .ok (.ireturn, 1) := by decide +kernel
theorem dX11_seal_0 : decode cX11_seal 0 = .ok (.aload_n 0, 1) := by decide +kernel
theorem dX11_seal_1 : decode cX11_seal 1 = .ok (.iload_n 1, 1) := by decide +kernel
theorem dX11_seal_2 : decode cX11_seal 2 = .ok (.iconst 0, 1) := by decide +kernel
theorem dX11_seal_3 : decode cX11_seal 3 = .ok (.invokevirtual 149, 3) := by decide +kernel
theorem dX11_seal_6 : decode cX11_seal 6 = .ok (.istore_n 2, 1) := by decide +kernel
theorem dX11_seal_7 : decode cX11_seal 7 = .ok (.iload_n 2, 1) := by decide +kernel
theorem dX11_seal_8 : decode cX11_seal 8 = .ok (.ifCond .ge 5, 3) := by decide +kernel
theorem dX11_seal_11 : decode cX11_seal 11 = .ok (.iload_n 2, 1) := by decide +kernel
theorem dX11_seal_12 : decode cX11_seal 12 = .ok (.ireturn, 1) := by decide +kernel
theorem dX11_seal_13 : decode cX11_seal 13 = .ok (.aload_n 0, 1) := by decide +kernel
theorem dX11_seal_14 : decode cX11_seal 14 = .ok (.iload_n 1, 1) := by decide +kernel
theorem dX11_seal_15 : decode cX11_seal 15 = .ok (.invokevirtual 153, 3) := by decide +kernel
theorem dX11_seal_18 : decode cX11_seal 18 = .ok (.aload_n 0, 1) := by decide +kernel
theorem dX11_seal_19 : decode cX11_seal 19 = .ok (.getfield 33, 3) := by decide +kernel
theorem dX11_seal_22 : decode cX11_seal 22 = .ok (.iconst 0, 1) := by decide +kernel
theorem dX11_seal_23 : decode cX11_seal 23 = .ok (.invokevirtual 123, 3) := by decide +kernel
theorem dX11_seal_26 : decode cX11_seal 26 = .ok (.iload_n 1, 1) := by decide +kernel
theorem dX11_seal_27 : decode cX11_seal 27 = .ok (.invokestatic 156, 3) := by decide +kernel
theorem dX11_seal_30 : decode cX11_seal 30 = .ok (.ifCond .eq 31, 3) := by decide +kernel
theorem dX11_seal_33 : decode cX11_seal 33 = .ok (.aload_n 0, 1) := by decide +kernel
theorem dX11_seal_34 : decode cX11_seal 34 = .ok (.iload_n 1, 1) := by decide +kernel
theorem dX11_seal_35 : decode cX11_seal 35 = .ok (.aload_n 0, 1) := by decide +kernel
theorem dX11_seal_36 : decode cX11_seal 36 = .ok (.getfield 18, 3) := by decide +kernel
theorem dX11_seal_39 : decode cX11_seal 39 = .ok (.iconst 0, 1) := by decide +kernel
theorem dX11_seal_40 : decode cX11_seal 40 = .ok (.invokevirtual 159, 3) := by decide +kernel
theorem dX11_seal_43 : decode cX11_seal 43 = .ok (.aload_n 0, 1) := by decide +kernel
theorem dX11_seal_44 : decode cX11_seal 44 = .ok (.getfield 33, 3) := by decide +kernel
theorem dX11_seal_47 : decode cX11_seal 47 = .ok (.aload_n 0, 1) := by decide +kernel
theorem dX11_seal_48 : decode cX11_seal 48 = .ok (.getfield 112, 3) := by decide +kernel
theorem dX11_seal_51 : decode cX11_seal 51 = .ok (.aload_n 0, 1) := by decide +kernel
theorem dX11_seal_52 : decode cX11_seal 52 = .ok (.getfield 36, 3) := by decide +kernel
theorem dX11_seal_55 : decode cX11_seal 55 = .ok (.invokevirtual 163, 3) := by decide +kernel
theorem dX11_seal_58 : decode cX11_seal 58 = .ok (.goto 32, 3) := by decide +kernel
theorem dX11_seal_61 : decode cX11_seal 61 = .ok (.iload_n 1, 1) := by decide +kernel
theorem dX11_seal_62 : decode cX11_seal 62 = .ok (.bipush 15, 2) := by decide +kernel
theorem dX11_seal_64 : decode cX11_seal 64 = .ok (.if_icmp .ne 21, 3) := by decide +kernel
theorem dX11_seal_67 : decode cX11_seal 67 = .ok (.aload_n 0, 1) := by decide +kernel
theorem dX11_seal_68 : decode cX11_seal 68 = .ok (.getfield 98, 3) := by decide +kernel
theorem dX11_seal_71 : decode cX11_seal 71 = .ok (.aload_n 0, 1) := by decide +kernel
theorem dX11_seal_72 : decode cX11_seal 72 = .ok (.getfield 18, 3) := by decide +kernel
theorem dX11_seal_75 : decode cX11_seal 75 = .ok (.aload_n 0, 1) := by decide +kernel
theorem dX11_seal_76 : decode cX11_seal 76 = .ok (.getfield 33, 3) := by decide +kernel
theorem dX11_seal_79 : decode cX11_seal 79 = .ok (.invokevirtual 167, 3) := by decide +kernel
theorem dX11_seal_82 : decode cX11_seal 82 = .ok (.goto 8, 3) := by decide +kernel
theorem dX11_seal_85 : decode cX11_seal 85 = .ok (.aload_n 0, 1) := by decide +kernel
theorem dX11_seal_86 : decode cX11_seal 86 = .ok (.iload_n 1, 1) := by decide +kernel
theorem dX11_seal_87 : decode cX11_seal 87 = .ok (.invokevirtual 171, 3) := by decide +kernel
theorem dX11_seal_90 : decode cX11_seal 90 = .ok (.aload_n 0, 1) := by decide +kernel
theorem dX11_seal_91 : decode cX11_seal 91 = .ok (.invokevirtual 174, 3) := by decide +kernel
theorem dX11_seal_94 : decode cX11_seal 94 = .ok (.ireturn, 1) := by decide +kernel
theorem dX11_open_0 : decode cX11_open 0 = .ok (.aload_n 0, 1) := by decide +kernel
theorem dX11_open_1 : decode cX11_open 1 = .ok (.iload_n 1, 1) := by decide +kernel
theorem dX11_open_2 : decode cX11_open 2 = .ok (.iconst 1, 1) := by decide +kernel
theorem dX11_open_3 : decode cX11_open 3 = .ok (.invokevirtual 149, 3) := by decide +kernel
theorem dX11_open_6 : decode cX11_open 6 = .ok (.istore_n 2, 1) := by decide +kernel
theorem dX11_open_7 : decode cX11_open 7 = .ok (.iload_n 2, 1) := by decide +kernel
theorem dX11_open_8 : decode cX11_open 8 = .ok (.ifCond .ge 5, 3) := by decide +kernel
theorem dX11_open_11 : decode cX11_open 11 = .ok (.iload_n 2, 1) := by decide +kernel
theorem dX11_open_12 : decode cX11_open 12 = .ok (.ireturn, 1) := by decide +kernel
theorem dX11_open_13 : decode cX11_open 13 = .ok (.aload_n 0, 1) := by decide +kernel
theorem dX11_open_14 : decode cX11_open 14 = .ok (.iload_n 1, 1) := by decide +kernel
theorem dX11_open_15 : decode cX11_open 15 = .ok (.invokevirtual 153, 3) := by decide +kernel
theorem dX11_open_18 : decode cX11_open 18 = .ok (.aload_n 0, 1) := by decide +kernel
theorem dX11_open_19 : decode cX11_open 19 = .ok (.getfield 33, 3) := by decide +kernel
theorem dX11_open_22 : decode cX11_open 22 = .ok (.iconst 0, 1) := by decide +kernel
theorem dX11_open_23 : decode cX11_open 23 = .ok (.invokevirtual 123, 3) := by decide +kernel
theorem dX11_open_26 : decode cX11_open 26 = .ok (.iload_n 1, 1) := by decide +kernel
theorem dX11_open_27 : decode cX11_open 27 = .ok (.invokestatic 156, 3) := by decide +kernel
theorem dX11_open_30 : decode cX11_open 30 = .ok (.ifCond .eq 80, 3) := by decide +kernel
theorem dX11_open_33 : decode cX11_open 33 = .ok (.aload_n 0, 1) := by decide +kernel
theorem dX11_open_34 : decode cX11_open 34 = .ok (.getfield 18, 3) := by decide +kernel
theorem dX11_open_37 : decode cX11_open 37 = .ok (.getfield 133, 3) := by decide +kernel
theorem dX11_open_40 : decode cX11_open 40 = .ok (.aload_n 0, 1) := by decide +kernel
theorem dX11_open_41 : decode cX11_open 41 = .ok (.getfield 36, 3) := by decide +kernel
theorem dX11_open_44 : decode cX11_open 44 = .ok (.isub, 1) := by decide +kernel
theorem dX11_open_45 : decode cX11_open 45 = .ok (.istore 4, 2) := by decide +kernel
theorem dX11_open_47 : decode cX11_open 47 = .ok (.aload_n 0, 1) := by decide +kernel
theorem dX11_open_48 : decode cX11_open 48 = .ok (.getfield 27, 3) := by decide +kernel
theorem dX11_open_51 : decode cX11_open 51 = .ok (.aload_n 0, 1) := by decide +kernel
theorem dX11_open_52 : decode cX11_open 52 = .ok (.getfield 18, 3) := by decide +kernel
theorem dX11_open_55 : decode cX11_open 55 = .ok (.iconst 0, 1) := by decide +kernel
theorem dX11_open_56 : decode cX11_open 56 = .ok (.iload 4, 2) := by decide +kernel
theorem dX11_open_58 : decode cX11_open 58 = .ok (.invokevirtual 178, 3) := by decide +kernel
theorem dX11_open_61 : decode cX11_open 61 = .ok (.aload_n 0, 1) := by decide +kernel
theorem dX11_open_62 : decode cX11_open 62 = .ok (.getfield 116, 3) := by decide +kernel
theorem dX11_open_65 : decode cX11_open 65 = .ok (.aload_n 0, 1) := by decide +kernel
theorem dX11_open_66 : decode cX11_open 66 = .ok (.getfield 18, 3) := by decide +kernel
theorem dX11_open_69 : decode cX11_open 69 = .ok (.iload 4, 2) := by decide +kernel
theorem dX11_open_71 : decode cX11_open 71 = .ok (.invokevirtual 182, 3) := by decide +kernel
theorem dX11_open_74 : decode cX11_open 74 = .ok (.aload_n 0, 1) := by decide +kernel
theorem dX11_open_75 : decode cX11_open 75 = .ok (.iload_n 1, 1) := by decide +kernel
theorem dX11_open_76 : decode cX11_open 76 = .ok (.aload_n 0, 1) := by decide +kernel
theorem dX11_open_77 : decode cX11_open 77 = .ok (.getfield 27, 3) := by decide +kernel
theorem dX11_open_80 : decode cX11_open 80 = .ok (.iconst 1, 1) := by decide +kernel
theorem dX11_open_81 : decode cX11_open 81 = .ok (.invokevirtual 159, 3) := by decide +kernel
theorem dX11_open_84 : decode cX11_open 84 = .ok (.aload_n 0, 1) := by decide +kernel
theorem dX11_open_85 : decode cX11_open 85 = .ok (.getfield 112, 3) := by decide +kernel
theorem dX11_open_88 : decode cX11_open 88 = .ok (.aload_n 0, 1) := by decide +kernel
theorem dX11_open_89 : decode cX11_open 89 = .ok (.getfield 36, 3) := by decide +kernel
theorem dX11_open_92 : decode cX11_open 92 = .ok (.invokevirtual 186, 3) := by decide +kernel
theorem dX11_open_95 : decode cX11_open 95 = .ok (.aload_n 0, 1) := by decide +kernel
theorem dX11_open_96 : decode cX11_open 96 = .ok (.getfield 112, 3) := by decide +kernel
theorem dX11_open_99 : decode cX11_open 99 = .ok (.aload_n 0, 1) := by decide +kernel
theorem dX11_open_100 : decode cX11_open 100 = .ok (.getfield 116, 3) := by decide +kernel
theorem dX11_open_103 : decode cX11_open 103 = .ok (.invokevirtual 189, 3) := by decide +kernel
theorem dX11_open_106 : decode cX11_open 106 = .ok (.istore_n 3, 1) := by decide +kernel
theorem dX11_open_107 : decode cX11_open 107 = .ok (.goto 70, 3) := by decide +kernel
theorem dX11_open_110 : decode cX11_open 110 = .ok (.iload_n 1, 1) := by decide +kernel
theorem dX11_open_111 : decode cX11_open 111 = .ok (.bipush 15, 2) := by decide +kernel
theorem dX11_open_113 : decode cX11_open 113 = .ok (.if_icmp .ne 58, 3) := by decide +kernel
theorem dX11_open_116 : decode cX11_open 116 = .ok (.aload_n 0, 1) := by decide +kernel
theorem dX11_open_117 : decode cX11_open 117 = .ok (.getfield 116, 3) := by decide +kernel
theorem dX11_open_120 : decode cX11_open 120 = .ok (.aload_n 0, 1) := by decide +kernel
theorem dX11_open_121 : decode cX11_open 121 = .ok (.getfield 18, 3) := by decide +kernel
theorem dX11_open_124 : decode cX11_open 124 = .ok (.iconst 0, 1) := by decide +kernel
theorem dX11_open_125 : decode cX11_open 125 = .ok (.invokevirtual 182, 3) := by decide +kernel
theorem dX11_open_128 : decode cX11_open 128 = .ok (.aload_n 0, 1) := by decide +kernel
theorem dX11_open_129 : decode cX11_open 129 = .ok (.getfield 27, 3) := by decide +kernel
theorem dX11_open_132 : decode cX11_open 132 = .ok (.aload_n 0, 1) := by decide +kernel
theorem dX11_open_133 : decode cX11_open 133 = .ok (.getfield 18, 3) := by decide +kernel
theorem dX11_open_136 : decode cX11_open 136 = .ok (.bipush 16, 2) := by decide +kernel
theorem dX11_open_138 : decode cX11_open 138 = .ok (.aload_n 0, 1) := by decide +kernel
theorem dX11_open_139 : decode cX11_open 139 = .ok (.getfield 18, 3) := by decide +kernel
theorem dX11_open_142 : decode cX11_open 142 = .ok (.getfield 133, 3) := by decide +kernel
theorem dX11_open_145 : decode cX11_open 145 = .ok (.invokevirtual 178, 3) := by decide +kernel
theorem dX11_open_148 : decode cX11_open 148 = .ok (.aload_n 0, 1) := by decide +kernel
theorem dX11_open_149 : decode cX11_open 149 = .ok (.getfield 98, 3) := by decide +kernel
theorem dX11_open_152 : decode cX11_open 152 = .ok (.aload_n 0, 1) := by decide +kernel
theorem dX11_open_153 : decode cX11_open 153 = .ok (.getfield 116, 3) := by decide +kernel
theorem dX11_open_156 : decode cX11_open 156 = .ok (.aload_n 0, 1) := by decide +kernel
theorem dX11_open_157 : decode cX11_open 157 = .ok (.getfield 27, 3) := by decide +kernel
theorem dX11_open_160 : decode cX11_open 160 = .ok (.aload_n 0, 1) := by decide +kernel
theorem dX11_open_161 : decode cX11_open 161 = .ok (.getfield 33, 3) := by decide +kernel
theorem dX11_open_164 : decode cX11_open 164 = .ok (.invokevirtual 193, 3) := by decide +kernel
theorem dX11_open_167 : decode cX11_open 167 = .ok (.istore_n 3, 1) := by decide +kernel
theorem dX11_open_168 : decode cX11_open 168 = .ok (.goto 9, 3) := by decide +kernel
theorem dX11_open_171 : decode cX11_open 171 = .ok (.aload_n 0, 1) := by decide +kernel
theorem dX11_open_172 : decode cX11_open 172 = .ok (.iload_n 1, 1) := by decide +kernel
theorem dX11_open_173 : decode cX11_open 173 = .ok (.invokevirtual 197, 3) := by decide +kernel
theorem dX11_open_176 : decode cX11_open 176 = .ok (.istore_n 3, 1) := by decide +kernel
theorem dX11_open_177 : decode cX11_open 177 = .ok (.iload_n 3, 1) := by decide +kernel
theorem dX11_open_178 : decode cX11_open 178 = .ok (.ifCond .eq 10, 3) := by decide +kernel
theorem dX11_open_181 : decode cX11_open 181 = .ok (.aload_n 0, 1) := by decide +kernel
theorem dX11_open_182 : decode cX11_open 182 = .ok (.invokevirtual 174, 3) := by decide +kernel
theorem dX11_open_185 : decode cX11_open 185 = .ok (.goto 5, 3) := by decide +kernel
theorem dX11_open_188 : decode cX11_open 188 = .ok (.bipush (-6), 2) := by decide +kernel
theorem dX11_open_190 : decode cX11_open 190 = .ok (.ireturn, 1) := by decide +kernel
theorem dX11_sum_0 : decode cX11_sum 0 = .ok (.iload_n 1, 1) := by decide +kernel
theorem dX11_sum_1 : decode cX11_sum 1 = .ok (.iconst 1, 1) := by decide +kernel
theorem dX11_sum_2 : decode cX11_sum 2 = .ok (.if_icmp .lt 8, 3) := by decide +kernel
theorem dX11_sum_5 : decode cX11_sum 5 = .ok (.iload_n 1, 1) := by decide +kernel
theorem dX11_sum_6 : decode cX11_sum 6 = .ok (.iconst 3, 1) := by decide +kernel
theorem dX11_sum_7 : decode cX11_sum 7 = .ok (.if_icmp .le 6, 3) := by decide +kernel
theorem dX11_sum_10 : decode cX11_sum 10 = .ok (.bipush (-2), 2) := by decide +kernel
theorem dX11_sum_12 : decode cX11_sum 12 = .ok (.ireturn, 1) := by decide +kernel
theorem dX11_sum_13 : decode cX11_sum 13 = .ok (.aload_n 0, 1) := by decide +kernel
theorem dX11_sum_14 : decode cX11_sum 14 = .ok (.getfield 14, 3) := by decide +kernel
theorem dX11_sum_17 : decode cX11_sum 17 = .ok (.getfield 133, 3) := by decide +kernel
theorem dX11_sum_20 : decode cX11_sum 20 = .ok (.invokestatic 200, 3) := by decide +kernel
theorem dX11_sum_23 : decode cX11_sum 23 = .ok (.ifCond .ne 6, 3) := by decide +kernel
theorem dX11_sum_26 : decode cX11_sum 26 = .ok (.bipush (-3), 2) := by decide +kernel
theorem dX11_sum_28 : decode cX11_sum 28 = .ok (.ireturn, 1) := by decide +kernel
theorem dX11_sum_29 : decode cX11_sum 29 = .ok (.iload_n 1, 1) := by decide +kernel
theorem dX11_sum_30 : decode cX11_sum 30 = .ok (.iconst 1, 1) := by decide +kernel
theorem dX11_sum_31 : decode cX11_sum 31 = .ok (.if_icmp .eq 29, 3) := by decide +kernel
theorem dX11_sum_34 : decode cX11_sum 34 = .ok (.aload_n 0, 1) := by decide +kernel
theorem dX11_sum_35 : decode cX11_sum 35 = .ok (.getfield 18, 3) := by decide +kernel
theorem dX11_sum_38 : decode cX11_sum 38 = .ok (.getfield 133, 3) := by decide +kernel
theorem dX11_sum_41 : decode cX11_sum 41 = .ok (.ifCond .eq 16, 3) := by decide +kernel
theorem dX11_sum_44 : decode cX11_sum 44 = .ok (.aload_n 0, 1) := by decide +kernel
theorem dX11_sum_45 : decode cX11_sum 45 = .ok (.getfield 18, 3) := by decide +kernel
theorem dX11_sum_48 : decode cX11_sum 48 = .ok (.getfield 133, 3) := by decide +kernel
theorem dX11_sum_51 : decode cX11_sum 51 = .ok (.bipush 15, 2) := by decide +kernel
theorem dX11_sum_53 : decode cX11_sum 53 = .ok (.iand, 1) := by decide +kernel
theorem dX11_sum_54 : decode cX11_sum 54 = .ok (.ifCond .eq 6, 3) := by decide +kernel
theorem dX11_sum_57 : decode cX11_sum 57 = .ok (.bipush (-2), 2) := by decide +kernel
theorem dX11_sum_59 : decode cX11_sum 59 = .ok (.ireturn, 1) := by decide +kernel
theorem dX11_sum_60 : decode cX11_sum 60 = .ok (.aload_n 0, 1) := by decide +kernel
theorem dX11_sum_61 : decode cX11_sum 61 = .ok (.getfield 43, 3) := by decide +kernel
theorem dX11_sum_64 : decode cX11_sum 64 = .ok (.aload_n 0, 1) := by decide +kernel
theorem dX11_sum_65 : decode cX11_sum 65 = .ok (.getfield 14, 3) := by decide +kernel
theorem dX11_sum_68 : decode cX11_sum 68 = .ok (.iconst 0, 1) := by decide +kernel
theorem dX11_sum_69 : decode cX11_sum 69 = .ok (.aload_n 0, 1) := by decide +kernel
theorem dX11_sum_70 : decode cX11_sum 70 = .ok (.getfield 14, 3) := by decide +kernel
theorem dX11_sum_73 : decode cX11_sum 73 = .ok (.getfield 133, 3) := by decide +kernel
theorem dX11_sum_76 : decode cX11_sum 76 = .ok (.invokevirtual 203, 3) := by decide +kernel
theorem dX11_sum_79 : decode cX11_sum 79 = .ok (.iload_n 1, 1) := by decide +kernel
theorem dX11_sum_80 : decode cX11_sum 80 = .ok (.iconst 1, 1) := by decide +kernel
theorem dX11_sum_81 : decode cX11_sum 81 = .ok (.if_icmp .ne 21, 3) := by decide +kernel
theorem dX11_sum_84 : decode cX11_sum 84 = .ok (.aload_n 0, 1) := by decide +kernel
theorem dX11_sum_85 : decode cX11_sum 85 = .ok (.getfield 98, 3) := by decide +kernel
theorem dX11_sum_88 : decode cX11_sum 88 = .ok (.aload_n 0, 1) := by decide +kernel
theorem dX11_sum_89 : decode cX11_sum 89 = .ok (.getfield 18, 3) := by decide +kernel
theorem dX11_sum_92 : decode cX11_sum 92 = .ok (.aload_n 0, 1) := by decide +kernel
theorem dX11_sum_93 : decode cX11_sum 93 = .ok (.getfield 112, 3) := by decide +kernel
theorem dX11_sum_96 : decode cX11_sum 96 = .ok (.invokevirtual 206, 3) := by decide +kernel
theorem dX11_sum_99 : decode cX11_sum 99 = .ok (.goto 41, 3) := by decide +kernel
theorem dX11_sum_102 : decode cX11_sum 102 = .ok (.iload_n 1, 1) := by decide +kernel
theorem dX11_sum_103 : decode cX11_sum 103 = .ok (.iconst 2, 1) := by decide +kernel
theorem dX11_sum_104 : decode cX11_sum 104 = .ok (.if_icmp .ne 21, 3) := by decide +kernel
theorem dX11_sum_107 : decode cX11_sum 107 = .ok (.aload_n 0, 1) := by decide +kernel
theorem dX11_sum_108 : decode cX11_sum 108 = .ok (.getfield 98, 3) := by decide +kernel
theorem dX11_sum_111 : decode cX11_sum 111 = .ok (.aload_n 0, 1) := by decide +kernel
theorem dX11_sum_112 : decode cX11_sum 112 = .ok (.getfield 18, 3) := by decide +kernel
theorem dX11_sum_115 : decode cX11_sum 115 = .ok (.aload_n 0, 1) := by decide +kernel
theorem dX11_sum_116 : decode cX11_sum 116 = .ok (.getfield 112, 3) := by decide +kernel
theorem dX11_sum_119 : decode cX11_sum 119 = .ok (.invokevirtual 210, 3) := by decide +kernel
theorem dX11_sum_122 : decode cX11_sum 122 = .ok (.goto 18, 3) := by decide +kernel
theorem dX11_sum_125 : decode cX11_sum 125 = .ok (.aload_n 0, 1) := by decide +kernel
theorem dX11_sum_126 : decode cX11_sum 126 = .ok (.getfield 89, 3) := by decide +kernel
theorem dX11_sum_129 : decode cX11_sum 129 = .ok (.aload_n 0, 1) := by decide +kernel
theorem dX11_sum_130 : decode cX11_sum 130 = .ok (.getfield 18, 3) := by decide +kernel
theorem dX11_sum_133 : decode cX11_sum 133 = .ok (.aload_n 0, 1) := by decide +kernel
theorem dX11_sum_134 : decode cX11_sum 134 = .ok (.getfield 112, 3) := by decide +kernel
theorem dX11_sum_137 : decode cX11_sum 137 = .ok (.invokevirtual 213, 3) := by decide +kernel
theorem dX11_sum_140 : decode cX11_sum 140 = .ok (.aload_n 0, 1) := by decide +kernel
theorem dX11_sum_141 : decode cX11_sum 141 = .ok (.getfield 33, 3) := by decide +kernel
theorem dX11_sum_144 : decode cX11_sum 144 = .ok (.iconst 0, 1) := by decide +kernel
theorem dX11_sum_145 : decode cX11_sum 145 = .ok (.invokevirtual 123, 3) := by decide +kernel
theorem dX11_sum_148 : decode cX11_sum 148 = .ok (.aload_n 0, 1) := by decide +kernel
theorem dX11_sum_149 : decode cX11_sum 149 = .ok (.getfield 33, 3) := by decide +kernel
theorem dX11_sum_152 : decode cX11_sum 152 = .ok (.aload_n 0, 1) := by decide +kernel
theorem dX11_sum_153 : decode cX11_sum 153 = .ok (.getfield 112, 3) := by decide +kernel
theorem dX11_sum_156 : decode cX11_sum 156 = .ok (.bipush 16, 2) := by decide +kernel
theorem dX11_sum_158 : decode cX11_sum 158 = .ok (.invokevirtual 163, 3) := by decide +kernel
theorem dX11_sum_161 : decode cX11_sum 161 = .ok (.aload_n 0, 1) := by decide +kernel
theorem dX11_sum_162 : decode cX11_sum 162 = .ok (.invokevirtual 174, 3) := by decide +kernel
theorem dX11_sum_165 : decode cX11_sum 165 = .ok (.ireturn, 1) := by decide +kernel
theorem dX11_out_0 : decode cX11_out 0 = .ok (.aload_n 0, 1) := by decide +kernel
theorem dX11_out_1 : decode cX11_out 1 = .ok (.getfield 30, 3) := by decide +kernel
theorem dX11_out_4 : decode cX11_out 4 = .ok (.iload_n 1, 1) := by decide +kernel
theorem dX11_out_5 : decode cX11_out 5 = .ok (.invokevirtual 138, 3) := by decide +kernel
theorem dX11_out_8 : decode cX11_out 8 = .ok (.ifCond .eq 14, 3) := by decide +kernel
theorem dX11_out_11 : decode cX11_out 11 = .ok (.aload_n 0, 1) := by decide +kernel
theorem dX11_out_12 : decode cX11_out 12 = .ok (.getfield 30, 3) := by decide +kernel
theorem dX11_out_15 : decode cX11_out 15 = .ok (.iload_n 1, 1) := by decide +kernel
theorem dX11_out_16 : decode cX11_out 16 = .ok (.invokevirtual 141, 3) := by decide +kernel
theorem dX11_out_19 : decode cX11_out 19 = .ok (.goto 5, 3) := by decide +kernel
theorem dX11_out_22 : decode cX11_out 22 = .ok (.bipush (-2), 2) := by decide +kernel
theorem dX11_out_24 : decode cX11_out 24 = .ok (.ireturn, 1) := by decide +kernel
theorem dX11_take_0 : decode cX11_take 0 = .ok (.aload_n 0, 1) := by decide +kernel
theorem dX11_take_1 : decode cX11_take 1 = .ok (.iload_n 1, 1) := by decide +kernel
theorem dX11_take_2 : decode cX11_take 2 = .ok (.invokevirtual 119, 3) := by decide +kernel
theorem dX11_take_5 : decode cX11_take 5 = .ok (.astore_n 2, 1) := by decide +kernel
theorem dX11_take_6 : decode cX11_take 6 = .ok (.aload_n 2, 1) := by decide +kernel
theorem dX11_take_7 : decode cX11_take 7 = .ok (.ifnonnull 6, 3) := by decide +kernel
theorem dX11_take_10 : decode cX11_take 10 = .ok (.bipush (-2), 2) := by decide +kernel
theorem dX11_take_12 : decode cX11_take 12 = .ok (.ireturn, 1) := by decide +kernel
theorem dX11_take_13 : decode cX11_take 13 = .ok (.aload_n 0, 1) := by decide +kernel
theorem dX11_take_14 : decode cX11_take 14 = .ok (.getfield 30, 3) := by decide +kernel
theorem dX11_take_17 : decode cX11_take 17 = .ok (.getfield 133, 3) := by decide +kernel
theorem dX11_take_20 : decode cX11_take 20 = .ok (.aload_n 2, 1) := by decide +kernel
theorem dX11_take_21 : decode cX11_take 21 = .ok (.invokevirtual 216, 3) := by decide +kernel
theorem dX11_take_24 : decode cX11_take 24 = .ok (.if_icmp .le 6, 3) := by decide +kernel
theorem dX11_take_27 : decode cX11_take 27 = .ok (.bipush (-4), 2) := by decide +kernel
theorem dX11_take_29 : decode cX11_take 29 = .ok (.ireturn, 1) := by decide +kernel
theorem dX11_take_30 : decode cX11_take 30 = .ok (.aload_n 2, 1) := by decide +kernel
theorem dX11_take_31 : decode cX11_take 31 = .ok (.aload_n 0, 1) := by decide +kernel
theorem dX11_take_32 : decode cX11_take 32 = .ok (.getfield 30, 3) := by decide +kernel
theorem dX11_take_35 : decode cX11_take 35 = .ok (.iconst 0, 1) := by decide +kernel
theorem dX11_take_36 : decode cX11_take 36 = .ok (.aload_n 0, 1) := by decide +kernel
theorem dX11_take_37 : decode cX11_take 37 = .ok (.getfield 30, 3) := by decide +kernel
theorem dX11_take_40 : decode cX11_take 40 = .ok (.getfield 133, 3) := by decide +kernel
theorem dX11_take_43 : decode cX11_take 43 = .ok (.invokevirtual 178, 3) := by decide +kernel
theorem dX11_take_46 : decode cX11_take 46 = .ok (.aload_n 2, 1) := by decide +kernel
theorem dX11_take_47 : decode cX11_take 47 = .ok (.getfield 133, 3) := by decide +kernel
theorem dX11_take_50 : decode cX11_take 50 = .ok (.ireturn, 1) := by decide +kernel
theorem dX11_roundKey_0 : decode cX11_roundKey 0 = .ok (.aload_n 0, 1) := by decide +kernel
theorem dX11_roundKey_1 : decode cX11_roundKey 1 = .ok (.getfield 14, 3) := by decide +kernel
theorem dX11_roundKey_4 : decode cX11_roundKey 4 = .ok (.getfield 133, 3) := by decide +kernel
theorem dX11_roundKey_7 : decode cX11_roundKey 7 = .ok (.invokestatic 200, 3) := by decide +kernel
theorem dX11_roundKey_10 : decode cX11_roundKey 10 = .ok (.ifCond .ne 6, 3) := by decide +kernel
theorem dX11_roundKey_13 : decode cX11_roundKey 13 = .ok (.bipush (-3), 2) := by decide +kernel
theorem dX11_roundKey_15 : decode cX11_roundKey 15 = .ok (.ireturn, 1) := by decide +kernel
theorem dX11_roundKey_16 : decode cX11_roundKey 16 = .ok (.aload_n 0, 1) := by decide +kernel
theorem dX11_roundKey_17 : decode cX11_roundKey 17 = .ok (.getfield 43, 3) := by decide +kernel
theorem dX11_roundKey_20 : decode cX11_roundKey 20 = .ok (.aload_n 0, 1) := by decide +kernel
theorem dX11_roundKey_21 : decode cX11_roundKey 21 = .ok (.getfield 14, 3) := by decide +kernel
theorem dX11_roundKey_24 : decode cX11_roundKey 24 = .ok (.iconst 0, 1) := by decide +kernel
theorem dX11_roundKey_25 : decode cX11_roundKey 25 = .ok (.aload_n 0, 1) := by decide +kernel
theorem dX11_roundKey_26 : decode cX11_roundKey 26 = .ok (.getfield 14, 3) := by decide +kernel
theorem dX11_roundKey_29 : decode cX11_roundKey 29 = .ok (.getfield 133, 3) := by decide +kernel
theorem dX11_roundKey_32 : decode cX11_roundKey 32 = .ok (.invokevirtual 203, 3) := by decide +kernel
theorem dX11_roundKey_35 : decode cX11_roundKey 35 = .ok (.iload_n 1, 1) := by decide +kernel
theorem dX11_roundKey_36 : decode cX11_roundKey 36 = .ok (.ifCond .lt 14, 3) := by decide +kernel
theorem dX11_roundKey_39 : decode cX11_roundKey 39 = .ok (.iload_n 1, 1) := by decide +kernel
theorem dX11_roundKey_40 : decode cX11_roundKey 40 = .ok (.aload_n 0, 1) := by decide +kernel
theorem dX11_roundKey_41 : decode cX11_roundKey 41 = .ok (.getfield 43, 3) := by decide +kernel
theorem dX11_roundKey_44 : decode cX11_roundKey 44 = .ok (.invokevirtual 219, 3) := by decide +kernel
theorem dX11_roundKey_47 : decode cX11_roundKey 47 = .ok (.if_icmp .lt 8, 3) := by decide +kernel
theorem dX11_roundKey_50 : decode cX11_roundKey 50 = .ok (.bipush (-2), 2) := by decide +kernel
theorem dX11_roundKey_52 : decode cX11_roundKey 52 = .ok (.goto 11, 3) := by decide +kernel
theorem dX11_roundKey_55 : decode cX11_roundKey 55 = .ok (.aload_n 0, 1) := by decide +kernel
theorem dX11_roundKey_56 : decode cX11_roundKey 56 = .ok (.getfield 43, 3) := by decide +kernel
theorem dX11_roundKey_59 : decode cX11_roundKey 59 = .ok (.iload_n 1, 1) := by decide +kernel
theorem dX11_roundKey_60 : decode cX11_roundKey 60 = .ok (.invokevirtual 222, 3) := by decide +kernel
theorem dX11_roundKey_63 : decode cX11_roundKey 63 = .ok (.ireturn, 1) := by decide +kernel
theorem dX11_rowOf_0 : decode cX11_rowOf 0 = .ok (.iload_n 1, 1) := by decide +kernel
theorem dX11_rowOf_1 : decode cX11_rowOf 1 = .ok (.tableswitch 51 0 3 #[31, 36, 41, 46], 31) := by decide +kernel
theorem dX11_rowOf_32 : decode cX11_rowOf 32 = .ok (.aload_n 0, 1) := by decide +kernel
theorem dX11_rowOf_33 : decode cX11_rowOf 33 = .ok (.getfield 14, 3) := by decide +kernel
theorem dX11_rowOf_36 : decode cX11_rowOf 36 = .ok (.areturn, 1) := by decide +kernel
theorem dX11_rowOf_37 : decode cX11_rowOf 37 = .ok (.aload_n 0, 1) := by decide +kernel
theorem dX11_rowOf_38 : decode cX11_rowOf 38 = .ok (.getfield 18, 3) := by decide +kernel
theorem dX11_rowOf_41 : decode cX11_rowOf 41 = .ok (.areturn, 1) := by decide +kernel
theorem dX11_rowOf_42 : decode cX11_rowOf 42 = .ok (.aload_n 0, 1) := by decide +kernel
theorem dX11_rowOf_43 : decode cX11_rowOf 43 = .ok (.getfield 21, 3) := by decide +kernel
theorem dX11_rowOf_46 : decode cX11_rowOf 46 = .ok (.areturn, 1) := by decide +kernel
theorem dX11_rowOf_47 : decode cX11_rowOf 47 = .ok (.aload_n 0, 1) := by decide +kernel
theorem dX11_rowOf_48 : decode cX11_rowOf 48 = .ok (.getfield 24, 3) := by decide +kernel
theorem dX11_rowOf_51 : decode cX11_rowOf 51 = .ok (.areturn, 1) := by decide +kernel
theorem dX11_rowOf_52 : decode cX11_rowOf 52 = .ok (.aconst_null, 1) := by decide +kernel
theorem dX11_rowOf_53 : decode cX11_rowOf 53 = .ok (.areturn, 1) := by decide +kernel
theorem dX11_isTagged_0 : decode cX11_isTagged 0 = .ok (.iload_n 0, 1) := by decide +kernel
theorem dX11_isTagged_1 : decode cX11_isTagged 1 = .ok (.bipush 12, 2) := by decide +kernel
theorem dX11_isTagged_3 : decode cX11_isTagged 3 = .ok (.if_icmp .eq 21, 3) := by decide +kernel
theorem dX11_isTagged_6 : decode cX11_isTagged 6 = .ok (.iload_n 0, 1) := by decide +kernel
theorem dX11_isTagged_7 : decode cX11_isTagged 7 = .ok (.bipush 13, 2) := by decide +kernel
theorem dX11_isTagged_9 : decode cX11_isTagged 9 = .ok (.if_icmp .eq 15, 3) := by decide +kernel
theorem dX11_isTagged_12 : decode cX11_isTagged 12 = .ok (.iload_n 0, 1) := by decide +kernel
theorem dX11_isTagged_13 : decode cX11_isTagged 13 = .ok (.bipush 14, 2) := by decide +kernel
theorem dX11_isTagged_15 : decode cX11_isTagged 15 = .ok (.if_icmp .eq 9, 3) := by decide +kernel
theorem dX11_isTagged_18 : decode cX11_isTagged 18 = .ok (.iload_n 0, 1) := by decide +kernel
theorem dX11_isTagged_19 : decode cX11_isTagged 19 = .ok (.bipush 16, 2) := by decide +kernel
theorem dX11_isTagged_21 : decode cX11_isTagged 21 = .ok (.if_icmp .ne 7, 3) := by decide +kernel
theorem dX11_isTagged_24 : decode cX11_isTagged 24 = .ok (.iconst 1, 1) := by decide +kernel
theorem dX11_isTagged_25 : decode cX11_isTagged 25 = .ok (.goto 4, 3) := by decide +kernel
theorem dX11_isTagged_28 : decode cX11_isTagged 28 = .ok (.iconst 0, 1) := by decide +kernel
theorem dX11_isTagged_29 : decode cX11_isTagged 29 = .ok (.ireturn, 1) := by decide +kernel
theorem dX11_wantsTwoKeys_0 : decode cX11_wantsTwoKeys 0 = .ok (.iload_n 0, 1) := by decide +kernel
theorem dX11_wantsTwoKeys_1 : decode cX11_wantsTwoKeys 1 = .ok (.bipush 9, 2) := by decide +kernel
theorem dX11_wantsTwoKeys_3 : decode cX11_wantsTwoKeys 3 = .ok (.if_icmp .eq 9, 3) := by decide +kernel
theorem dX11_wantsTwoKeys_6 : decode cX11_wantsTwoKeys 6 = .ok (.iload_n 0, 1) := by decide +kernel
theorem dX11_wantsTwoKeys_7 : decode cX11_wantsTwoKeys 7 = .ok (.bipush 15, 2) := by decide +kernel
theorem dX11_wantsTwoKeys_9 : decode cX11_wantsTwoKeys 9 = .ok (.if_icmp .ne 7, 3) := by decide +kernel
theorem dX11_wantsTwoKeys_12 : decode cX11_wantsTwoKeys 12 = .ok (.iconst 1, 1) := by decide +kernel
theorem dX11_wantsTwoKeys_13 : decode cX11_wantsTwoKeys 13 = .ok (.goto 4, 3) := by decide +kernel
theorem dX11_wantsTwoKeys_16 : decode cX11_wantsTwoKeys 16 = .ok (.iconst 0, 1) := by decide +kernel
theorem dX11_wantsTwoKeys_17 : decode cX11_wantsTwoKeys 17 = .ok (.ireturn, 1) := by decide +kernel
theorem dX11_isKeySize_0 : decode cX11_isKeySize 0 = .ok (.iload_n 0, 1) := by decide +kernel
theorem dX11_isKeySize_1 : decode cX11_isKeySize 1 = .ok (.bipush 16, 2) := by decide +kernel
theorem dX11_isKeySize_3 : decode cX11_isKeySize 3 = .ok (.if_icmp .eq 15, 3) := by decide +kernel
theorem dX11_isKeySize_6 : decode cX11_isKeySize 6 = .ok (.iload_n 0, 1) := by decide +kernel
theorem dX11_isKeySize_7 : decode cX11_isKeySize 7 = .ok (.bipush 24, 2) := by decide +kernel
theorem dX11_isKeySize_9 : decode cX11_isKeySize 9 = .ok (.if_icmp .eq 9, 3) := by decide +kernel
theorem dX11_isKeySize_12 : decode cX11_isKeySize 12 = .ok (.iload_n 0, 1) := by decide +kernel
theorem dX11_isKeySize_13 : decode cX11_isKeySize 13 = .ok (.bipush 32, 2) := by decide +kernel
theorem dX11_isKeySize_15 : decode cX11_isKeySize 15 = .ok (.if_icmp .ne 7, 3) := by decide +kernel
theorem dX11_isKeySize_18 : decode cX11_isKeySize 18 = .ok (.iconst 1, 1) := by decide +kernel
theorem dX11_isKeySize_19 : decode cX11_isKeySize 19 = .ok (.goto 4, 3) := by decide +kernel
theorem dX11_isKeySize_22 : decode cX11_isKeySize 22 = .ok (.iconst 0, 1) := by decide +kernel
theorem dX11_isKeySize_23 : decode cX11_isKeySize 23 = .ok (.ireturn, 1) := by decide +kernel
theorem dX11_refusalOf_0 : decode cX11_refusalOf 0 = .ok (.iload_n 1, 1) := by decide +kernel
theorem dX11_refusalOf_1 : decode cX11_refusalOf 1 = .ok (.iconst 1, 1) := by decide +kernel
theorem dX11_refusalOf_2 : decode cX11_refusalOf 2 = .ok (.if_icmp .lt 9, 3) := by decide +kernel
theorem dX11_refusalOf_5 : decode cX11_refusalOf 5 = .ok (.iload_n 1, 1) := by decide +kernel
theorem dX11_refusalOf_6 : decode cX11_refusalOf 6 = .ok (.bipush 16, 2) := by decide +kernel
theorem dX11_refusalOf_8 : decode cX11_refusalOf 8 = .ok (.if_icmp .le 6, 3) := by decide +kernel
theorem dX11_refusalOf_11 : decode cX11_refusalOf 11 = .ok (.bipush (-2), 2) := by decide +kernel
theorem dX11_refusalOf_13 : decode cX11_refusalOf 13 = .ok (.ireturn, 1) := by decide +kernel
theorem dX11_refusalOf_14 : decode cX11_refusalOf 14 = .ok (.iload_n 1, 1) := by decide +kernel
theorem dX11_refusalOf_15 : decode cX11_refusalOf 15 = .ok (.invokestatic 225, 3) := by decide +kernel
theorem dX11_refusalOf_18 : decode cX11_refusalOf 18 = .ok (.ifCond .eq 38, 3) := by decide +kernel
theorem dX11_refusalOf_21 : decode cX11_refusalOf 21 = .ok (.aload_n 0, 1) := by decide +kernel
theorem dX11_refusalOf_22 : decode cX11_refusalOf 22 = .ok (.getfield 14, 3) := by decide +kernel
theorem dX11_refusalOf_25 : decode cX11_refusalOf 25 = .ok (.getfield 133, 3) := by decide +kernel
theorem dX11_refusalOf_28 : decode cX11_refusalOf 28 = .ok (.iconst 1, 1) := by decide +kernel
theorem dX11_refusalOf_29 : decode cX11_refusalOf 29 = .ok (.iand, 1) := by decide +kernel
theorem dX11_refusalOf_30 : decode cX11_refusalOf 30 = .ok (.ifCond .ne 22, 3) := by decide +kernel
theorem dX11_refusalOf_33 : decode cX11_refusalOf 33 = .ok (.aload_n 0, 1) := by decide +kernel
theorem dX11_refusalOf_34 : decode cX11_refusalOf 34 = .ok (.getfield 14, 3) := by decide +kernel
theorem dX11_refusalOf_37 : decode cX11_refusalOf 37 = .ok (.getfield 133, 3) := by decide +kernel
theorem dX11_refusalOf_40 : decode cX11_refusalOf 40 = .ok (.iconst 1, 1) := by decide +kernel
theorem dX11_refusalOf_41 : decode cX11_refusalOf 41 = .ok (.ishr, 1) := by decide +kernel
theorem dX11_refusalOf_42 : decode cX11_refusalOf 42 = .ok (.invokestatic 200, 3) := by decide +kernel
theorem dX11_refusalOf_45 : decode cX11_refusalOf 45 = .ok (.ifCond .eq 7, 3) := by decide +kernel
theorem dX11_refusalOf_48 : decode cX11_refusalOf 48 = .ok (.iconst 1, 1) := by decide +kernel
theorem dX11_refusalOf_49 : decode cX11_refusalOf 49 = .ok (.goto 17, 3) := by decide +kernel
theorem dX11_refusalOf_52 : decode cX11_refusalOf 52 = .ok (.iconst 0, 1) := by decide +kernel
theorem dX11_refusalOf_53 : decode cX11_refusalOf 53 = .ok (.goto 13, 3) := by decide +kernel
theorem dX11_refusalOf_56 : decode cX11_refusalOf 56 = .ok (.aload_n 0, 1) := by decide +kernel
theorem dX11_refusalOf_57 : decode cX11_refusalOf 57 = .ok (.getfield 14, 3) := by decide +kernel
theorem dX11_refusalOf_60 : decode cX11_refusalOf 60 = .ok (.getfield 133, 3) := by decide +kernel
theorem dX11_refusalOf_63 : decode cX11_refusalOf 63 = .ok (.invokestatic 200, 3) := by decide +kernel
theorem dX11_refusalOf_66 : decode cX11_refusalOf 66 = .ok (.istore_n 3, 1) := by decide +kernel
theorem dX11_refusalOf_67 : decode cX11_refusalOf 67 = .ok (.iload_n 3, 1) := by decide +kernel
theorem dX11_refusalOf_68 : decode cX11_refusalOf 68 = .ok (.ifCond .ne 6, 3) := by decide +kernel
theorem dX11_refusalOf_71 : decode cX11_refusalOf 71 = .ok (.bipush (-3), 2) := by decide +kernel
theorem dX11_refusalOf_73 : decode cX11_refusalOf 73 = .ok (.ireturn, 1) := by decide +kernel
theorem dX11_refusalOf_74 : decode cX11_refusalOf 74 = .ok (.aload_n 0, 1) := by decide +kernel
theorem dX11_refusalOf_75 : decode cX11_refusalOf 75 = .ok (.iload_n 1, 1) := by decide +kernel
theorem dX11_refusalOf_76 : decode cX11_refusalOf 76 = .ok (.invokevirtual 228, 3) := by decide +kernel
theorem dX11_refusalOf_79 : decode cX11_refusalOf 79 = .ok (.ifCond .eq 12, 3) := by decide +kernel
theorem dX11_refusalOf_82 : decode cX11_refusalOf 82 = .ok (.aload_n 0, 1) := by decide +kernel
theorem dX11_refusalOf_83 : decode cX11_refusalOf 83 = .ok (.iload_n 1, 1) := by decide +kernel
theorem dX11_refusalOf_84 : decode cX11_refusalOf 84 = .ok (.iload_n 2, 1) := by decide +kernel
theorem dX11_refusalOf_85 : decode cX11_refusalOf 85 = .ok (.invokevirtual 231, 3) := by decide +kernel
theorem dX11_refusalOf_88 : decode cX11_refusalOf 88 = .ok (.ifCond .ne 6, 3) := by decide +kernel
theorem dX11_refusalOf_91 : decode cX11_refusalOf 91 = .ok (.bipush (-2), 2) := by decide +kernel
theorem dX11_refusalOf_93 : decode cX11_refusalOf 93 = .ok (.ireturn, 1) := by decide +kernel
theorem dX11_refusalOf_94 : decode cX11_refusalOf 94 = .ok (.iload_n 1, 1) := by decide +kernel
theorem dX11_refusalOf_95 : decode cX11_refusalOf 95 = .ok (.bipush 13, 2) := by decide +kernel
theorem dX11_refusalOf_97 : decode cX11_refusalOf 97 = .ok (.if_icmp .ne 17, 3) := by decide +kernel
theorem dX11_refusalOf_100 : decode cX11_refusalOf 100 = .ok (.aload_n 0, 1) := by decide +kernel
theorem dX11_refusalOf_101 : decode cX11_refusalOf 101 = .ok (.getfield 36, 3) := by decide +kernel
theorem dX11_refusalOf_104 : decode cX11_refusalOf 104 = .ok (.iconst 1, 1) := by decide +kernel
theorem dX11_refusalOf_105 : decode cX11_refusalOf 105 = .ok (.iand, 1) := by decide +kernel
theorem dX11_refusalOf_106 : decode cX11_refusalOf 106 = .ok (.ifCond .eq 8, 3) := by decide +kernel
theorem dX11_refusalOf_109 : decode cX11_refusalOf 109 = .ok (.bipush (-2), 2) := by decide +kernel
theorem dX11_refusalOf_111 : decode cX11_refusalOf 111 = .ok (.goto 4, 3) := by decide +kernel
theorem dX11_refusalOf_114 : decode cX11_refusalOf 114 = .ok (.iconst 0, 1) := by decide +kernel
theorem dX11_refusalOf_115 : decode cX11_refusalOf 115 = .ok (.ireturn, 1) := by decide +kernel
theorem dX11_startFits_0 : decode cX11_startFits 0 = .ok (.aload_n 0, 1) := by decide +kernel
theorem dX11_startFits_1 : decode cX11_startFits 1 = .ok (.getfield 21, 3) := by decide +kernel
theorem dX11_startFits_4 : decode cX11_startFits 4 = .ok (.getfield 133, 3) := by decide +kernel
theorem dX11_startFits_7 : decode cX11_startFits 7 = .ok (.istore_n 2, 1) := by decide +kernel
theorem dX11_startFits_8 : decode cX11_startFits 8 = .ok (.iload_n 1, 1) := by decide +kernel
theorem dX11_startFits_9 : decode cX11_startFits 9 = .ok (.tableswitch 133 2 16 #[75, 75, 75, 75, 75, 75, 75, 75, 133, 133, 87, 98, 133, 133, 116], 75) := by decide +kernel
theorem dX11_startFits_84 : decode cX11_startFits 84 = .ok (.iload_n 2, 1) := by decide +kernel
theorem dX11_startFits_85 : decode cX11_startFits 85 = .ok (.bipush 16, 2) := by decide +kernel
theorem dX11_startFits_87 : decode cX11_startFits 87 = .ok (.if_icmp .ne 7, 3) := by decide +kernel
theorem dX11_startFits_90 : decode cX11_startFits 90 = .ok (.iconst 1, 1) := by decide +kernel
theorem dX11_startFits_91 : decode cX11_startFits 91 = .ok (.goto 4, 3) := by decide +kernel
theorem dX11_startFits_94 : decode cX11_startFits 94 = .ok (.iconst 0, 1) := by decide +kernel
theorem dX11_startFits_95 : decode cX11_startFits 95 = .ok (.ireturn, 1) := by decide +kernel
theorem dX11_startFits_96 : decode cX11_startFits 96 = .ok (.iload_n 2, 1) := by decide +kernel
theorem dX11_startFits_97 : decode cX11_startFits 97 = .ok (.iconst 1, 1) := by decide +kernel
theorem dX11_startFits_98 : decode cX11_startFits 98 = .ok (.if_icmp .lt 7, 3) := by decide +kernel
theorem dX11_startFits_101 : decode cX11_startFits 101 = .ok (.iconst 1, 1) := by decide +kernel
theorem dX11_startFits_102 : decode cX11_startFits 102 = .ok (.goto 4, 3) := by decide +kernel
theorem dX11_startFits_105 : decode cX11_startFits 105 = .ok (.iconst 0, 1) := by decide +kernel
theorem dX11_startFits_106 : decode cX11_startFits 106 = .ok (.ireturn, 1) := by decide +kernel
theorem dX11_startFits_107 : decode cX11_startFits 107 = .ok (.iload_n 2, 1) := by decide +kernel
theorem dX11_startFits_108 : decode cX11_startFits 108 = .ok (.bipush 7, 2) := by decide +kernel
theorem dX11_startFits_110 : decode cX11_startFits 110 = .ok (.if_icmp .lt 13, 3) := by decide +kernel
theorem dX11_startFits_113 : decode cX11_startFits 113 = .ok (.iload_n 2, 1) := by decide +kernel
theorem dX11_startFits_114 : decode cX11_startFits 114 = .ok (.bipush 13, 2) := by decide +kernel
theorem dX11_startFits_116 : decode cX11_startFits 116 = .ok (.if_icmp .gt 7, 3) := by decide +kernel
theorem dX11_startFits_119 : decode cX11_startFits 119 = .ok (.iconst 1, 1) := by decide +kernel
theorem dX11_startFits_120 : decode cX11_startFits 120 = .ok (.goto 4, 3) := by decide +kernel
theorem dX11_startFits_123 : decode cX11_startFits 123 = .ok (.iconst 0, 1) := by decide +kernel
theorem dX11_startFits_124 : decode cX11_startFits 124 = .ok (.ireturn, 1) := by decide +kernel
theorem dX11_startFits_125 : decode cX11_startFits 125 = .ok (.iload_n 2, 1) := by decide +kernel
theorem dX11_startFits_126 : decode cX11_startFits 126 = .ok (.iconst 1, 1) := by decide +kernel
theorem dX11_startFits_127 : decode cX11_startFits 127 = .ok (.if_icmp .lt 13, 3) := by decide +kernel
theorem dX11_startFits_130 : decode cX11_startFits 130 = .ok (.iload_n 2, 1) := by decide +kernel
theorem dX11_startFits_131 : decode cX11_startFits 131 = .ok (.bipush 15, 2) := by decide +kernel
theorem dX11_startFits_133 : decode cX11_startFits 133 = .ok (.if_icmp .gt 7, 3) := by decide +kernel
theorem dX11_startFits_136 : decode cX11_startFits 136 = .ok (.iconst 1, 1) := by decide +kernel
theorem dX11_startFits_137 : decode cX11_startFits 137 = .ok (.goto 4, 3) := by decide +kernel
theorem dX11_startFits_140 : decode cX11_startFits 140 = .ok (.iconst 0, 1) := by decide +kernel
theorem dX11_startFits_141 : decode cX11_startFits 141 = .ok (.ireturn, 1) := by decide +kernel
theorem dX11_startFits_142 : decode cX11_startFits 142 = .ok (.iconst 1, 1) := by decide +kernel
theorem dX11_startFits_143 : decode cX11_startFits 143 = .ok (.ireturn, 1) := by decide +kernel
theorem dX11_dataFits_0 : decode cX11_dataFits 0 = .ok (.aload_n 0, 1) := by decide +kernel
theorem dX11_dataFits_1 : decode cX11_dataFits 1 = .ok (.getfield 18, 3) := by decide +kernel
theorem dX11_dataFits_4 : decode cX11_dataFits 4 = .ok (.getfield 133, 3) := by decide +kernel
theorem dX11_dataFits_7 : decode cX11_dataFits 7 = .ok (.istore_n 3, 1) := by decide +kernel
theorem dX11_dataFits_8 : decode cX11_dataFits 8 = .ok (.iload_n 1, 1) := by decide +kernel
theorem dX11_dataFits_9 : decode cX11_dataFits 9 = .ok (.invokestatic 156, 3) := by decide +kernel
theorem dX11_dataFits_12 : decode cX11_dataFits 12 = .ok (.ifCond .eq 21, 3) := by decide +kernel
theorem dX11_dataFits_15 : decode cX11_dataFits 15 = .ok (.iload_n 2, 1) := by decide +kernel
theorem dX11_dataFits_16 : decode cX11_dataFits 16 = .ok (.ifCond .eq 11, 3) := by decide +kernel
theorem dX11_dataFits_19 : decode cX11_dataFits 19 = .ok (.iload_n 3, 1) := by decide +kernel
theorem dX11_dataFits_20 : decode cX11_dataFits 20 = .ok (.aload_n 0, 1) := by decide +kernel
theorem dX11_dataFits_21 : decode cX11_dataFits 21 = .ok (.getfield 36, 3) := by decide +kernel
theorem dX11_dataFits_24 : decode cX11_dataFits 24 = .ok (.if_icmp .lt 7, 3) := by decide +kernel
theorem dX11_dataFits_27 : decode cX11_dataFits 27 = .ok (.iconst 1, 1) := by decide +kernel
theorem dX11_dataFits_28 : decode cX11_dataFits 28 = .ok (.goto 4, 3) := by decide +kernel
theorem dX11_dataFits_31 : decode cX11_dataFits 31 = .ok (.iconst 0, 1) := by decide +kernel
theorem dX11_dataFits_32 : decode cX11_dataFits 32 = .ok (.ireturn, 1) := by decide +kernel
theorem dX11_dataFits_33 : decode cX11_dataFits 33 = .ok (.iload_n 1, 1) := by decide +kernel
theorem dX11_dataFits_34 : decode cX11_dataFits 34 = .ok (.tableswitch 214 1 15 #[74, 74, 87, 110, 214, 214, 214, 214, 122, 134, 162, 214, 214, 214, 198], 74) := by decide +kernel
theorem dX11_dataFits_108 : decode cX11_dataFits 108 = .ok (.iload_n 3, 1) := by decide +kernel
theorem dX11_dataFits_109 : decode cX11_dataFits 109 = .ok (.bipush 15, 2) := by decide +kernel
theorem dX11_dataFits_111 : decode cX11_dataFits 111 = .ok (.iand, 1) := by decide +kernel
theorem dX11_dataFits_112 : decode cX11_dataFits 112 = .ok (.ifCond .ne 7, 3) := by decide +kernel
theorem dX11_dataFits_115 : decode cX11_dataFits 115 = .ok (.iconst 1, 1) := by decide +kernel
theorem dX11_dataFits_116 : decode cX11_dataFits 116 = .ok (.goto 4, 3) := by decide +kernel
theorem dX11_dataFits_119 : decode cX11_dataFits 119 = .ok (.iconst 0, 1) := by decide +kernel
theorem dX11_dataFits_120 : decode cX11_dataFits 120 = .ok (.ireturn, 1) := by decide +kernel
theorem dX11_dataFits_121 : decode cX11_dataFits 121 = .ok (.iload_n 2, 1) := by decide +kernel
theorem dX11_dataFits_122 : decode cX11_dataFits 122 = .ok (.ifCond .eq 16, 3) := by decide +kernel
theorem dX11_dataFits_125 : decode cX11_dataFits 125 = .ok (.iload_n 3, 1) := by decide +kernel
theorem dX11_dataFits_126 : decode cX11_dataFits 126 = .ok (.bipush 16, 2) := by decide +kernel
theorem dX11_dataFits_128 : decode cX11_dataFits 128 = .ok (.if_icmp .lt 14, 3) := by decide +kernel
theorem dX11_dataFits_131 : decode cX11_dataFits 131 = .ok (.iload_n 3, 1) := by decide +kernel
theorem dX11_dataFits_132 : decode cX11_dataFits 132 = .ok (.bipush 15, 2) := by decide +kernel
theorem dX11_dataFits_134 : decode cX11_dataFits 134 = .ok (.iand, 1) := by decide +kernel
theorem dX11_dataFits_135 : decode cX11_dataFits 135 = .ok (.ifCond .ne 7, 3) := by decide +kernel
theorem dX11_dataFits_138 : decode cX11_dataFits 138 = .ok (.iconst 1, 1) := by decide +kernel
theorem dX11_dataFits_139 : decode cX11_dataFits 139 = .ok (.goto 4, 3) := by decide +kernel
theorem dX11_dataFits_142 : decode cX11_dataFits 142 = .ok (.iconst 0, 1) := by decide +kernel
theorem dX11_dataFits_143 : decode cX11_dataFits 143 = .ok (.ireturn, 1) := by decide +kernel
theorem dX11_dataFits_144 : decode cX11_dataFits 144 = .ok (.iload_n 3, 1) := by decide +kernel
theorem dX11_dataFits_145 : decode cX11_dataFits 145 = .ok (.bipush 17, 2) := by decide +kernel
theorem dX11_dataFits_147 : decode cX11_dataFits 147 = .ok (.if_icmp .lt 7, 3) := by decide +kernel
theorem dX11_dataFits_150 : decode cX11_dataFits 150 = .ok (.iconst 1, 1) := by decide +kernel
theorem dX11_dataFits_151 : decode cX11_dataFits 151 = .ok (.goto 4, 3) := by decide +kernel
theorem dX11_dataFits_154 : decode cX11_dataFits 154 = .ok (.iconst 0, 1) := by decide +kernel
theorem dX11_dataFits_155 : decode cX11_dataFits 155 = .ok (.ireturn, 1) := by decide +kernel
theorem dX11_dataFits_156 : decode cX11_dataFits 156 = .ok (.iload_n 3, 1) := by decide +kernel
theorem dX11_dataFits_157 : decode cX11_dataFits 157 = .ok (.bipush 16, 2) := by decide +kernel
theorem dX11_dataFits_159 : decode cX11_dataFits 159 = .ok (.if_icmp .lt 7, 3) := by decide +kernel
theorem dX11_dataFits_162 : decode cX11_dataFits 162 = .ok (.iconst 1, 1) := by decide +kernel
theorem dX11_dataFits_163 : decode cX11_dataFits 163 = .ok (.goto 4, 3) := by decide +kernel
theorem dX11_dataFits_166 : decode cX11_dataFits 166 = .ok (.iconst 0, 1) := by decide +kernel
theorem dX11_dataFits_167 : decode cX11_dataFits 167 = .ok (.ireturn, 1) := by decide +kernel
theorem dX11_dataFits_168 : decode cX11_dataFits 168 = .ok (.iload_n 3, 1) := by decide +kernel
theorem dX11_dataFits_169 : decode cX11_dataFits 169 = .ok (.bipush 7, 2) := by decide +kernel
theorem dX11_dataFits_171 : decode cX11_dataFits 171 = .ok (.iand, 1) := by decide +kernel
theorem dX11_dataFits_172 : decode cX11_dataFits 172 = .ok (.ifCond .ne 22, 3) := by decide +kernel
theorem dX11_dataFits_175 : decode cX11_dataFits 175 = .ok (.iload_n 3, 1) := by decide +kernel
theorem dX11_dataFits_176 : decode cX11_dataFits 176 = .ok (.iload_n 2, 1) := by decide +kernel
theorem dX11_dataFits_177 : decode cX11_dataFits 177 = .ok (.ifCond .eq 8, 3) := by decide +kernel
theorem dX11_dataFits_180 : decode cX11_dataFits 180 = .ok (.bipush 24, 2) := by decide +kernel
theorem dX11_dataFits_182 : decode cX11_dataFits 182 = .ok (.goto 5, 3) := by decide +kernel
theorem dX11_dataFits_185 : decode cX11_dataFits 185 = .ok (.bipush 16, 2) := by decide +kernel
theorem dX11_dataFits_187 : decode cX11_dataFits 187 = .ok (.if_icmp .lt 7, 3) := by decide +kernel
theorem dX11_dataFits_190 : decode cX11_dataFits 190 = .ok (.iconst 1, 1) := by decide +kernel
theorem dX11_dataFits_191 : decode cX11_dataFits 191 = .ok (.goto 4, 3) := by decide +kernel
theorem dX11_dataFits_194 : decode cX11_dataFits 194 = .ok (.iconst 0, 1) := by decide +kernel
theorem dX11_dataFits_195 : decode cX11_dataFits 195 = .ok (.ireturn, 1) := by decide +kernel
theorem dX11_dataFits_196 : decode cX11_dataFits 196 = .ok (.iload_n 2, 1) := by decide +kernel
theorem dX11_dataFits_197 : decode cX11_dataFits 197 = .ok (.ifCond .eq 24, 3) := by decide +kernel
theorem dX11_dataFits_200 : decode cX11_dataFits 200 = .ok (.iload_n 3, 1) := by decide +kernel
theorem dX11_dataFits_201 : decode cX11_dataFits 201 = .ok (.bipush 7, 2) := by decide +kernel
theorem dX11_dataFits_203 : decode cX11_dataFits 203 = .ok (.iand, 1) := by decide +kernel
theorem dX11_dataFits_204 : decode cX11_dataFits 204 = .ok (.ifCond .ne 13, 3) := by decide +kernel
theorem dX11_dataFits_207 : decode cX11_dataFits 207 = .ok (.iload_n 3, 1) := by decide +kernel
theorem dX11_dataFits_208 : decode cX11_dataFits 208 = .ok (.bipush 16, 2) := by decide +kernel
theorem dX11_dataFits_210 : decode cX11_dataFits 210 = .ok (.if_icmp .lt 7, 3) := by decide +kernel
theorem dX11_dataFits_213 : decode cX11_dataFits 213 = .ok (.iconst 1, 1) := by decide +kernel
theorem dX11_dataFits_214 : decode cX11_dataFits 214 = .ok (.goto 17, 3) := by decide +kernel
theorem dX11_dataFits_217 : decode cX11_dataFits 217 = .ok (.iconst 0, 1) := by decide +kernel
theorem dX11_dataFits_218 : decode cX11_dataFits 218 = .ok (.goto 13, 3) := by decide +kernel
theorem dX11_dataFits_221 : decode cX11_dataFits 221 = .ok (.iload_n 3, 1) := by decide +kernel
theorem dX11_dataFits_222 : decode cX11_dataFits 222 = .ok (.iconst 1, 1) := by decide +kernel
theorem dX11_dataFits_223 : decode cX11_dataFits 223 = .ok (.if_icmp .lt 7, 3) := by decide +kernel
theorem dX11_dataFits_226 : decode cX11_dataFits 226 = .ok (.iconst 1, 1) := by decide +kernel
theorem dX11_dataFits_227 : decode cX11_dataFits 227 = .ok (.goto 4, 3) := by decide +kernel
theorem dX11_dataFits_230 : decode cX11_dataFits 230 = .ok (.iconst 0, 1) := by decide +kernel
theorem dX11_dataFits_231 : decode cX11_dataFits 231 = .ok (.ireturn, 1) := by decide +kernel
theorem dX11_dataFits_232 : decode cX11_dataFits 232 = .ok (.iload_n 2, 1) := by decide +kernel
theorem dX11_dataFits_233 : decode cX11_dataFits 233 = .ok (.ifCond .eq 9, 3) := by decide +kernel
theorem dX11_dataFits_236 : decode cX11_dataFits 236 = .ok (.iload_n 3, 1) := by decide +kernel
theorem dX11_dataFits_237 : decode cX11_dataFits 237 = .ok (.bipush 16, 2) := by decide +kernel
theorem dX11_dataFits_239 : decode cX11_dataFits 239 = .ok (.if_icmp .lt 7, 3) := by decide +kernel
theorem dX11_dataFits_242 : decode cX11_dataFits 242 = .ok (.iconst 1, 1) := by decide +kernel
theorem dX11_dataFits_243 : decode cX11_dataFits 243 = .ok (.goto 4, 3) := by decide +kernel
theorem dX11_dataFits_246 : decode cX11_dataFits 246 = .ok (.iconst 0, 1) := by decide +kernel
theorem dX11_dataFits_247 : decode cX11_dataFits 247 = .ok (.ireturn, 1) := by decide +kernel
theorem dX11_dataFits_248 : decode cX11_dataFits 248 = .ok (.iconst 1, 1) := by decide +kernel
theorem dX11_dataFits_249 : decode cX11_dataFits 249 = .ok (.ireturn, 1) := by decide +kernel
theorem dX11_expandKeys_0 : decode cX11_expandKeys 0 = .ok (.iload_n 1, 1) := by decide +kernel
theorem dX11_expandKeys_1 : decode cX11_expandKeys 1 = .ok (.invokestatic 225, 3) := by decide +kernel
theorem dX11_expandKeys_4 : decode cX11_expandKeys 4 = .ok (.ifCond .eq 42, 3) := by decide +kernel
theorem dX11_expandKeys_7 : decode cX11_expandKeys 7 = .ok (.aload_n 0, 1) := by decide +kernel
theorem dX11_expandKeys_8 : decode cX11_expandKeys 8 = .ok (.getfield 14, 3) := by decide +kernel
theorem dX11_expandKeys_11 : decode cX11_expandKeys 11 = .ok (.getfield 133, 3) := by decide +kernel
theorem dX11_expandKeys_14 : decode cX11_expandKeys 14 = .ok (.iconst 1, 1) := by decide +kernel
theorem dX11_expandKeys_15 : decode cX11_expandKeys 15 = .ok (.ishr, 1) := by decide +kernel
theorem dX11_expandKeys_16 : decode cX11_expandKeys 16 = .ok (.istore_n 2, 1) := by decide +kernel
theorem dX11_expandKeys_17 : decode cX11_expandKeys 17 = .ok (.aload_n 0, 1) := by decide +kernel
theorem dX11_expandKeys_18 : decode cX11_expandKeys 18 = .ok (.getfield 43, 3) := by decide +kernel
theorem dX11_expandKeys_21 : decode cX11_expandKeys 21 = .ok (.aload_n 0, 1) := by decide +kernel
theorem dX11_expandKeys_22 : decode cX11_expandKeys 22 = .ok (.getfield 14, 3) := by decide +kernel
theorem dX11_expandKeys_25 : decode cX11_expandKeys 25 = .ok (.iconst 0, 1) := by decide +kernel
theorem dX11_expandKeys_26 : decode cX11_expandKeys 26 = .ok (.iload_n 2, 1) := by decide +kernel
theorem dX11_expandKeys_27 : decode cX11_expandKeys 27 = .ok (.invokevirtual 203, 3) := by decide +kernel
theorem dX11_expandKeys_30 : decode cX11_expandKeys 30 = .ok (.aload_n 0, 1) := by decide +kernel
theorem dX11_expandKeys_31 : decode cX11_expandKeys 31 = .ok (.getfield 47, 3) := by decide +kernel
theorem dX11_expandKeys_34 : decode cX11_expandKeys 34 = .ok (.aload_n 0, 1) := by decide +kernel
theorem dX11_expandKeys_35 : decode cX11_expandKeys 35 = .ok (.getfield 14, 3) := by decide +kernel
theorem dX11_expandKeys_38 : decode cX11_expandKeys 38 = .ok (.iload_n 2, 1) := by decide +kernel
theorem dX11_expandKeys_39 : decode cX11_expandKeys 39 = .ok (.iload_n 2, 1) := by decide +kernel
theorem dX11_expandKeys_40 : decode cX11_expandKeys 40 = .ok (.invokevirtual 203, 3) := by decide +kernel
theorem dX11_expandKeys_43 : decode cX11_expandKeys 43 = .ok (.goto 22, 3) := by decide +kernel
theorem dX11_expandKeys_46 : decode cX11_expandKeys 46 = .ok (.aload_n 0, 1) := by decide +kernel
theorem dX11_expandKeys_47 : decode cX11_expandKeys 47 = .ok (.getfield 43, 3) := by decide +kernel
theorem dX11_expandKeys_50 : decode cX11_expandKeys 50 = .ok (.aload_n 0, 1) := by decide +kernel
theorem dX11_expandKeys_51 : decode cX11_expandKeys 51 = .ok (.getfield 14, 3) := by decide +kernel
theorem dX11_expandKeys_54 : decode cX11_expandKeys 54 = .ok (.iconst 0, 1) := by decide +kernel
theorem dX11_expandKeys_55 : decode cX11_expandKeys 55 = .ok (.aload_n 0, 1) := by decide +kernel
theorem dX11_expandKeys_56 : decode cX11_expandKeys 56 = .ok (.getfield 14, 3) := by decide +kernel
theorem dX11_expandKeys_59 : decode cX11_expandKeys 59 = .ok (.getfield 133, 3) := by decide +kernel
theorem dX11_expandKeys_62 : decode cX11_expandKeys 62 = .ok (.invokevirtual 203, 3) := by decide +kernel
theorem dX11_expandKeys_65 : decode cX11_expandKeys 65 = .ok (.return_, 1) := by decide +kernel
theorem dX11_publish_0 : decode cX11_publish 0 = .ok (.aload_n 0, 1) := by decide +kernel
theorem dX11_publish_1 : decode cX11_publish 1 = .ok (.getfield 30, 3) := by decide +kernel
theorem dX11_publish_4 : decode cX11_publish 4 = .ok (.astore_n 1, 1) := by decide +kernel
theorem dX11_publish_5 : decode cX11_publish 5 = .ok (.aload_n 0, 1) := by decide +kernel
theorem dX11_publish_6 : decode cX11_publish 6 = .ok (.aload_n 0, 1) := by decide +kernel
theorem dX11_publish_7 : decode cX11_publish 7 = .ok (.getfield 33, 3) := by decide +kernel
theorem dX11_publish_10 : decode cX11_publish 10 = .ok (.putfield 30, 3) := by decide +kernel
theorem dX11_publish_13 : decode cX11_publish 13 = .ok (.aload_n 0, 1) := by decide +kernel
theorem dX11_publish_14 : decode cX11_publish 14 = .ok (.aload_n 1, 1) := by decide +kernel
theorem dX11_publish_15 : decode cX11_publish 15 = .ok (.putfield 33, 3) := by decide +kernel
theorem dX11_publish_18 : decode cX11_publish 18 = .ok (.aload_n 0, 1) := by decide +kernel
theorem dX11_publish_19 : decode cX11_publish 19 = .ok (.getfield 30, 3) := by decide +kernel
theorem dX11_publish_22 : decode cX11_publish 22 = .ok (.getfield 133, 3) := by decide +kernel
theorem dX11_publish_25 : decode cX11_publish 25 = .ok (.ireturn, 1) := by decide +kernel
theorem dX11_lockBare_0 : decode cX11_lockBare 0 = .ok (.iload_n 1, 1) := by decide +kernel
theorem dX11_lockBare_1 : decode cX11_lockBare 1 = .ok (.tableswitch 185 1 11 #[59, 77, 95, 113, 185, 185, 185, 185, 131, 149, 167], 59) := by decide +kernel
theorem dX11_lockBare_60 : decode cX11_lockBare 60 = .ok (.aload_n 0, 1) := by decide +kernel
theorem dX11_lockBare_61 : decode cX11_lockBare 61 = .ok (.getfield 55, 3) := by decide +kernel
theorem dX11_lockBare_64 : decode cX11_lockBare 64 = .ok (.aload_n 0, 1) := by decide +kernel
theorem dX11_lockBare_65 : decode cX11_lockBare 65 = .ok (.getfield 18, 3) := by decide +kernel
theorem dX11_lockBare_68 : decode cX11_lockBare 68 = .ok (.aload_n 0, 1) := by decide +kernel
theorem dX11_lockBare_69 : decode cX11_lockBare 69 = .ok (.getfield 33, 3) := by decide +kernel
theorem dX11_lockBare_72 : decode cX11_lockBare 72 = .ok (.invokevirtual 235, 3) := by decide +kernel
theorem dX11_lockBare_75 : decode cX11_lockBare 75 = .ok (.goto 117, 3) := by decide +kernel
theorem dX11_lockBare_78 : decode cX11_lockBare 78 = .ok (.aload_n 0, 1) := by decide +kernel
theorem dX11_lockBare_79 : decode cX11_lockBare 79 = .ok (.getfield 55, 3) := by decide +kernel
theorem dX11_lockBare_82 : decode cX11_lockBare 82 = .ok (.aload_n 0, 1) := by decide +kernel
theorem dX11_lockBare_83 : decode cX11_lockBare 83 = .ok (.getfield 18, 3) := by decide +kernel
theorem dX11_lockBare_86 : decode cX11_lockBare 86 = .ok (.aload_n 0, 1) := by decide +kernel
theorem dX11_lockBare_87 : decode cX11_lockBare 87 = .ok (.getfield 33, 3) := by decide +kernel
theorem dX11_lockBare_90 : decode cX11_lockBare 90 = .ok (.invokevirtual 238, 3) := by decide +kernel
theorem dX11_lockBare_93 : decode cX11_lockBare 93 = .ok (.goto 99, 3) := by decide +kernel
theorem dX11_lockBare_96 : decode cX11_lockBare 96 = .ok (.aload_n 0, 1) := by decide +kernel
theorem dX11_lockBare_97 : decode cX11_lockBare 97 = .ok (.getfield 55, 3) := by decide +kernel
theorem dX11_lockBare_100 : decode cX11_lockBare 100 = .ok (.aload_n 0, 1) := by decide +kernel
theorem dX11_lockBare_101 : decode cX11_lockBare 101 = .ok (.getfield 18, 3) := by decide +kernel
theorem dX11_lockBare_104 : decode cX11_lockBare 104 = .ok (.aload_n 0, 1) := by decide +kernel
theorem dX11_lockBare_105 : decode cX11_lockBare 105 = .ok (.getfield 33, 3) := by decide +kernel
theorem dX11_lockBare_108 : decode cX11_lockBare 108 = .ok (.invokevirtual 241, 3) := by decide +kernel
theorem dX11_lockBare_111 : decode cX11_lockBare 111 = .ok (.goto 81, 3) := by decide +kernel
theorem dX11_lockBare_114 : decode cX11_lockBare 114 = .ok (.aload_n 0, 1) := by decide +kernel
theorem dX11_lockBare_115 : decode cX11_lockBare 115 = .ok (.getfield 55, 3) := by decide +kernel
theorem dX11_lockBare_118 : decode cX11_lockBare 118 = .ok (.aload_n 0, 1) := by decide +kernel
theorem dX11_lockBare_119 : decode cX11_lockBare 119 = .ok (.getfield 18, 3) := by decide +kernel
theorem dX11_lockBare_122 : decode cX11_lockBare 122 = .ok (.aload_n 0, 1) := by decide +kernel
theorem dX11_lockBare_123 : decode cX11_lockBare 123 = .ok (.getfield 33, 3) := by decide +kernel
theorem dX11_lockBare_126 : decode cX11_lockBare 126 = .ok (.invokevirtual 244, 3) := by decide +kernel
theorem dX11_lockBare_129 : decode cX11_lockBare 129 = .ok (.goto 63, 3) := by decide +kernel
theorem dX11_lockBare_132 : decode cX11_lockBare 132 = .ok (.aload_n 0, 1) := by decide +kernel
theorem dX11_lockBare_133 : decode cX11_lockBare 133 = .ok (.getfield 73, 3) := by decide +kernel
theorem dX11_lockBare_136 : decode cX11_lockBare 136 = .ok (.aload_n 0, 1) := by decide +kernel
theorem dX11_lockBare_137 : decode cX11_lockBare 137 = .ok (.getfield 18, 3) := by decide +kernel
theorem dX11_lockBare_140 : decode cX11_lockBare 140 = .ok (.aload_n 0, 1) := by decide +kernel
theorem dX11_lockBare_141 : decode cX11_lockBare 141 = .ok (.getfield 33, 3) := by decide +kernel
theorem dX11_lockBare_144 : decode cX11_lockBare 144 = .ok (.invokevirtual 247, 3) := by decide +kernel
theorem dX11_lockBare_147 : decode cX11_lockBare 147 = .ok (.goto 45, 3) := by decide +kernel
theorem dX11_lockBare_150 : decode cX11_lockBare 150 = .ok (.aload_n 0, 1) := by decide +kernel
theorem dX11_lockBare_151 : decode cX11_lockBare 151 = .ok (.getfield 82, 3) := by decide +kernel
theorem dX11_lockBare_154 : decode cX11_lockBare 154 = .ok (.aload_n 0, 1) := by decide +kernel
theorem dX11_lockBare_155 : decode cX11_lockBare 155 = .ok (.getfield 18, 3) := by decide +kernel
theorem dX11_lockBare_158 : decode cX11_lockBare 158 = .ok (.aload_n 0, 1) := by decide +kernel
theorem dX11_lockBare_159 : decode cX11_lockBare 159 = .ok (.getfield 33, 3) := by decide +kernel
theorem dX11_lockBare_162 : decode cX11_lockBare 162 = .ok (.invokevirtual 250, 3) := by decide +kernel
theorem dX11_lockBare_165 : decode cX11_lockBare 165 = .ok (.goto 27, 3) := by decide +kernel
theorem dX11_lockBare_168 : decode cX11_lockBare 168 = .ok (.aload_n 0, 1) := by decide +kernel
theorem dX11_lockBare_169 : decode cX11_lockBare 169 = .ok (.getfield 82, 3) := by decide +kernel
theorem dX11_lockBare_172 : decode cX11_lockBare 172 = .ok (.aload_n 0, 1) := by decide +kernel
theorem dX11_lockBare_173 : decode cX11_lockBare 173 = .ok (.getfield 18, 3) := by decide +kernel
theorem dX11_lockBare_176 : decode cX11_lockBare 176 = .ok (.aload_n 0, 1) := by decide +kernel
theorem dX11_lockBare_177 : decode cX11_lockBare 177 = .ok (.getfield 33, 3) := by decide +kernel
theorem dX11_lockBare_180 : decode cX11_lockBare 180 = .ok (.invokevirtual 253, 3) := by decide +kernel
theorem dX11_lockBare_183 : decode cX11_lockBare 183 = .ok (.goto 9, 3) := by decide +kernel
theorem dX11_lockBare_186 : decode cX11_lockBare 186 = .ok (.aload_n 0, 1) := by decide +kernel
theorem dX11_lockBare_187 : decode cX11_lockBare 187 = .ok (.iload_n 1, 1) := by decide +kernel
theorem dX11_lockBare_188 : decode cX11_lockBare 188 = .ok (.iconst 0, 1) := by decide +kernel
theorem dX11_lockBare_189 : decode cX11_lockBare 189 = .ok (.invokevirtual 256, 3) := by decide +kernel
theorem dX11_lockBare_192 : decode cX11_lockBare 192 = .ok (.return_, 1) := by decide +kernel
theorem dX11_unlockBare_0 : decode cX11_unlockBare 0 = .ok (.iload_n 1, 1) := by decide +kernel
theorem dX11_unlockBare_1 : decode cX11_unlockBare 1 = .ok (.tableswitch 175 1 11 #[59, 76, 93, 109, 175, 175, 175, 175, 126, 143, 159], 59) := by decide +kernel
theorem dX11_unlockBare_60 : decode cX11_unlockBare 60 = .ok (.aload_n 0, 1) := by decide +kernel
theorem dX11_unlockBare_61 : decode cX11_unlockBare 61 = .ok (.getfield 55, 3) := by decide +kernel
theorem dX11_unlockBare_64 : decode cX11_unlockBare 64 = .ok (.aload_n 0, 1) := by decide +kernel
theorem dX11_unlockBare_65 : decode cX11_unlockBare 65 = .ok (.getfield 18, 3) := by decide +kernel
theorem dX11_unlockBare_68 : decode cX11_unlockBare 68 = .ok (.aload_n 0, 1) := by decide +kernel
theorem dX11_unlockBare_69 : decode cX11_unlockBare 69 = .ok (.getfield 33, 3) := by decide +kernel
theorem dX11_unlockBare_72 : decode cX11_unlockBare 72 = .ok (.invokevirtual 260, 3) := by decide +kernel
theorem dX11_unlockBare_75 : decode cX11_unlockBare 75 = .ok (.iconst 1, 1) := by decide +kernel
theorem dX11_unlockBare_76 : decode cX11_unlockBare 76 = .ok (.ireturn, 1) := by decide +kernel
theorem dX11_unlockBare_77 : decode cX11_unlockBare 77 = .ok (.aload_n 0, 1) := by decide +kernel
theorem dX11_unlockBare_78 : decode cX11_unlockBare 78 = .ok (.getfield 55, 3) := by decide +kernel
theorem dX11_unlockBare_81 : decode cX11_unlockBare 81 = .ok (.aload_n 0, 1) := by decide +kernel
theorem dX11_unlockBare_82 : decode cX11_unlockBare 82 = .ok (.getfield 18, 3) := by decide +kernel
theorem dX11_unlockBare_85 : decode cX11_unlockBare 85 = .ok (.aload_n 0, 1) := by decide +kernel
theorem dX11_unlockBare_86 : decode cX11_unlockBare 86 = .ok (.getfield 33, 3) := by decide +kernel
theorem dX11_unlockBare_89 : decode cX11_unlockBare 89 = .ok (.invokevirtual 263, 3) := by decide +kernel
theorem dX11_unlockBare_92 : decode cX11_unlockBare 92 = .ok (.iconst 1, 1) := by decide +kernel
theorem dX11_unlockBare_93 : decode cX11_unlockBare 93 = .ok (.ireturn, 1) := by decide +kernel
theorem dX11_unlockBare_94 : decode cX11_unlockBare 94 = .ok (.aload_n 0, 1) := by decide +kernel
theorem dX11_unlockBare_95 : decode cX11_unlockBare 95 = .ok (.getfield 55, 3) := by decide +kernel
theorem dX11_unlockBare_98 : decode cX11_unlockBare 98 = .ok (.aload_n 0, 1) := by decide +kernel
theorem dX11_unlockBare_99 : decode cX11_unlockBare 99 = .ok (.getfield 18, 3) := by decide +kernel
theorem dX11_unlockBare_102 : decode cX11_unlockBare 102 = .ok (.aload_n 0, 1) := by decide +kernel
theorem dX11_unlockBare_103 : decode cX11_unlockBare 103 = .ok (.getfield 33, 3) := by decide +kernel
theorem dX11_unlockBare_106 : decode cX11_unlockBare 106 = .ok (.invokevirtual 266, 3) := by decide +kernel
theorem dX11_unlockBare_109 : decode cX11_unlockBare 109 = .ok (.ireturn, 1) := by decide +kernel
theorem dX11_unlockBare_110 : decode cX11_unlockBare 110 = .ok (.aload_n 0, 1) := by decide +kernel
theorem dX11_unlockBare_111 : decode cX11_unlockBare 111 = .ok (.getfield 55, 3) := by decide +kernel
theorem dX11_unlockBare_114 : decode cX11_unlockBare 114 = .ok (.aload_n 0, 1) := by decide +kernel
theorem dX11_unlockBare_115 : decode cX11_unlockBare 115 = .ok (.getfield 18, 3) := by decide +kernel
theorem dX11_unlockBare_118 : decode cX11_unlockBare 118 = .ok (.aload_n 0, 1) := by decide +kernel
theorem dX11_unlockBare_119 : decode cX11_unlockBare 119 = .ok (.getfield 33, 3) := by decide +kernel
theorem dX11_unlockBare_122 : decode cX11_unlockBare 122 = .ok (.invokevirtual 270, 3) := by decide +kernel
theorem dX11_unlockBare_125 : decode cX11_unlockBare 125 = .ok (.iconst 1, 1) := by decide +kernel
theorem dX11_unlockBare_126 : decode cX11_unlockBare 126 = .ok (.ireturn, 1) := by decide +kernel
theorem dX11_unlockBare_127 : decode cX11_unlockBare 127 = .ok (.aload_n 0, 1) := by decide +kernel
theorem dX11_unlockBare_128 : decode cX11_unlockBare 128 = .ok (.getfield 73, 3) := by decide +kernel
theorem dX11_unlockBare_131 : decode cX11_unlockBare 131 = .ok (.aload_n 0, 1) := by decide +kernel
theorem dX11_unlockBare_132 : decode cX11_unlockBare 132 = .ok (.getfield 18, 3) := by decide +kernel
theorem dX11_unlockBare_135 : decode cX11_unlockBare 135 = .ok (.aload_n 0, 1) := by decide +kernel
theorem dX11_unlockBare_136 : decode cX11_unlockBare 136 = .ok (.getfield 33, 3) := by decide +kernel
theorem dX11_unlockBare_139 : decode cX11_unlockBare 139 = .ok (.invokevirtual 273, 3) := by decide +kernel
theorem dX11_unlockBare_142 : decode cX11_unlockBare 142 = .ok (.iconst 1, 1) := by decide +kernel
theorem dX11_unlockBare_143 : decode cX11_unlockBare 143 = .ok (.ireturn, 1) := by decide +kernel
theorem dX11_unlockBare_144 : decode cX11_unlockBare 144 = .ok (.aload_n 0, 1) := by decide +kernel
theorem dX11_unlockBare_145 : decode cX11_unlockBare 145 = .ok (.getfield 82, 3) := by decide +kernel
theorem dX11_unlockBare_148 : decode cX11_unlockBare 148 = .ok (.aload_n 0, 1) := by decide +kernel
theorem dX11_unlockBare_149 : decode cX11_unlockBare 149 = .ok (.getfield 18, 3) := by decide +kernel
theorem dX11_unlockBare_152 : decode cX11_unlockBare 152 = .ok (.aload_n 0, 1) := by decide +kernel
theorem dX11_unlockBare_153 : decode cX11_unlockBare 153 = .ok (.getfield 33, 3) := by decide +kernel
theorem dX11_unlockBare_156 : decode cX11_unlockBare 156 = .ok (.invokevirtual 276, 3) := by decide +kernel
theorem dX11_unlockBare_159 : decode cX11_unlockBare 159 = .ok (.ireturn, 1) := by decide +kernel
theorem dX11_unlockBare_160 : decode cX11_unlockBare 160 = .ok (.aload_n 0, 1) := by decide +kernel
theorem dX11_unlockBare_161 : decode cX11_unlockBare 161 = .ok (.getfield 82, 3) := by decide +kernel
theorem dX11_unlockBare_164 : decode cX11_unlockBare 164 = .ok (.aload_n 0, 1) := by decide +kernel
theorem dX11_unlockBare_165 : decode cX11_unlockBare 165 = .ok (.getfield 18, 3) := by decide +kernel
theorem dX11_unlockBare_168 : decode cX11_unlockBare 168 = .ok (.aload_n 0, 1) := by decide +kernel
theorem dX11_unlockBare_169 : decode cX11_unlockBare 169 = .ok (.getfield 33, 3) := by decide +kernel
theorem dX11_unlockBare_172 : decode cX11_unlockBare 172 = .ok (.invokevirtual 279, 3) := by decide +kernel
theorem dX11_unlockBare_175 : decode cX11_unlockBare 175 = .ok (.ireturn, 1) := by decide +kernel
theorem dX11_unlockBare_176 : decode cX11_unlockBare 176 = .ok (.aload_n 0, 1) := by decide +kernel
theorem dX11_unlockBare_177 : decode cX11_unlockBare 177 = .ok (.iload_n 1, 1) := by decide +kernel
theorem dX11_unlockBare_178 : decode cX11_unlockBare 178 = .ok (.iconst 1, 1) := by decide +kernel
theorem dX11_unlockBare_179 : decode cX11_unlockBare 179 = .ok (.invokevirtual 256, 3) := by decide +kernel
theorem dX11_unlockBare_182 : decode cX11_unlockBare 182 = .ok (.iconst 1, 1) := by decide +kernel
theorem dX11_unlockBare_183 : decode cX11_unlockBare 183 = .ok (.ireturn, 1) := by decide +kernel
theorem dX11_runStream_0 : decode cX11_runStream 0 = .ok (.iload_n 1, 1) := by decide +kernel
theorem dX11_runStream_1 : decode cX11_runStream 1 = .ok (.iconst 5, 1) := by decide +kernel
theorem dX11_runStream_2 : decode cX11_runStream 2 = .ok (.if_icmp .ne 22, 3) := by decide +kernel
theorem dX11_runStream_5 : decode cX11_runStream 5 = .ok (.aload_n 0, 1) := by decide +kernel
theorem dX11_runStream_6 : decode cX11_runStream 6 = .ok (.getfield 64, 3) := by decide +kernel
theorem dX11_runStream_9 : decode cX11_runStream 9 = .ok (.aload_n 0, 1) := by decide +kernel
theorem dX11_runStream_10 : decode cX11_runStream 10 = .ok (.getfield 18, 3) := by decide +kernel
theorem dX11_runStream_13 : decode cX11_runStream 13 = .ok (.iload_n 2, 1) := by decide +kernel
theorem dX11_runStream_14 : decode cX11_runStream 14 = .ok (.aload_n 0, 1) := by decide +kernel
theorem dX11_runStream_15 : decode cX11_runStream 15 = .ok (.getfield 33, 3) := by decide +kernel
theorem dX11_runStream_18 : decode cX11_runStream 18 = .ok (.invokevirtual 282, 3) := by decide +kernel
theorem dX11_runStream_21 : decode cX11_runStream 21 = .ok (.goto 87, 3) := by decide +kernel
theorem dX11_runStream_24 : decode cX11_runStream 24 = .ok (.iload_n 1, 1) := by decide +kernel
theorem dX11_runStream_25 : decode cX11_runStream 25 = .ok (.bipush 6, 2) := by decide +kernel
theorem dX11_runStream_27 : decode cX11_runStream 27 = .ok (.if_icmp .ne 22, 3) := by decide +kernel
theorem dX11_runStream_30 : decode cX11_runStream 30 = .ok (.aload_n 0, 1) := by decide +kernel
theorem dX11_runStream_31 : decode cX11_runStream 31 = .ok (.getfield 64, 3) := by decide +kernel
theorem dX11_runStream_34 : decode cX11_runStream 34 = .ok (.aload_n 0, 1) := by decide +kernel
theorem dX11_runStream_35 : decode cX11_runStream 35 = .ok (.getfield 18, 3) := by decide +kernel
theorem dX11_runStream_38 : decode cX11_runStream 38 = .ok (.iload_n 2, 1) := by decide +kernel
theorem dX11_runStream_39 : decode cX11_runStream 39 = .ok (.aload_n 0, 1) := by decide +kernel
theorem dX11_runStream_40 : decode cX11_runStream 40 = .ok (.getfield 33, 3) := by decide +kernel
theorem dX11_runStream_43 : decode cX11_runStream 43 = .ok (.invokevirtual 286, 3) := by decide +kernel
theorem dX11_runStream_46 : decode cX11_runStream 46 = .ok (.goto 62, 3) := by decide +kernel
theorem dX11_runStream_49 : decode cX11_runStream 49 = .ok (.iload_n 1, 1) := by decide +kernel
theorem dX11_runStream_50 : decode cX11_runStream 50 = .ok (.bipush 7, 2) := by decide +kernel
theorem dX11_runStream_52 : decode cX11_runStream 52 = .ok (.if_icmp .ne 21, 3) := by decide +kernel
theorem dX11_runStream_55 : decode cX11_runStream 55 = .ok (.aload_n 0, 1) := by decide +kernel
theorem dX11_runStream_56 : decode cX11_runStream 56 = .ok (.getfield 64, 3) := by decide +kernel
theorem dX11_runStream_59 : decode cX11_runStream 59 = .ok (.aload_n 0, 1) := by decide +kernel
theorem dX11_runStream_60 : decode cX11_runStream 60 = .ok (.getfield 18, 3) := by decide +kernel
theorem dX11_runStream_63 : decode cX11_runStream 63 = .ok (.aload_n 0, 1) := by decide +kernel
theorem dX11_runStream_64 : decode cX11_runStream 64 = .ok (.getfield 33, 3) := by decide +kernel
theorem dX11_runStream_67 : decode cX11_runStream 67 = .ok (.invokevirtual 289, 3) := by decide +kernel
theorem dX11_runStream_70 : decode cX11_runStream 70 = .ok (.goto 38, 3) := by decide +kernel
theorem dX11_runStream_73 : decode cX11_runStream 73 = .ok (.aload_n 0, 1) := by decide +kernel
theorem dX11_runStream_74 : decode cX11_runStream 74 = .ok (.getfield 116, 3) := by decide +kernel
theorem dX11_runStream_77 : decode cX11_runStream 77 = .ok (.aload_n 0, 1) := by decide +kernel
theorem dX11_runStream_78 : decode cX11_runStream 78 = .ok (.getfield 21, 3) := by decide +kernel
theorem dX11_runStream_81 : decode cX11_runStream 81 = .ok (.iconst 0, 1) := by decide +kernel
theorem dX11_runStream_82 : decode cX11_runStream 82 = .ok (.invokevirtual 182, 3) := by decide +kernel
theorem dX11_runStream_85 : decode cX11_runStream 85 = .ok (.aload_n 0, 1) := by decide +kernel
theorem dX11_runStream_86 : decode cX11_runStream 86 = .ok (.getfield 64, 3) := by decide +kernel
theorem dX11_runStream_89 : decode cX11_runStream 89 = .ok (.aload_n 0, 1) := by decide +kernel
theorem dX11_runStream_90 : decode cX11_runStream 90 = .ok (.getfield 43, 3) := by decide +kernel
theorem dX11_runStream_93 : decode cX11_runStream 93 = .ok (.aload_n 0, 1) := by decide +kernel
theorem dX11_runStream_94 : decode cX11_runStream 94 = .ok (.getfield 116, 3) := by decide +kernel
theorem dX11_runStream_97 : decode cX11_runStream 97 = .ok (.aload_n 0, 1) := by decide +kernel
theorem dX11_runStream_98 : decode cX11_runStream 98 = .ok (.getfield 18, 3) := by decide +kernel
theorem dX11_runStream_101 : decode cX11_runStream 101 = .ok (.aload_n 0, 1) := by decide +kernel
theorem dX11_runStream_102 : decode cX11_runStream 102 = .ok (.getfield 33, 3) := by decide +kernel
theorem dX11_runStream_105 : decode cX11_runStream 105 = .ok (.invokevirtual 292, 3) := by decide +kernel
theorem dX11_runStream_108 : decode cX11_runStream 108 = .ok (.return_, 1) := by decide +kernel
theorem dX11_runTagged_0 : decode cX11_runTagged 0 = .ok (.iload_n 1, 1) := by decide +kernel
theorem dX11_runTagged_1 : decode cX11_runTagged 1 = .ok (.bipush 12, 2) := by decide +kernel
theorem dX11_runTagged_3 : decode cX11_runTagged 3 = .ok (.if_icmp .ne 23, 3) := by decide +kernel
theorem dX11_runTagged_6 : decode cX11_runTagged 6 = .ok (.aload_n 0, 1) := by decide +kernel
theorem dX11_runTagged_7 : decode cX11_runTagged 7 = .ok (.getfield 89, 3) := by decide +kernel
theorem dX11_runTagged_10 : decode cX11_runTagged 10 = .ok (.aload_n 2, 1) := by decide +kernel
theorem dX11_runTagged_11 : decode cX11_runTagged 11 = .ok (.iload_n 3, 1) := by decide +kernel
theorem dX11_runTagged_12 : decode cX11_runTagged 12 = .ok (.aload_n 0, 1) := by decide +kernel
theorem dX11_runTagged_13 : decode cX11_runTagged 13 = .ok (.getfield 33, 3) := by decide +kernel
theorem dX11_runTagged_16 : decode cX11_runTagged 16 = .ok (.aload_n 0, 1) := by decide +kernel
theorem dX11_runTagged_17 : decode cX11_runTagged 17 = .ok (.getfield 112, 3) := by decide +kernel
theorem dX11_runTagged_20 : decode cX11_runTagged 20 = .ok (.invokevirtual 296, 3) := by decide +kernel
theorem dX11_runTagged_23 : decode cX11_runTagged 23 = .ok (.goto 80, 3) := by decide +kernel
theorem dX11_runTagged_26 : decode cX11_runTagged 26 = .ok (.iload_n 1, 1) := by decide +kernel
theorem dX11_runTagged_27 : decode cX11_runTagged 27 = .ok (.bipush 13, 2) := by decide +kernel
theorem dX11_runTagged_29 : decode cX11_runTagged 29 = .ok (.if_icmp .ne 27, 3) := by decide +kernel
theorem dX11_runTagged_32 : decode cX11_runTagged 32 = .ok (.aload_n 0, 1) := by decide +kernel
theorem dX11_runTagged_33 : decode cX11_runTagged 33 = .ok (.getfield 98, 3) := by decide +kernel
theorem dX11_runTagged_36 : decode cX11_runTagged 36 = .ok (.aload_n 2, 1) := by decide +kernel
theorem dX11_runTagged_37 : decode cX11_runTagged 37 = .ok (.iload_n 3, 1) := by decide +kernel
theorem dX11_runTagged_38 : decode cX11_runTagged 38 = .ok (.aload_n 0, 1) := by decide +kernel
theorem dX11_runTagged_39 : decode cX11_runTagged 39 = .ok (.getfield 36, 3) := by decide +kernel
theorem dX11_runTagged_42 : decode cX11_runTagged 42 = .ok (.aload_n 0, 1) := by decide +kernel
theorem dX11_runTagged_43 : decode cX11_runTagged 43 = .ok (.getfield 33, 3) := by decide +kernel
theorem dX11_runTagged_46 : decode cX11_runTagged 46 = .ok (.aload_n 0, 1) := by decide +kernel
theorem dX11_runTagged_47 : decode cX11_runTagged 47 = .ok (.getfield 112, 3) := by decide +kernel
theorem dX11_runTagged_50 : decode cX11_runTagged 50 = .ok (.invokevirtual 300, 3) := by decide +kernel
theorem dX11_runTagged_53 : decode cX11_runTagged 53 = .ok (.goto 50, 3) := by decide +kernel
theorem dX11_runTagged_56 : decode cX11_runTagged 56 = .ok (.iload_n 1, 1) := by decide +kernel
theorem dX11_runTagged_57 : decode cX11_runTagged 57 = .ok (.bipush 14, 2) := by decide +kernel
theorem dX11_runTagged_59 : decode cX11_runTagged 59 = .ok (.if_icmp .ne 23, 3) := by decide +kernel
theorem dX11_runTagged_62 : decode cX11_runTagged 62 = .ok (.aload_n 0, 1) := by decide +kernel
theorem dX11_runTagged_63 : decode cX11_runTagged 63 = .ok (.getfield 98, 3) := by decide +kernel
theorem dX11_runTagged_66 : decode cX11_runTagged 66 = .ok (.aload_n 2, 1) := by decide +kernel
theorem dX11_runTagged_67 : decode cX11_runTagged 67 = .ok (.iload_n 3, 1) := by decide +kernel
theorem dX11_runTagged_68 : decode cX11_runTagged 68 = .ok (.aload_n 0, 1) := by decide +kernel
theorem dX11_runTagged_69 : decode cX11_runTagged 69 = .ok (.getfield 33, 3) := by decide +kernel
theorem dX11_runTagged_72 : decode cX11_runTagged 72 = .ok (.aload_n 0, 1) := by decide +kernel
theorem dX11_runTagged_73 : decode cX11_runTagged 73 = .ok (.getfield 112, 3) := by decide +kernel
theorem dX11_runTagged_76 : decode cX11_runTagged 76 = .ok (.invokevirtual 304, 3) := by decide +kernel
theorem dX11_runTagged_79 : decode cX11_runTagged 79 = .ok (.goto 24, 3) := by decide +kernel
theorem dX11_runTagged_82 : decode cX11_runTagged 82 = .ok (.aload_n 0, 1) := by decide +kernel
theorem dX11_runTagged_83 : decode cX11_runTagged 83 = .ok (.getfield 105, 3) := by decide +kernel
theorem dX11_runTagged_86 : decode cX11_runTagged 86 = .ok (.aload_n 2, 1) := by decide +kernel
theorem dX11_runTagged_87 : decode cX11_runTagged 87 = .ok (.iload_n 3, 1) := by decide +kernel
theorem dX11_runTagged_88 : decode cX11_runTagged 88 = .ok (.aload_n 0, 1) := by decide +kernel
theorem dX11_runTagged_89 : decode cX11_runTagged 89 = .ok (.getfield 36, 3) := by decide +kernel
theorem dX11_runTagged_92 : decode cX11_runTagged 92 = .ok (.aload_n 0, 1) := by decide +kernel
theorem dX11_runTagged_93 : decode cX11_runTagged 93 = .ok (.getfield 33, 3) := by decide +kernel
theorem dX11_runTagged_96 : decode cX11_runTagged 96 = .ok (.aload_n 0, 1) := by decide +kernel
theorem dX11_runTagged_97 : decode cX11_runTagged 97 = .ok (.getfield 112, 3) := by decide +kernel
theorem dX11_runTagged_100 : decode cX11_runTagged 100 = .ok (.invokevirtual 307, 3) := by decide +kernel
theorem dX11_runTagged_103 : decode cX11_runTagged 103 = .ok (.return_, 1) := by decide +kernel

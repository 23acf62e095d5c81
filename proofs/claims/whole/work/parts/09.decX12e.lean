theorem dX12_offsets_12 : decode cX12_offsets 12 = .ok (.aload_n 0, 1) := by decide +kernel
theorem dX12_offsets_13 : decode cX12_offsets 13 = .ok (.getfield 65, 3) := by decide +kernel
theorem dX12_offsets_16 : decode cX12_offsets 16 = .ok (.iconst 0, 1) := by decide +kernel
theorem dX12_offsets_17 : decode cX12_offsets 17 = .ok (.bipush 16, 2) := by decide +kernel
theorem dX12_offsets_19 : decode cX12_offsets 19 = .ok (.invokestatic 164, 3) := by decide +kernel
theorem dX12_offsets_22 : decode cX12_offsets 22 = .ok (.iload_n 2, 1) := by decide +kernel
theorem dX12_offsets_23 : decode cX12_offsets 23 = .ok (.bipush 16, 2) := by decide +kernel
theorem dX12_offsets_25 : decode cX12_offsets 25 = .ok (.idiv, 1) := by decide +kernel
theorem dX12_offsets_26 : decode cX12_offsets 26 = .ok (.istore_n 3, 1) := by decide +kernel
theorem dX12_offsets_27 : decode cX12_offsets 27 = .ok (.iconst 1, 1) := by decide +kernel
theorem dX12_offsets_28 : decode cX12_offsets 28 = .ok (.istore 4, 2) := by decide +kernel
theorem dX12_offsets_30 : decode cX12_offsets 30 = .ok (.iload 4, 2) := by decide +kernel
theorem dX12_offsets_32 : decode cX12_offsets 32 = .ok (.iload_n 3, 1) := by decide +kernel
theorem dX12_offsets_33 : decode cX12_offsets 33 = .ok (.if_icmp .gt 147, 3) := by decide +kernel
theorem dX12_offsets_36 : decode cX12_offsets 36 = .ok (.bipush 16, 2) := by decide +kernel
theorem dX12_offsets_38 : decode cX12_offsets 38 = .ok (.iload 4, 2) := by decide +kernel
theorem dX12_offsets_40 : decode cX12_offsets 40 = .ok (.iconst 1, 1) := by decide +kernel
theorem dX12_offsets_41 : decode cX12_offsets 41 = .ok (.isub, 1) := by decide +kernel
theorem dX12_offsets_42 : decode cX12_offsets 42 = .ok (.imul, 1) := by decide +kernel
theorem dX12_offsets_43 : decode cX12_offsets 43 = .ok (.istore 5, 2) := by decide +kernel
theorem dX12_offsets_45 : decode cX12_offsets 45 = .ok (.aload_n 0, 1) := by decide +kernel
theorem dX12_offsets_46 : decode cX12_offsets 46 = .ok (.getfield 89, 3) := by decide +kernel
theorem dX12_offsets_49 : decode cX12_offsets 49 = .ok (.bipush 16, 2) := by decide +kernel
theorem dX12_offsets_51 : decode cX12_offsets 51 = .ok (.iconst 2, 1) := by decide +kernel
theorem dX12_offsets_52 : decode cX12_offsets 52 = .ok (.iload 4, 2) := by decide +kernel
theorem dX12_offsets_54 : decode cX12_offsets 54 = .ok (.invokestatic 223, 3) := by decide +kernel
theorem dX12_offsets_57 : decode cX12_offsets 57 = .ok (.iadd, 1) := by decide +kernel
theorem dX12_offsets_58 : decode cX12_offsets 58 = .ok (.imul, 1) := by decide +kernel
theorem dX12_offsets_59 : decode cX12_offsets 59 = .ok (.aload_n 0, 1) := by decide +kernel
theorem dX12_offsets_60 : decode cX12_offsets 60 = .ok (.getfield 92, 3) := by decide +kernel
theorem dX12_offsets_63 : decode cX12_offsets 63 = .ok (.iconst 0, 1) := by decide +kernel
theorem dX12_offsets_64 : decode cX12_offsets 64 = .ok (.bipush 16, 2) := by decide +kernel
theorem dX12_offsets_66 : decode cX12_offsets 66 = .ok (.invokestatic 143, 3) := by decide +kernel
theorem dX12_offsets_69 : decode cX12_offsets 69 = .ok (.aload_n 0, 1) := by decide +kernel
theorem dX12_offsets_70 : decode cX12_offsets 70 = .ok (.getfield 41, 3) := by decide +kernel
theorem dX12_offsets_73 : decode cX12_offsets 73 = .ok (.iload 5, 2) := by decide +kernel
theorem dX12_offsets_75 : decode cX12_offsets 75 = .ok (.aload_n 0, 1) := by decide +kernel
theorem dX12_offsets_76 : decode cX12_offsets 76 = .ok (.getfield 44, 3) := by decide +kernel
theorem dX12_offsets_79 : decode cX12_offsets 79 = .ok (.iload 5, 2) := by decide +kernel
theorem dX12_offsets_81 : decode cX12_offsets 81 = .ok (.bipush 16, 2) := by decide +kernel
theorem dX12_offsets_83 : decode cX12_offsets 83 = .ok (.invokestatic 133, 3) := by decide +kernel
theorem dX12_offsets_86 : decode cX12_offsets 86 = .ok (.aload_n 0, 1) := by decide +kernel
theorem dX12_offsets_87 : decode cX12_offsets 87 = .ok (.getfield 92, 3) := by decide +kernel
theorem dX12_offsets_90 : decode cX12_offsets 90 = .ok (.iconst 0, 1) := by decide +kernel
theorem dX12_offsets_91 : decode cX12_offsets 91 = .ok (.aload_n 0, 1) := by decide +kernel
theorem dX12_offsets_92 : decode cX12_offsets 92 = .ok (.getfield 44, 3) := by decide +kernel
theorem dX12_offsets_95 : decode cX12_offsets 95 = .ok (.iload 5, 2) := by decide +kernel
theorem dX12_offsets_97 : decode cX12_offsets 97 = .ok (.bipush 16, 2) := by decide +kernel
theorem dX12_offsets_99 : decode cX12_offsets 99 = .ok (.invokestatic 143, 3) := by decide +kernel
theorem dX12_offsets_102 : decode cX12_offsets 102 = .ok (.iload_n 1, 1) := by decide +kernel
theorem dX12_offsets_103 : decode cX12_offsets 103 = .ok (.ifCond .eq 17, 3) := by decide +kernel
theorem dX12_offsets_106 : decode cX12_offsets 106 = .ok (.aload_n 0, 1) := by decide +kernel
theorem dX12_offsets_107 : decode cX12_offsets 107 = .ok (.iconst 0, 1) := by decide +kernel
theorem dX12_offsets_108 : decode cX12_offsets 108 = .ok (.aload_n 0, 1) := by decide +kernel
theorem dX12_offsets_109 : decode cX12_offsets 109 = .ok (.getfield 44, 3) := by decide +kernel
theorem dX12_offsets_112 : decode cX12_offsets 112 = .ok (.iload 5, 2) := by decide +kernel
theorem dX12_offsets_114 : decode cX12_offsets 114 = .ok (.invokevirtual 150, 3) := by decide +kernel
theorem dX12_offsets_117 : decode cX12_offsets 117 = .ok (.goto 14, 3) := by decide +kernel
theorem dX12_offsets_120 : decode cX12_offsets 120 = .ok (.aload_n 0, 1) := by decide +kernel
theorem dX12_offsets_121 : decode cX12_offsets 121 = .ok (.iconst 0, 1) := by decide +kernel
theorem dX12_offsets_122 : decode cX12_offsets 122 = .ok (.aload_n 0, 1) := by decide +kernel
theorem dX12_offsets_123 : decode cX12_offsets 123 = .ok (.getfield 44, 3) := by decide +kernel
theorem dX12_offsets_126 : decode cX12_offsets 126 = .ok (.iload 5, 2) := by decide +kernel
theorem dX12_offsets_128 : decode cX12_offsets 128 = .ok (.invokevirtual 146, 3) := by decide +kernel
theorem dX12_offsets_131 : decode cX12_offsets 131 = .ok (.aload_n 0, 1) := by decide +kernel
theorem dX12_offsets_132 : decode cX12_offsets 132 = .ok (.getfield 92, 3) := by decide +kernel
theorem dX12_offsets_135 : decode cX12_offsets 135 = .ok (.iconst 0, 1) := by decide +kernel
theorem dX12_offsets_136 : decode cX12_offsets 136 = .ok (.aload_n 0, 1) := by decide +kernel
theorem dX12_offsets_137 : decode cX12_offsets 137 = .ok (.getfield 44, 3) := by decide +kernel
theorem dX12_offsets_140 : decode cX12_offsets 140 = .ok (.iload 5, 2) := by decide +kernel
theorem dX12_offsets_142 : decode cX12_offsets 142 = .ok (.bipush 16, 2) := by decide +kernel
theorem dX12_offsets_144 : decode cX12_offsets 144 = .ok (.invokestatic 143, 3) := by decide +kernel
theorem dX12_offsets_147 : decode cX12_offsets 147 = .ok (.iload_n 1, 1) := by decide +kernel
theorem dX12_offsets_148 : decode cX12_offsets 148 = .ok (.ifCond .eq 10, 3) := by decide +kernel
theorem dX12_offsets_151 : decode cX12_offsets 151 = .ok (.aload_n 0, 1) := by decide +kernel
theorem dX12_offsets_152 : decode cX12_offsets 152 = .ok (.getfield 44, 3) := by decide +kernel
theorem dX12_offsets_155 : decode cX12_offsets 155 = .ok (.goto 7, 3) := by decide +kernel
theorem dX12_offsets_158 : decode cX12_offsets 158 = .ok (.aload_n 0, 1) := by decide +kernel
theorem dX12_offsets_159 : decode cX12_offsets 159 = .ok (.getfield 41, 3) := by decide +kernel
theorem dX12_offsets_162 : decode cX12_offsets 162 = .ok (.iload 5, 2) := by decide +kernel
theorem dX12_offsets_164 : decode cX12_offsets 164 = .ok (.aload_n 0, 1) := by decide +kernel
theorem dX12_offsets_165 : decode cX12_offsets 165 = .ok (.getfield 65, 3) := by decide +kernel
theorem dX12_offsets_168 : decode cX12_offsets 168 = .ok (.iconst 0, 1) := by decide +kernel
theorem dX12_offsets_169 : decode cX12_offsets 169 = .ok (.bipush 16, 2) := by decide +kernel
theorem dX12_offsets_171 : decode cX12_offsets 171 = .ok (.invokestatic 143, 3) := by decide +kernel
theorem dX12_offsets_174 : decode cX12_offsets 174 = .ok (.iinc 4 1, 3) := by decide +kernel
theorem dX12_offsets_177 : decode cX12_offsets 177 = .ok (.goto (-147), 3) := by decide +kernel
theorem dX12_offsets_180 : decode cX12_offsets 180 = .ok (.iload_n 2, 1) := by decide +kernel
theorem dX12_offsets_181 : decode cX12_offsets 181 = .ok (.bipush 16, 2) := by decide +kernel
theorem dX12_offsets_183 : decode cX12_offsets 183 = .ok (.iload_n 3, 1) := by decide +kernel
theorem dX12_offsets_184 : decode cX12_offsets 184 = .ok (.imul, 1) := by decide +kernel
theorem dX12_offsets_185 : decode cX12_offsets 185 = .ok (.isub, 1) := by decide +kernel
theorem dX12_offsets_186 : decode cX12_offsets 186 = .ok (.istore 4, 2) := by decide +kernel
theorem dX12_offsets_188 : decode cX12_offsets 188 = .ok (.iload 4, 2) := by decide +kernel
theorem dX12_offsets_190 : decode cX12_offsets 190 = .ok (.ifCond .le 145, 3) := by decide +kernel
theorem dX12_offsets_193 : decode cX12_offsets 193 = .ok (.aload_n 0, 1) := by decide +kernel
theorem dX12_offsets_194 : decode cX12_offsets 194 = .ok (.getfield 89, 3) := by decide +kernel
theorem dX12_offsets_197 : decode cX12_offsets 197 = .ok (.iconst 0, 1) := by decide +kernel
theorem dX12_offsets_198 : decode cX12_offsets 198 = .ok (.aload_n 0, 1) := by decide +kernel
theorem dX12_offsets_199 : decode cX12_offsets 199 = .ok (.getfield 92, 3) := by decide +kernel
theorem dX12_offsets_202 : decode cX12_offsets 202 = .ok (.iconst 0, 1) := by decide +kernel
theorem dX12_offsets_203 : decode cX12_offsets 203 = .ok (.bipush 16, 2) := by decide +kernel
theorem dX12_offsets_205 : decode cX12_offsets 205 = .ok (.invokestatic 143, 3) := by decide +kernel
theorem dX12_offsets_208 : decode cX12_offsets 208 = .ok (.aload_n 0, 1) := by decide +kernel
theorem dX12_offsets_209 : decode cX12_offsets 209 = .ok (.getfield 92, 3) := by decide +kernel
theorem dX12_offsets_212 : decode cX12_offsets 212 = .ok (.iconst 0, 1) := by decide +kernel
theorem dX12_offsets_213 : decode cX12_offsets 213 = .ok (.aload_n 0, 1) := by decide +kernel
theorem dX12_offsets_214 : decode cX12_offsets 214 = .ok (.getfield 56, 3) := by decide +kernel
theorem dX12_offsets_217 : decode cX12_offsets 217 = .ok (.iconst 0, 1) := by decide +kernel
theorem dX12_offsets_218 : decode cX12_offsets 218 = .ok (.bipush 16, 2) := by decide +kernel
theorem dX12_offsets_220 : decode cX12_offsets 220 = .ok (.invokestatic 133, 3) := by decide +kernel
theorem dX12_offsets_223 : decode cX12_offsets 223 = .ok (.aload_n 0, 1) := by decide +kernel
theorem dX12_offsets_224 : decode cX12_offsets 224 = .ok (.iconst 0, 1) := by decide +kernel
theorem dX12_offsets_225 : decode cX12_offsets 225 = .ok (.aload_n 0, 1) := by decide +kernel
theorem dX12_offsets_226 : decode cX12_offsets 226 = .ok (.getfield 56, 3) := by decide +kernel
theorem dX12_offsets_229 : decode cX12_offsets 229 = .ok (.iconst 0, 1) := by decide +kernel
theorem dX12_offsets_230 : decode cX12_offsets 230 = .ok (.invokevirtual 146, 3) := by decide +kernel
theorem dX12_offsets_233 : decode cX12_offsets 233 = .ok (.iconst 0, 1) := by decide +kernel
theorem dX12_offsets_234 : decode cX12_offsets 234 = .ok (.istore 5, 2) := by decide +kernel
theorem dX12_offsets_236 : decode cX12_offsets 236 = .ok (.iload 5, 2) := by decide +kernel
theorem dX12_offsets_238 : decode cX12_offsets 238 = .ok (.iload 4, 2) := by decide +kernel
theorem dX12_offsets_240 : decode cX12_offsets 240 = .ok (.if_icmp .ge 82, 3) := by decide +kernel
theorem dX12_offsets_243 : decode cX12_offsets 243 = .ok (.aload_n 0, 1) := by decide +kernel
theorem dX12_offsets_244 : decode cX12_offsets 244 = .ok (.getfield 44, 3) := by decide +kernel
theorem dX12_offsets_247 : decode cX12_offsets 247 = .ok (.bipush 16, 2) := by decide +kernel
theorem dX12_offsets_249 : decode cX12_offsets 249 = .ok (.iload_n 3, 1) := by decide +kernel
theorem dX12_offsets_250 : decode cX12_offsets 250 = .ok (.imul, 1) := by decide +kernel
theorem dX12_offsets_251 : decode cX12_offsets 251 = .ok (.iload 5, 2) := by decide +kernel
theorem dX12_offsets_253 : decode cX12_offsets 253 = .ok (.iadd, 1) := by decide +kernel
theorem dX12_offsets_254 : decode cX12_offsets 254 = .ok (.aload_n 0, 1) := by decide +kernel
theorem dX12_offsets_255 : decode cX12_offsets 255 = .ok (.getfield 41, 3) := by decide +kernel
theorem dX12_offsets_258 : decode cX12_offsets 258 = .ok (.bipush 16, 2) := by decide +kernel
theorem dX12_offsets_260 : decode cX12_offsets 260 = .ok (.iload_n 3, 1) := by decide +kernel
theorem dX12_offsets_261 : decode cX12_offsets 261 = .ok (.imul, 1) := by decide +kernel
theorem dX12_offsets_262 : decode cX12_offsets 262 = .ok (.iload 5, 2) := by decide +kernel
theorem dX12_offsets_264 : decode cX12_offsets 264 = .ok (.iadd, 1) := by decide +kernel
theorem dX12_offsets_265 : decode cX12_offsets 265 = .ok (.iaload, 1) := by decide +kernel
theorem dX12_offsets_266 : decode cX12_offsets 266 = .ok (.aload_n 0, 1) := by decide +kernel
theorem dX12_offsets_267 : decode cX12_offsets 267 = .ok (.getfield 56, 3) := by decide +kernel
theorem dX12_offsets_270 : decode cX12_offsets 270 = .ok (.iload 5, 2) := by decide +kernel
theorem dX12_offsets_272 : decode cX12_offsets 272 = .ok (.iaload, 1) := by decide +kernel
theorem dX12_offsets_273 : decode cX12_offsets 273 = .ok (.ixor, 1) := by decide +kernel
theorem dX12_offsets_274 : decode cX12_offsets 274 = .ok (.iastore, 1) := by decide +kernel
theorem dX12_offsets_275 : decode cX12_offsets 275 = .ok (.aload_n 0, 1) := by decide +kernel
theorem dX12_offsets_276 : decode cX12_offsets 276 = .ok (.getfield 65, 3) := by decide +kernel
theorem dX12_offsets_279 : decode cX12_offsets 279 = .ok (.iload 5, 2) := by decide +kernel
theorem dX12_offsets_281 : decode cX12_offsets 281 = .ok (.dup2, 1) := by decide +kernel
theorem dX12_offsets_282 : decode cX12_offsets 282 = .ok (.iaload, 1) := by decide +kernel
theorem dX12_offsets_283 : decode cX12_offsets 283 = .ok (.iload_n 1, 1) := by decide +kernel
theorem dX12_offsets_284 : decode cX12_offsets 284 = .ok (.ifCond .eq 18, 3) := by decide +kernel
theorem dX12_offsets_287 : decode cX12_offsets 287 = .ok (.aload_n 0, 1) := by decide +kernel
theorem dX12_offsets_288 : decode cX12_offsets 288 = .ok (.getfield 44, 3) := by decide +kernel
theorem dX12_offsets_291 : decode cX12_offsets 291 = .ok (.bipush 16, 2) := by decide +kernel
theorem dX12_offsets_293 : decode cX12_offsets 293 = .ok (.iload_n 3, 1) := by decide +kernel
theorem dX12_offsets_294 : decode cX12_offsets 294 = .ok (.imul, 1) := by decide +kernel
theorem dX12_offsets_295 : decode cX12_offsets 295 = .ok (.iload 5, 2) := by decide +kernel
theorem dX12_offsets_297 : decode cX12_offsets 297 = .ok (.iadd, 1) := by decide +kernel
theorem dX12_offsets_298 : decode cX12_offsets 298 = .ok (.iaload, 1) := by decide +kernel
theorem dX12_offsets_299 : decode cX12_offsets 299 = .ok (.goto 15, 3) := by decide +kernel
theorem dX12_offsets_302 : decode cX12_offsets 302 = .ok (.aload_n 0, 1) := by decide +kernel
theorem dX12_offsets_303 : decode cX12_offsets 303 = .ok (.getfield 41, 3) := by decide +kernel
theorem dX12_offsets_306 : decode cX12_offsets 306 = .ok (.bipush 16, 2) := by decide +kernel
theorem dX12_offsets_308 : decode cX12_offsets 308 = .ok (.iload_n 3, 1) := by decide +kernel
theorem dX12_offsets_309 : decode cX12_offsets 309 = .ok (.imul, 1) := by decide +kernel
theorem dX12_offsets_310 : decode cX12_offsets 310 = .ok (.iload 5, 2) := by decide +kernel
theorem dX12_offsets_312 : decode cX12_offsets 312 = .ok (.iadd, 1) := by decide +kernel
theorem dX12_offsets_313 : decode cX12_offsets 313 = .ok (.iaload, 1) := by decide +kernel
theorem dX12_offsets_314 : decode cX12_offsets 314 = .ok (.ixor, 1) := by decide +kernel
theorem dX12_offsets_315 : decode cX12_offsets 315 = .ok (.iastore, 1) := by decide +kernel
theorem dX12_offsets_316 : decode cX12_offsets 316 = .ok (.iinc 5 1, 3) := by decide +kernel
theorem dX12_offsets_319 : decode cX12_offsets 319 = .ok (.goto (-83), 3) := by decide +kernel
theorem dX12_offsets_322 : decode cX12_offsets 322 = .ok (.aload_n 0, 1) := by decide +kernel
theorem dX12_offsets_323 : decode cX12_offsets 323 = .ok (.getfield 65, 3) := by decide +kernel
theorem dX12_offsets_326 : decode cX12_offsets 326 = .ok (.iload 4, 2) := by decide +kernel
theorem dX12_offsets_328 : decode cX12_offsets 328 = .ok (.dup2, 1) := by decide +kernel
theorem dX12_offsets_329 : decode cX12_offsets 329 = .ok (.iaload, 1) := by decide +kernel
theorem dX12_offsets_330 : decode cX12_offsets 330 = .ok (.sipush 128, 3) := by decide +kernel
theorem dX12_offsets_333 : decode cX12_offsets 333 = .ok (.ixor, 1) := by decide +kernel
theorem dX12_offsets_334 : decode cX12_offsets 334 = .ok (.iastore, 1) := by decide +kernel
theorem dX12_offsets_335 : decode cX12_offsets 335 = .ok (.aload_n 0, 1) := by decide +kernel
theorem dX12_offsets_336 : decode cX12_offsets 336 = .ok (.getfield 65, 3) := by decide +kernel
theorem dX12_offsets_339 : decode cX12_offsets 339 = .ok (.iconst 0, 1) := by decide +kernel
theorem dX12_offsets_340 : decode cX12_offsets 340 = .ok (.aload_n 0, 1) := by decide +kernel
theorem dX12_offsets_341 : decode cX12_offsets 341 = .ok (.getfield 83, 3) := by decide +kernel
theorem dX12_offsets_344 : decode cX12_offsets 344 = .ok (.iconst 0, 1) := by decide +kernel
theorem dX12_offsets_345 : decode cX12_offsets 345 = .ok (.bipush 16, 2) := by decide +kernel
theorem dX12_offsets_347 : decode cX12_offsets 347 = .ok (.invokestatic 133, 3) := by decide +kernel
theorem dX12_offsets_350 : decode cX12_offsets 350 = .ok (.aload_n 0, 1) := by decide +kernel
theorem dX12_offsets_351 : decode cX12_offsets 351 = .ok (.getfield 92, 3) := by decide +kernel
theorem dX12_offsets_354 : decode cX12_offsets 354 = .ok (.iconst 0, 1) := by decide +kernel
theorem dX12_offsets_355 : decode cX12_offsets 355 = .ok (.aload_n 0, 1) := by decide +kernel
theorem dX12_offsets_356 : decode cX12_offsets 356 = .ok (.getfield 83, 3) := by decide +kernel
theorem dX12_offsets_359 : decode cX12_offsets 359 = .ok (.iconst 0, 1) := by decide +kernel
theorem dX12_offsets_360 : decode cX12_offsets 360 = .ok (.bipush 16, 2) := by decide +kernel
theorem dX12_offsets_362 : decode cX12_offsets 362 = .ok (.invokestatic 143, 3) := by decide +kernel
theorem dX12_offsets_365 : decode cX12_offsets 365 = .ok (.aload_n 0, 1) := by decide +kernel
theorem dX12_offsets_366 : decode cX12_offsets 366 = .ok (.getfield 89, 3) := by decide +kernel
theorem dX12_offsets_369 : decode cX12_offsets 369 = .ok (.bipush 16, 2) := by decide +kernel
theorem dX12_offsets_371 : decode cX12_offsets 371 = .ok (.aload_n 0, 1) := by decide +kernel
theorem dX12_offsets_372 : decode cX12_offsets 372 = .ok (.getfield 83, 3) := by decide +kernel
theorem dX12_offsets_375 : decode cX12_offsets 375 = .ok (.iconst 0, 1) := by decide +kernel
theorem dX12_offsets_376 : decode cX12_offsets 376 = .ok (.bipush 16, 2) := by decide +kernel
theorem dX12_offsets_378 : decode cX12_offsets 378 = .ok (.invokestatic 143, 3) := by decide +kernel
theorem dX12_offsets_381 : decode cX12_offsets 381 = .ok (.aload_n 0, 1) := by decide +kernel
theorem dX12_offsets_382 : decode cX12_offsets 382 = .ok (.iconst 0, 1) := by decide +kernel
theorem dX12_offsets_383 : decode cX12_offsets 383 = .ok (.aload_n 0, 1) := by decide +kernel
theorem dX12_offsets_384 : decode cX12_offsets 384 = .ok (.getfield 83, 3) := by decide +kernel
theorem dX12_offsets_387 : decode cX12_offsets 387 = .ok (.iconst 0, 1) := by decide +kernel
theorem dX12_offsets_388 : decode cX12_offsets 388 = .ok (.invokevirtual 146, 3) := by decide +kernel
theorem dX12_offsets_391 : decode cX12_offsets 391 = .ok (.aload_n 0, 1) := by decide +kernel
theorem dX12_offsets_392 : decode cX12_offsets 392 = .ok (.getfield 95, 3) := by decide +kernel
theorem dX12_offsets_395 : decode cX12_offsets 395 = .ok (.iconst 0, 1) := by decide +kernel
theorem dX12_offsets_396 : decode cX12_offsets 396 = .ok (.aload_n 0, 1) := by decide +kernel
theorem dX12_offsets_397 : decode cX12_offsets 397 = .ok (.getfield 83, 3) := by decide +kernel
theorem dX12_offsets_400 : decode cX12_offsets 400 = .ok (.iconst 0, 1) := by decide +kernel
theorem dX12_offsets_401 : decode cX12_offsets 401 = .ok (.bipush 16, 2) := by decide +kernel
theorem dX12_offsets_403 : decode cX12_offsets 403 = .ok (.invokestatic 143, 3) := by decide +kernel
theorem dX12_offsets_406 : decode cX12_offsets 406 = .ok (.return_, 1) := by decide +kernel
theorem dX12_tagged_0 : decode cX12_tagged 0 = .ok (.iload_n 2, 1) := by decide +kernel
theorem dX12_tagged_1 : decode cX12_tagged 1 = .ok (.ifCond .eq 15, 3) := by decide +kernel
theorem dX12_tagged_4 : decode cX12_tagged 4 = .ok (.aload_n 0, 1) := by decide +kernel
theorem dX12_tagged_5 : decode cX12_tagged 5 = .ok (.getfield 130, 3) := by decide +kernel
theorem dX12_tagged_8 : decode cX12_tagged 8 = .ok (.aload_n 0, 1) := by decide +kernel
theorem dX12_tagged_9 : decode cX12_tagged 9 = .ok (.getfield 16, 3) := by decide +kernel
theorem dX12_tagged_12 : decode cX12_tagged 12 = .ok (.isub, 1) := by decide +kernel
theorem dX12_tagged_13 : decode cX12_tagged 13 = .ok (.goto 7, 3) := by decide +kernel
theorem dX12_tagged_16 : decode cX12_tagged 16 = .ok (.aload_n 0, 1) := by decide +kernel
theorem dX12_tagged_17 : decode cX12_tagged 17 = .ok (.getfield 130, 3) := by decide +kernel
theorem dX12_tagged_20 : decode cX12_tagged 20 = .ok (.istore_n 3, 1) := by decide +kernel
theorem dX12_tagged_21 : decode cX12_tagged 21 = .ok (.iload_n 1, 1) := by decide +kernel
theorem dX12_tagged_22 : decode cX12_tagged 22 = .ok (.tableswitch 53 12 14 #[26, 35, 44], 26) := by decide +kernel
theorem dX12_tagged_48 : decode cX12_tagged 48 = .ok (.aload_n 0, 1) := by decide +kernel
theorem dX12_tagged_49 : decode cX12_tagged 49 = .ok (.iload_n 2, 1) := by decide +kernel
theorem dX12_tagged_50 : decode cX12_tagged 50 = .ok (.iload_n 3, 1) := by decide +kernel
theorem dX12_tagged_51 : decode cX12_tagged 51 = .ok (.invokevirtual 235, 3) := by decide +kernel
theorem dX12_tagged_54 : decode cX12_tagged 54 = .ok (.goto 27, 3) := by decide +kernel
theorem dX12_tagged_57 : decode cX12_tagged 57 = .ok (.aload_n 0, 1) := by decide +kernel
theorem dX12_tagged_58 : decode cX12_tagged 58 = .ok (.iload_n 2, 1) := by decide +kernel
theorem dX12_tagged_59 : decode cX12_tagged 59 = .ok (.iload_n 3, 1) := by decide +kernel
theorem dX12_tagged_60 : decode cX12_tagged 60 = .ok (.invokevirtual 238, 3) := by decide +kernel
theorem dX12_tagged_63 : decode cX12_tagged 63 = .ok (.goto 18, 3) := by decide +kernel
theorem dX12_tagged_66 : decode cX12_tagged 66 = .ok (.aload_n 0, 1) := by decide +kernel
theorem dX12_tagged_67 : decode cX12_tagged 67 = .ok (.iload_n 2, 1) := by decide +kernel
theorem dX12_tagged_68 : decode cX12_tagged 68 = .ok (.iload_n 3, 1) := by decide +kernel
theorem dX12_tagged_69 : decode cX12_tagged 69 = .ok (.invokevirtual 241, 3) := by decide +kernel
theorem dX12_tagged_72 : decode cX12_tagged 72 = .ok (.goto 9, 3) := by decide +kernel
theorem dX12_tagged_75 : decode cX12_tagged 75 = .ok (.aload_n 0, 1) := by decide +kernel
theorem dX12_tagged_76 : decode cX12_tagged 76 = .ok (.iload_n 2, 1) := by decide +kernel
theorem dX12_tagged_77 : decode cX12_tagged 77 = .ok (.iload_n 3, 1) := by decide +kernel
theorem dX12_tagged_78 : decode cX12_tagged 78 = .ok (.invokevirtual 244, 3) := by decide +kernel
theorem dX12_tagged_81 : decode cX12_tagged 81 = .ok (.aload_n 0, 1) := by decide +kernel
theorem dX12_tagged_82 : decode cX12_tagged 82 = .ok (.iload_n 3, 1) := by decide +kernel
theorem dX12_tagged_83 : decode cX12_tagged 83 = .ok (.putfield 153, 3) := by decide +kernel
theorem dX12_tagged_86 : decode cX12_tagged 86 = .ok (.iload_n 2, 1) := by decide +kernel
theorem dX12_tagged_87 : decode cX12_tagged 87 = .ok (.ifCond .ne 32, 3) := by decide +kernel
theorem dX12_tagged_90 : decode cX12_tagged 90 = .ok (.aload_n 0, 1) := by decide +kernel
theorem dX12_tagged_91 : decode cX12_tagged 91 = .ok (.getfield 83, 3) := by decide +kernel
theorem dX12_tagged_94 : decode cX12_tagged 94 = .ok (.iconst 0, 1) := by decide +kernel
theorem dX12_tagged_95 : decode cX12_tagged 95 = .ok (.aload_n 0, 1) := by decide +kernel
theorem dX12_tagged_96 : decode cX12_tagged 96 = .ok (.getfield 44, 3) := by decide +kernel
theorem dX12_tagged_99 : decode cX12_tagged 99 = .ok (.iload_n 3, 1) := by decide +kernel
theorem dX12_tagged_100 : decode cX12_tagged 100 = .ok (.aload_n 0, 1) := by decide +kernel
theorem dX12_tagged_101 : decode cX12_tagged 101 = .ok (.getfield 16, 3) := by decide +kernel
theorem dX12_tagged_104 : decode cX12_tagged 104 = .ok (.invokestatic 133, 3) := by decide +kernel
theorem dX12_tagged_107 : decode cX12_tagged 107 = .ok (.aload_n 0, 1) := by decide +kernel
theorem dX12_tagged_108 : decode cX12_tagged 108 = .ok (.iload_n 3, 1) := by decide +kernel
theorem dX12_tagged_109 : decode cX12_tagged 109 = .ok (.aload_n 0, 1) := by decide +kernel
theorem dX12_tagged_110 : decode cX12_tagged 110 = .ok (.getfield 16, 3) := by decide +kernel
theorem dX12_tagged_113 : decode cX12_tagged 113 = .ok (.iadd, 1) := by decide +kernel
theorem dX12_tagged_114 : decode cX12_tagged 114 = .ok (.putfield 153, 3) := by decide +kernel
theorem dX12_tagged_117 : decode cX12_tagged 117 = .ok (.iconst 0, 1) := by decide +kernel
theorem dX12_tagged_118 : decode cX12_tagged 118 = .ok (.ireturn, 1) := by decide +kernel
theorem dX12_tagged_119 : decode cX12_tagged 119 = .ok (.iconst 1, 1) := by decide +kernel
theorem dX12_tagged_120 : decode cX12_tagged 120 = .ok (.istore 4, 2) := by decide +kernel
theorem dX12_tagged_122 : decode cX12_tagged 122 = .ok (.iconst 0, 1) := by decide +kernel
theorem dX12_tagged_123 : decode cX12_tagged 123 = .ok (.istore 5, 2) := by decide +kernel
theorem dX12_tagged_125 : decode cX12_tagged 125 = .ok (.iload 5, 2) := by decide +kernel
theorem dX12_tagged_127 : decode cX12_tagged 127 = .ok (.aload_n 0, 1) := by decide +kernel
theorem dX12_tagged_128 : decode cX12_tagged 128 = .ok (.getfield 16, 3) := by decide +kernel
theorem dX12_tagged_131 : decode cX12_tagged 131 = .ok (.if_icmp .ge 40, 3) := by decide +kernel
theorem dX12_tagged_134 : decode cX12_tagged 134 = .ok (.iload 4, 2) := by decide +kernel
theorem dX12_tagged_136 : decode cX12_tagged 136 = .ok (.ifCond .eq 26, 3) := by decide +kernel
theorem dX12_tagged_139 : decode cX12_tagged 139 = .ok (.aload_n 0, 1) := by decide +kernel
theorem dX12_tagged_140 : decode cX12_tagged 140 = .ok (.getfield 83, 3) := by decide +kernel
theorem dX12_tagged_143 : decode cX12_tagged 143 = .ok (.iload 5, 2) := by decide +kernel
theorem dX12_tagged_145 : decode cX12_tagged 145 = .ok (.iaload, 1) := by decide +kernel
theorem dX12_tagged_146 : decode cX12_tagged 146 = .ok (.aload_n 0, 1) := by decide +kernel
theorem dX12_tagged_147 : decode cX12_tagged 147 = .ok (.getfield 41, 3) := by decide +kernel
theorem dX12_tagged_150 : decode cX12_tagged 150 = .ok (.iload_n 3, 1) := by decide +kernel
theorem dX12_tagged_151 : decode cX12_tagged 151 = .ok (.iload 5, 2) := by decide +kernel
theorem dX12_tagged_153 : decode cX12_tagged 153 = .ok (.iadd, 1) := by decide +kernel
theorem dX12_tagged_154 : decode cX12_tagged 154 = .ok (.iaload, 1) := by decide +kernel
theorem dX12_tagged_155 : decode cX12_tagged 155 = .ok (.if_icmp .ne 7, 3) := by decide +kernel
theorem dX12_tagged_158 : decode cX12_tagged 158 = .ok (.iconst 1, 1) := by decide +kernel
theorem dX12_tagged_159 : decode cX12_tagged 159 = .ok (.goto 4, 3) := by decide +kernel
theorem dX12_tagged_162 : decode cX12_tagged 162 = .ok (.iconst 0, 1) := by decide +kernel
theorem dX12_tagged_163 : decode cX12_tagged 163 = .ok (.istore 4, 2) := by decide +kernel
theorem dX12_tagged_165 : decode cX12_tagged 165 = .ok (.iinc 5 1, 3) := by decide +kernel
theorem dX12_tagged_168 : decode cX12_tagged 168 = .ok (.goto (-43), 3) := by decide +kernel
theorem dX12_tagged_171 : decode cX12_tagged 171 = .ok (.iload 4, 2) := by decide +kernel
theorem dX12_tagged_173 : decode cX12_tagged 173 = .ok (.ifCond .eq 7, 3) := by decide +kernel
theorem dX12_tagged_176 : decode cX12_tagged 176 = .ok (.iconst 0, 1) := by decide +kernel
theorem dX12_tagged_177 : decode cX12_tagged 177 = .ok (.goto 5, 3) := by decide +kernel
theorem dX12_tagged_180 : decode cX12_tagged 180 = .ok (.bipush (-6), 2) := by decide +kernel
theorem dX12_tagged_182 : decode cX12_tagged 182 = .ok (.ireturn, 1) := by decide +kernel
theorem dX12_hasKeys_0 : decode cX12_hasKeys 0 = .ok (.aload_n 0, 1) := by decide +kernel
theorem dX12_hasKeys_1 : decode cX12_hasKeys 1 = .ok (.getfield 13, 3) := by decide +kernel
theorem dX12_hasKeys_4 : decode cX12_hasKeys 4 = .ok (.iconst 0, 1) := by decide +kernel
theorem dX12_hasKeys_5 : decode cX12_hasKeys 5 = .ok (.iaload, 1) := by decide +kernel
theorem dX12_hasKeys_6 : decode cX12_hasKeys 6 = .ok (.istore_n 2, 1) := by decide +kernel
theorem dX12_hasKeys_7 : decode cX12_hasKeys 7 = .ok (.iload_n 1, 1) := by decide +kernel
theorem dX12_hasKeys_8 : decode cX12_hasKeys 8 = .ok (.ifCond .eq 9, 3) := by decide +kernel
theorem dX12_hasKeys_11 : decode cX12_hasKeys 11 = .ok (.iload_n 2, 1) := by decide +kernel
theorem dX12_hasKeys_12 : decode cX12_hasKeys 12 = .ok (.iconst 2, 1) := by decide +kernel
theorem dX12_hasKeys_13 : decode cX12_hasKeys 13 = .ok (.idiv, 1) := by decide +kernel
theorem dX12_hasKeys_14 : decode cX12_hasKeys 14 = .ok (.goto 4, 3) := by decide +kernel
theorem dX12_hasKeys_17 : decode cX12_hasKeys 17 = .ok (.iload_n 2, 1) := by decide +kernel
theorem dX12_hasKeys_18 : decode cX12_hasKeys 18 = .ok (.istore_n 3, 1) := by decide +kernel
theorem dX12_hasKeys_19 : decode cX12_hasKeys 19 = .ok (.iload_n 3, 1) := by decide +kernel
theorem dX12_hasKeys_20 : decode cX12_hasKeys 20 = .ok (.bipush 16, 2) := by decide +kernel
theorem dX12_hasKeys_22 : decode cX12_hasKeys 22 = .ok (.if_icmp .eq 15, 3) := by decide +kernel
theorem dX12_hasKeys_25 : decode cX12_hasKeys 25 = .ok (.iload_n 3, 1) := by decide +kernel
theorem dX12_hasKeys_26 : decode cX12_hasKeys 26 = .ok (.bipush 24, 2) := by decide +kernel
theorem dX12_hasKeys_28 : decode cX12_hasKeys 28 = .ok (.if_icmp .eq 9, 3) := by decide +kernel
theorem dX12_hasKeys_31 : decode cX12_hasKeys 31 = .ok (.iload_n 3, 1) := by decide +kernel
theorem dX12_hasKeys_32 : decode cX12_hasKeys 32 = .ok (.bipush 32, 2) := by decide +kernel
theorem dX12_hasKeys_34 : decode cX12_hasKeys 34 = .ok (.if_icmp .ne 14, 3) := by decide +kernel
theorem dX12_hasKeys_37 : decode cX12_hasKeys 37 = .ok (.iload_n 1, 1) := by decide +kernel
theorem dX12_hasKeys_38 : decode cX12_hasKeys 38 = .ok (.ifCond .eq 12, 3) := by decide +kernel
theorem dX12_hasKeys_41 : decode cX12_hasKeys 41 = .ok (.iload_n 2, 1) := by decide +kernel
theorem dX12_hasKeys_42 : decode cX12_hasKeys 42 = .ok (.iconst 2, 1) := by decide +kernel
theorem dX12_hasKeys_43 : decode cX12_hasKeys 43 = .ok (.irem, 1) := by decide +kernel
theorem dX12_hasKeys_44 : decode cX12_hasKeys 44 = .ok (.iconst 1, 1) := by decide +kernel
theorem dX12_hasKeys_45 : decode cX12_hasKeys 45 = .ok (.if_icmp .ne 5, 3) := by decide +kernel
theorem dX12_hasKeys_48 : decode cX12_hasKeys 48 = .ok (.iconst 0, 1) := by decide +kernel
theorem dX12_hasKeys_49 : decode cX12_hasKeys 49 = .ok (.ireturn, 1) := by decide +kernel
theorem dX12_hasKeys_50 : decode cX12_hasKeys 50 = .ok (.aload_n 0, 1) := by decide +kernel
theorem dX12_hasKeys_51 : decode cX12_hasKeys 51 = .ok (.iconst 0, 1) := by decide +kernel
theorem dX12_hasKeys_52 : decode cX12_hasKeys 52 = .ok (.iconst 0, 1) := by decide +kernel
theorem dX12_hasKeys_53 : decode cX12_hasKeys 53 = .ok (.iload_n 3, 1) := by decide +kernel
theorem dX12_hasKeys_54 : decode cX12_hasKeys 54 = .ok (.invokevirtual 247, 3) := by decide +kernel
theorem dX12_hasKeys_57 : decode cX12_hasKeys 57 = .ok (.iload_n 1, 1) := by decide +kernel
theorem dX12_hasKeys_58 : decode cX12_hasKeys 58 = .ok (.ifCond .eq 10, 3) := by decide +kernel
theorem dX12_hasKeys_61 : decode cX12_hasKeys 61 = .ok (.aload_n 0, 1) := by decide +kernel
theorem dX12_hasKeys_62 : decode cX12_hasKeys 62 = .ok (.iconst 1, 1) := by decide +kernel
theorem dX12_hasKeys_63 : decode cX12_hasKeys 63 = .ok (.iload_n 3, 1) := by decide +kernel
theorem dX12_hasKeys_64 : decode cX12_hasKeys 64 = .ok (.iload_n 3, 1) := by decide +kernel
theorem dX12_hasKeys_65 : decode cX12_hasKeys 65 = .ok (.invokevirtual 247, 3) := by decide +kernel
theorem dX12_hasKeys_68 : decode cX12_hasKeys 68 = .ok (.iconst 1, 1) := by decide +kernel
theorem dX12_hasKeys_69 : decode cX12_hasKeys 69 = .ok (.ireturn, 1) := by decide +kernel
theorem dX12_fits_0 : decode cX12_fits 0 = .ok (.aload_n 0, 1) := by decide +kernel
theorem dX12_fits_1 : decode cX12_fits 1 = .ok (.getfield 13, 3) := by decide +kernel
theorem dX12_fits_4 : decode cX12_fits 4 = .ok (.iconst 1, 1) := by decide +kernel
theorem dX12_fits_5 : decode cX12_fits 5 = .ok (.iaload, 1) := by decide +kernel
theorem dX12_fits_6 : decode cX12_fits 6 = .ok (.istore_n 3, 1) := by decide +kernel
theorem dX12_fits_7 : decode cX12_fits 7 = .ok (.aload_n 0, 1) := by decide +kernel
theorem dX12_fits_8 : decode cX12_fits 8 = .ok (.getfield 13, 3) := by decide +kernel
theorem dX12_fits_11 : decode cX12_fits 11 = .ok (.iconst 2, 1) := by decide +kernel
theorem dX12_fits_12 : decode cX12_fits 12 = .ok (.iaload, 1) := by decide +kernel
theorem dX12_fits_13 : decode cX12_fits 13 = .ok (.istore 4, 2) := by decide +kernel
theorem dX12_fits_15 : decode cX12_fits 15 = .ok (.iload_n 1, 1) := by decide +kernel
theorem dX12_fits_16 : decode cX12_fits 16 = .ok (.tableswitch 351 1 15 #[76, 89, 109, 139, 158, 158, 158, 158, 171, 190, 218, 254, 278, 317, 335], 76) := by decide +kernel
theorem dX12_fits_92 : decode cX12_fits 92 = .ok (.iload_n 3, 1) := by decide +kernel
theorem dX12_fits_93 : decode cX12_fits 93 = .ok (.bipush 16, 2) := by decide +kernel
theorem dX12_fits_95 : decode cX12_fits 95 = .ok (.irem, 1) := by decide +kernel
theorem dX12_fits_96 : decode cX12_fits 96 = .ok (.ifCond .ne 7, 3) := by decide +kernel
theorem dX12_fits_99 : decode cX12_fits 99 = .ok (.iconst 1, 1) := by decide +kernel
theorem dX12_fits_100 : decode cX12_fits 100 = .ok (.goto 4, 3) := by decide +kernel
theorem dX12_fits_103 : decode cX12_fits 103 = .ok (.iconst 0, 1) := by decide +kernel
theorem dX12_fits_104 : decode cX12_fits 104 = .ok (.ireturn, 1) := by decide +kernel
theorem dX12_fits_105 : decode cX12_fits 105 = .ok (.iload_n 3, 1) := by decide +kernel
theorem dX12_fits_106 : decode cX12_fits 106 = .ok (.bipush 16, 2) := by decide +kernel
theorem dX12_fits_108 : decode cX12_fits 108 = .ok (.irem, 1) := by decide +kernel
theorem dX12_fits_109 : decode cX12_fits 109 = .ok (.ifCond .ne 14, 3) := by decide +kernel
theorem dX12_fits_112 : decode cX12_fits 112 = .ok (.iload 4, 2) := by decide +kernel
theorem dX12_fits_114 : decode cX12_fits 114 = .ok (.bipush 16, 2) := by decide +kernel
theorem dX12_fits_116 : decode cX12_fits 116 = .ok (.if_icmp .ne 7, 3) := by decide +kernel
theorem dX12_fits_119 : decode cX12_fits 119 = .ok (.iconst 1, 1) := by decide +kernel
theorem dX12_fits_120 : decode cX12_fits 120 = .ok (.goto 4, 3) := by decide +kernel
theorem dX12_fits_123 : decode cX12_fits 123 = .ok (.iconst 0, 1) := by decide +kernel
theorem dX12_fits_124 : decode cX12_fits 124 = .ok (.ireturn, 1) := by decide +kernel
theorem dX12_fits_125 : decode cX12_fits 125 = .ok (.iload 4, 2) := by decide +kernel
theorem dX12_fits_127 : decode cX12_fits 127 = .ok (.bipush 16, 2) := by decide +kernel
theorem dX12_fits_129 : decode cX12_fits 129 = .ok (.if_icmp .ne 24, 3) := by decide +kernel
theorem dX12_fits_132 : decode cX12_fits 132 = .ok (.iload_n 2, 1) := by decide +kernel
theorem dX12_fits_133 : decode cX12_fits 133 = .ok (.ifCond .eq 16, 3) := by decide +kernel
theorem dX12_fits_136 : decode cX12_fits 136 = .ok (.iload_n 3, 1) := by decide +kernel
theorem dX12_fits_137 : decode cX12_fits 137 = .ok (.bipush 16, 2) := by decide +kernel
theorem dX12_fits_139 : decode cX12_fits 139 = .ok (.irem, 1) := by decide +kernel
theorem dX12_fits_140 : decode cX12_fits 140 = .ok (.ifCond .ne 13, 3) := by decide +kernel
theorem dX12_fits_143 : decode cX12_fits 143 = .ok (.iload_n 3, 1) := by decide +kernel
theorem dX12_fits_144 : decode cX12_fits 144 = .ok (.bipush 16, 2) := by decide +kernel
theorem dX12_fits_146 : decode cX12_fits 146 = .ok (.if_icmp .lt 7, 3) := by decide +kernel
theorem dX12_fits_149 : decode cX12_fits 149 = .ok (.iconst 1, 1) := by decide +kernel
theorem dX12_fits_150 : decode cX12_fits 150 = .ok (.goto 4, 3) := by decide +kernel
theorem dX12_fits_153 : decode cX12_fits 153 = .ok (.iconst 0, 1) := by decide +kernel
theorem dX12_fits_154 : decode cX12_fits 154 = .ok (.ireturn, 1) := by decide +kernel
theorem dX12_fits_155 : decode cX12_fits 155 = .ok (.iload 4, 2) := by decide +kernel
theorem dX12_fits_157 : decode cX12_fits 157 = .ok (.bipush 16, 2) := by decide +kernel
theorem dX12_fits_159 : decode cX12_fits 159 = .ok (.if_icmp .ne 13, 3) := by decide +kernel
theorem dX12_fits_162 : decode cX12_fits 162 = .ok (.iload_n 3, 1) := by decide +kernel
theorem dX12_fits_163 : decode cX12_fits 163 = .ok (.bipush 17, 2) := by decide +kernel
theorem dX12_fits_165 : decode cX12_fits 165 = .ok (.if_icmp .lt 7, 3) := by decide +kernel
theorem dX12_fits_168 : decode cX12_fits 168 = .ok (.iconst 1, 1) := by decide +kernel
theorem dX12_fits_169 : decode cX12_fits 169 = .ok (.goto 4, 3) := by decide +kernel
theorem dX12_fits_172 : decode cX12_fits 172 = .ok (.iconst 0, 1) := by decide +kernel
theorem dX12_fits_173 : decode cX12_fits 173 = .ok (.ireturn, 1) := by decide +kernel
theorem dX12_fits_174 : decode cX12_fits 174 = .ok (.iload 4, 2) := by decide +kernel
theorem dX12_fits_176 : decode cX12_fits 176 = .ok (.bipush 16, 2) := by decide +kernel
theorem dX12_fits_178 : decode cX12_fits 178 = .ok (.if_icmp .ne 7, 3) := by decide +kernel
theorem dX12_fits_181 : decode cX12_fits 181 = .ok (.iconst 1, 1) := by decide +kernel
theorem dX12_fits_182 : decode cX12_fits 182 = .ok (.goto 4, 3) := by decide +kernel
theorem dX12_fits_185 : decode cX12_fits 185 = .ok (.iconst 0, 1) := by decide +kernel
theorem dX12_fits_186 : decode cX12_fits 186 = .ok (.ireturn, 1) := by decide +kernel
theorem dX12_fits_187 : decode cX12_fits 187 = .ok (.iload 4, 2) := by decide +kernel
theorem dX12_fits_189 : decode cX12_fits 189 = .ok (.bipush 16, 2) := by decide +kernel
theorem dX12_fits_191 : decode cX12_fits 191 = .ok (.if_icmp .ne 13, 3) := by decide +kernel
theorem dX12_fits_194 : decode cX12_fits 194 = .ok (.iload_n 3, 1) := by decide +kernel
theorem dX12_fits_195 : decode cX12_fits 195 = .ok (.bipush 16, 2) := by decide +kernel
theorem dX12_fits_197 : decode cX12_fits 197 = .ok (.if_icmp .lt 7, 3) := by decide +kernel
theorem dX12_fits_200 : decode cX12_fits 200 = .ok (.iconst 1, 1) := by decide +kernel
theorem dX12_fits_201 : decode cX12_fits 201 = .ok (.goto 4, 3) := by decide +kernel
theorem dX12_fits_204 : decode cX12_fits 204 = .ok (.iconst 0, 1) := by decide +kernel
theorem dX12_fits_205 : decode cX12_fits 205 = .ok (.ireturn, 1) := by decide +kernel
theorem dX12_fits_206 : decode cX12_fits 206 = .ok (.iload_n 3, 1) := by decide +kernel
theorem dX12_fits_207 : decode cX12_fits 207 = .ok (.bipush 8, 2) := by decide +kernel
theorem dX12_fits_209 : decode cX12_fits 209 = .ok (.irem, 1) := by decide +kernel
theorem dX12_fits_210 : decode cX12_fits 210 = .ok (.ifCond .ne 22, 3) := by decide +kernel
theorem dX12_fits_213 : decode cX12_fits 213 = .ok (.iload_n 3, 1) := by decide +kernel
theorem dX12_fits_214 : decode cX12_fits 214 = .ok (.iload_n 2, 1) := by decide +kernel
theorem dX12_fits_215 : decode cX12_fits 215 = .ok (.ifCond .eq 8, 3) := by decide +kernel
theorem dX12_fits_218 : decode cX12_fits 218 = .ok (.bipush 24, 2) := by decide +kernel
theorem dX12_fits_220 : decode cX12_fits 220 = .ok (.goto 5, 3) := by decide +kernel
theorem dX12_fits_223 : decode cX12_fits 223 = .ok (.bipush 16, 2) := by decide +kernel
theorem dX12_fits_225 : decode cX12_fits 225 = .ok (.if_icmp .lt 7, 3) := by decide +kernel
theorem dX12_fits_228 : decode cX12_fits 228 = .ok (.iconst 1, 1) := by decide +kernel
theorem dX12_fits_229 : decode cX12_fits 229 = .ok (.goto 4, 3) := by decide +kernel
theorem dX12_fits_232 : decode cX12_fits 232 = .ok (.iconst 0, 1) := by decide +kernel
theorem dX12_fits_233 : decode cX12_fits 233 = .ok (.ireturn, 1) := by decide +kernel
theorem dX12_fits_234 : decode cX12_fits 234 = .ok (.iload_n 2, 1) := by decide +kernel
theorem dX12_fits_235 : decode cX12_fits 235 = .ok (.ifCond .eq 24, 3) := by decide +kernel
theorem dX12_fits_238 : decode cX12_fits 238 = .ok (.iload_n 3, 1) := by decide +kernel
theorem dX12_fits_239 : decode cX12_fits 239 = .ok (.bipush 8, 2) := by decide +kernel
theorem dX12_fits_241 : decode cX12_fits 241 = .ok (.irem, 1) := by decide +kernel
theorem dX12_fits_242 : decode cX12_fits 242 = .ok (.ifCond .ne 13, 3) := by decide +kernel
theorem dX12_fits_245 : decode cX12_fits 245 = .ok (.iload_n 3, 1) := by decide +kernel
theorem dX12_fits_246 : decode cX12_fits 246 = .ok (.bipush 16, 2) := by decide +kernel
theorem dX12_fits_248 : decode cX12_fits 248 = .ok (.if_icmp .lt 7, 3) := by decide +kernel
theorem dX12_fits_251 : decode cX12_fits 251 = .ok (.iconst 1, 1) := by decide +kernel
theorem dX12_fits_252 : decode cX12_fits 252 = .ok (.goto 17, 3) := by decide +kernel
theorem dX12_fits_255 : decode cX12_fits 255 = .ok (.iconst 0, 1) := by decide +kernel
theorem dX12_fits_256 : decode cX12_fits 256 = .ok (.goto 13, 3) := by decide +kernel
theorem dX12_fits_259 : decode cX12_fits 259 = .ok (.iload_n 3, 1) := by decide +kernel
theorem dX12_fits_260 : decode cX12_fits 260 = .ok (.iconst 1, 1) := by decide +kernel
theorem dX12_fits_261 : decode cX12_fits 261 = .ok (.if_icmp .lt 7, 3) := by decide +kernel
theorem dX12_fits_264 : decode cX12_fits 264 = .ok (.iconst 1, 1) := by decide +kernel
theorem dX12_fits_265 : decode cX12_fits 265 = .ok (.goto 4, 3) := by decide +kernel
theorem dX12_fits_268 : decode cX12_fits 268 = .ok (.iconst 0, 1) := by decide +kernel
theorem dX12_fits_269 : decode cX12_fits 269 = .ok (.ireturn, 1) := by decide +kernel
theorem dX12_fits_270 : decode cX12_fits 270 = .ok (.iload 4, 2) := by decide +kernel
theorem dX12_fits_272 : decode cX12_fits 272 = .ok (.iconst 1, 1) := by decide +kernel
theorem dX12_fits_273 : decode cX12_fits 273 = .ok (.if_icmp .lt 19, 3) := by decide +kernel
theorem dX12_fits_276 : decode cX12_fits 276 = .ok (.iload_n 2, 1) := by decide +kernel
theorem dX12_fits_277 : decode cX12_fits 277 = .ok (.ifCond .eq 11, 3) := by decide +kernel
theorem dX12_fits_280 : decode cX12_fits 280 = .ok (.iload_n 3, 1) := by decide +kernel
theorem dX12_fits_281 : decode cX12_fits 281 = .ok (.aload_n 0, 1) := by decide +kernel
theorem dX12_fits_282 : decode cX12_fits 282 = .ok (.getfield 16, 3) := by decide +kernel
theorem dX12_fits_285 : decode cX12_fits 285 = .ok (.if_icmp .lt 7, 3) := by decide +kernel
theorem dX12_fits_288 : decode cX12_fits 288 = .ok (.iconst 1, 1) := by decide +kernel
theorem dX12_fits_289 : decode cX12_fits 289 = .ok (.goto 4, 3) := by decide +kernel
theorem dX12_fits_292 : decode cX12_fits 292 = .ok (.iconst 0, 1) := by decide +kernel
theorem dX12_fits_293 : decode cX12_fits 293 = .ok (.ireturn, 1) := by decide +kernel
theorem dX12_fits_294 : decode cX12_fits 294 = .ok (.iload 4, 2) := by decide +kernel
theorem dX12_fits_296 : decode cX12_fits 296 = .ok (.bipush 7, 2) := by decide +kernel
theorem dX12_fits_298 : decode cX12_fits 298 = .ok (.bipush 13, 2) := by decide +kernel
theorem dX12_fits_300 : decode cX12_fits 300 = .ok (.invokestatic 108, 3) := by decide +kernel
theorem dX12_fits_303 : decode cX12_fits 303 = .ok (.ifCond .eq 28, 3) := by decide +kernel
theorem dX12_fits_306 : decode cX12_fits 306 = .ok (.aload_n 0, 1) := by decide +kernel
theorem dX12_fits_307 : decode cX12_fits 307 = .ok (.getfield 16, 3) := by decide +kernel
theorem dX12_fits_310 : decode cX12_fits 310 = .ok (.iconst 2, 1) := by decide +kernel
theorem dX12_fits_311 : decode cX12_fits 311 = .ok (.irem, 1) := by decide +kernel
theorem dX12_fits_312 : decode cX12_fits 312 = .ok (.ifCond .ne 19, 3) := by decide +kernel
theorem dX12_fits_315 : decode cX12_fits 315 = .ok (.iload_n 2, 1) := by decide +kernel
theorem dX12_fits_316 : decode cX12_fits 316 = .ok (.ifCond .eq 11, 3) := by decide +kernel
theorem dX12_fits_319 : decode cX12_fits 319 = .ok (.iload_n 3, 1) := by decide +kernel
theorem dX12_fits_320 : decode cX12_fits 320 = .ok (.aload_n 0, 1) := by decide +kernel
theorem dX12_fits_321 : decode cX12_fits 321 = .ok (.getfield 16, 3) := by decide +kernel
theorem dX12_fits_324 : decode cX12_fits 324 = .ok (.if_icmp .lt 7, 3) := by decide +kernel
theorem dX12_fits_327 : decode cX12_fits 327 = .ok (.iconst 1, 1) := by decide +kernel
theorem dX12_fits_328 : decode cX12_fits 328 = .ok (.goto 4, 3) := by decide +kernel
theorem dX12_fits_331 : decode cX12_fits 331 = .ok (.iconst 0, 1) := by decide +kernel
theorem dX12_fits_332 : decode cX12_fits 332 = .ok (.ireturn, 1) := by decide +kernel
theorem dX12_fits_333 : decode cX12_fits 333 = .ok (.iload_n 2, 1) := by decide +kernel
theorem dX12_fits_334 : decode cX12_fits 334 = .ok (.ifCond .eq 11, 3) := by decide +kernel
theorem dX12_fits_337 : decode cX12_fits 337 = .ok (.iload_n 3, 1) := by decide +kernel
theorem dX12_fits_338 : decode cX12_fits 338 = .ok (.aload_n 0, 1) := by decide +kernel
theorem dX12_fits_339 : decode cX12_fits 339 = .ok (.getfield 16, 3) := by decide +kernel
theorem dX12_fits_342 : decode cX12_fits 342 = .ok (.if_icmp .lt 7, 3) := by decide +kernel
theorem dX12_fits_345 : decode cX12_fits 345 = .ok (.iconst 1, 1) := by decide +kernel
theorem dX12_fits_346 : decode cX12_fits 346 = .ok (.goto 4, 3) := by decide +kernel
theorem dX12_fits_349 : decode cX12_fits 349 = .ok (.iconst 0, 1) := by decide +kernel
theorem dX12_fits_350 : decode cX12_fits 350 = .ok (.ireturn, 1) := by decide +kernel
theorem dX12_fits_351 : decode cX12_fits 351 = .ok (.iload_n 2, 1) := by decide +kernel
theorem dX12_fits_352 : decode cX12_fits 352 = .ok (.ifCond .eq 9, 3) := by decide +kernel
theorem dX12_fits_355 : decode cX12_fits 355 = .ok (.iload_n 3, 1) := by decide +kernel
theorem dX12_fits_356 : decode cX12_fits 356 = .ok (.bipush 16, 2) := by decide +kernel
theorem dX12_fits_358 : decode cX12_fits 358 = .ok (.if_icmp .lt 7, 3) := by decide +kernel
theorem dX12_fits_361 : decode cX12_fits 361 = .ok (.iconst 1, 1) := by decide +kernel
theorem dX12_fits_362 : decode cX12_fits 362 = .ok (.goto 4, 3) := by decide +kernel
theorem dX12_fits_365 : decode cX12_fits 365 = .ok (.iconst 0, 1) := by decide +kernel
theorem dX12_fits_366 : decode cX12_fits 366 = .ok (.ireturn, 1) := by decide +kernel
theorem dX12_fits_367 : decode cX12_fits 367 = .ok (.iload 4, 2) := by decide +kernel
theorem dX12_fits_369 : decode cX12_fits 369 = .ok (.iconst 1, 1) := by decide +kernel
theorem dX12_fits_370 : decode cX12_fits 370 = .ok (.bipush 15, 2) := by decide +kernel
theorem dX12_fits_372 : decode cX12_fits 372 = .ok (.invokestatic 108, 3) := by decide +kernel
theorem dX12_fits_375 : decode cX12_fits 375 = .ok (.ifCond .eq 19, 3) := by decide +kernel
theorem dX12_fits_378 : decode cX12_fits 378 = .ok (.iload_n 2, 1) := by decide +kernel
theorem dX12_fits_379 : decode cX12_fits 379 = .ok (.ifCond .eq 11, 3) := by decide +kernel
theorem dX12_fits_382 : decode cX12_fits 382 = .ok (.iload_n 3, 1) := by decide +kernel
theorem dX12_fits_383 : decode cX12_fits 383 = .ok (.aload_n 0, 1) := by decide +kernel
theorem dX12_fits_384 : decode cX12_fits 384 = .ok (.getfield 16, 3) := by decide +kernel
theorem dX12_fits_387 : decode cX12_fits 387 = .ok (.if_icmp .lt 7, 3) := by decide +kernel
theorem dX12_fits_390 : decode cX12_fits 390 = .ok (.iconst 1, 1) := by decide +kernel
theorem dX12_fits_391 : decode cX12_fits 391 = .ok (.goto 4, 3) := by decide +kernel
theorem dX12_fits_394 : decode cX12_fits 394 = .ok (.iconst 0, 1) := by decide +kernel
theorem dX12_fits_395 : decode cX12_fits 395 = .ok (.ireturn, 1) := by decide +kernel
theorem dX12_use_0 : decode cX12_use 0 = .ok (.iload_n 1, 1) := by decide +kernel
theorem dX12_use_1 : decode cX12_use 1 = .ok (.iconst 1, 1) := by decide +kernel
theorem dX12_use_2 : decode cX12_use 2 = .ok (.bipush 16, 2) := by decide +kernel
theorem dX12_use_4 : decode cX12_use 4 = .ok (.invokestatic 108, 3) := by decide +kernel
theorem dX12_use_7 : decode cX12_use 7 = .ok (.ifCond .ne 6, 3) := by decide +kernel
theorem dX12_use_10 : decode cX12_use 10 = .ok (.bipush (-2), 2) := by decide +kernel
theorem dX12_use_12 : decode cX12_use 12 = .ok (.ireturn, 1) := by decide +kernel
theorem dX12_use_13 : decode cX12_use 13 = .ok (.aload_n 0, 1) := by decide +kernel
theorem dX12_use_14 : decode cX12_use 14 = .ok (.iload_n 1, 1) := by decide +kernel
theorem dX12_use_15 : decode cX12_use 15 = .ok (.bipush 9, 2) := by decide +kernel
theorem dX12_use_17 : decode cX12_use 17 = .ok (.if_icmp .eq 9, 3) := by decide +kernel
theorem dX12_use_20 : decode cX12_use 20 = .ok (.iload_n 1, 1) := by decide +kernel
theorem dX12_use_21 : decode cX12_use 21 = .ok (.bipush 15, 2) := by decide +kernel
theorem dX12_use_23 : decode cX12_use 23 = .ok (.if_icmp .ne 7, 3) := by decide +kernel
theorem dX12_use_26 : decode cX12_use 26 = .ok (.iconst 1, 1) := by decide +kernel
theorem dX12_use_27 : decode cX12_use 27 = .ok (.goto 4, 3) := by decide +kernel
theorem dX12_use_30 : decode cX12_use 30 = .ok (.iconst 0, 1) := by decide +kernel
theorem dX12_use_31 : decode cX12_use 31 = .ok (.invokevirtual 250, 3) := by decide +kernel
theorem dX12_use_34 : decode cX12_use 34 = .ok (.ifCond .ne 6, 3) := by decide +kernel
theorem dX12_use_37 : decode cX12_use 37 = .ok (.bipush (-3), 2) := by decide +kernel
theorem dX12_use_39 : decode cX12_use 39 = .ok (.ireturn, 1) := by decide +kernel
theorem dX12_use_40 : decode cX12_use 40 = .ok (.aload_n 0, 1) := by decide +kernel
theorem dX12_use_41 : decode cX12_use 41 = .ok (.iload_n 1, 1) := by decide +kernel
theorem dX12_use_42 : decode cX12_use 42 = .ok (.iload_n 2, 1) := by decide +kernel
theorem dX12_use_43 : decode cX12_use 43 = .ok (.invokevirtual 254, 3) := by decide +kernel
theorem dX12_use_46 : decode cX12_use 46 = .ok (.ifCond .ne 6, 3) := by decide +kernel
theorem dX12_use_49 : decode cX12_use 49 = .ok (.bipush (-2), 2) := by decide +kernel
theorem dX12_use_51 : decode cX12_use 51 = .ok (.ireturn, 1) := by decide +kernel
theorem dX12_use_52 : decode cX12_use 52 = .ok (.aload_n 0, 1) := by decide +kernel
theorem dX12_use_53 : decode cX12_use 53 = .ok (.invokevirtual 258, 3) := by decide +kernel
theorem dX12_use_56 : decode cX12_use 56 = .ok (.iconst 0, 1) := by decide +kernel
theorem dX12_use_57 : decode cX12_use 57 = .ok (.istore_n 3, 1) := by decide +kernel
theorem dX12_use_58 : decode cX12_use 58 = .ok (.iload_n 1, 1) := by decide +kernel
theorem dX12_use_59 : decode cX12_use 59 = .ok (.tableswitch 268 1 15 #[73, 81, 155, 164, 172, 180, 188, 195, 233, 241, 250, 268, 268, 268, 259], 73) := by decide +kernel
theorem dX12_use_132 : decode cX12_use 132 = .ok (.aload_n 0, 1) := by decide +kernel
theorem dX12_use_133 : decode cX12_use 133 = .ok (.iload_n 2, 1) := by decide +kernel
theorem dX12_use_134 : decode cX12_use 134 = .ok (.invokevirtual 261, 3) := by decide +kernel
theorem dX12_use_137 : decode cX12_use 137 = .ok (.goto 197, 3) := by decide +kernel
theorem dX12_use_140 : decode cX12_use 140 = .ok (.aload_n 0, 1) := by decide +kernel
theorem dX12_use_141 : decode cX12_use 141 = .ok (.getfield 47, 3) := by decide +kernel
theorem dX12_use_144 : decode cX12_use 144 = .ok (.iconst 0, 1) := by decide +kernel
theorem dX12_use_145 : decode cX12_use 145 = .ok (.aload_n 0, 1) := by decide +kernel
theorem dX12_use_146 : decode cX12_use 146 = .ok (.getfield 53, 3) := by decide +kernel
theorem dX12_use_149 : decode cX12_use 149 = .ok (.iconst 0, 1) := by decide +kernel
theorem dX12_use_150 : decode cX12_use 150 = .ok (.bipush 16, 2) := by decide +kernel
theorem dX12_use_152 : decode cX12_use 152 = .ok (.invokestatic 133, 3) := by decide +kernel
theorem dX12_use_155 : decode cX12_use 155 = .ok (.iload_n 2, 1) := by decide +kernel
theorem dX12_use_156 : decode cX12_use 156 = .ok (.ifCond .eq 17, 3) := by decide +kernel
theorem dX12_use_159 : decode cX12_use 159 = .ok (.aload_n 0, 1) := by decide +kernel
theorem dX12_use_160 : decode cX12_use 160 = .ok (.aload_n 0, 1) := by decide +kernel
theorem dX12_use_161 : decode cX12_use 161 = .ok (.getfield 130, 3) := by decide +kernel
theorem dX12_use_164 : decode cX12_use 164 = .ok (.bipush 16, 2) := by decide +kernel
theorem dX12_use_166 : decode cX12_use 166 = .ok (.idiv, 1) := by decide +kernel
theorem dX12_use_167 : decode cX12_use 167 = .ok (.invokevirtual 156, 3) := by decide +kernel
theorem dX12_use_170 : decode cX12_use 170 = .ok (.goto 33, 3) := by decide +kernel
theorem dX12_use_173 : decode cX12_use 173 = .ok (.aload_n 0, 1) := by decide +kernel
theorem dX12_use_174 : decode cX12_use 174 = .ok (.getfield 41, 3) := by decide +kernel
theorem dX12_use_177 : decode cX12_use 177 = .ok (.iconst 0, 1) := by decide +kernel
theorem dX12_use_178 : decode cX12_use 178 = .ok (.aload_n 0, 1) := by decide +kernel
theorem dX12_use_179 : decode cX12_use 179 = .ok (.getfield 44, 3) := by decide +kernel
theorem dX12_use_182 : decode cX12_use 182 = .ok (.iconst 0, 1) := by decide +kernel
theorem dX12_use_183 : decode cX12_use 183 = .ok (.aload_n 0, 1) := by decide +kernel
theorem dX12_use_184 : decode cX12_use 184 = .ok (.getfield 130, 3) := by decide +kernel
theorem dX12_use_187 : decode cX12_use 187 = .ok (.invokestatic 133, 3) := by decide +kernel
theorem dX12_use_190 : decode cX12_use 190 = .ok (.aload_n 0, 1) := by decide +kernel
theorem dX12_use_191 : decode cX12_use 191 = .ok (.iconst 0, 1) := by decide +kernel
theorem dX12_use_192 : decode cX12_use 192 = .ok (.iconst 0, 1) := by decide +kernel
theorem dX12_use_193 : decode cX12_use 193 = .ok (.aload_n 0, 1) := by decide +kernel
theorem dX12_use_194 : decode cX12_use 194 = .ok (.getfield 130, 3) := by decide +kernel
theorem dX12_use_197 : decode cX12_use 197 = .ok (.bipush 16, 2) := by decide +kernel
theorem dX12_use_199 : decode cX12_use 199 = .ok (.idiv, 1) := by decide +kernel
theorem dX12_use_200 : decode cX12_use 200 = .ok (.invokevirtual 160, 3) := by decide +kernel
theorem dX12_use_203 : decode cX12_use 203 = .ok (.aload_n 0, 1) := by decide +kernel
theorem dX12_use_204 : decode cX12_use 204 = .ok (.aload_n 0, 1) := by decide +kernel
theorem dX12_use_205 : decode cX12_use 205 = .ok (.getfield 130, 3) := by decide +kernel
theorem dX12_use_208 : decode cX12_use 208 = .ok (.putfield 153, 3) := by decide +kernel
theorem dX12_use_211 : decode cX12_use 211 = .ok (.goto 123, 3) := by decide +kernel
theorem dX12_use_214 : decode cX12_use 214 = .ok (.aload_n 0, 1) := by decide +kernel
theorem dX12_use_215 : decode cX12_use 215 = .ok (.iload_n 2, 1) := by decide +kernel
theorem dX12_use_216 : decode cX12_use 216 = .ok (.invokevirtual 265, 3) := by decide +kernel
theorem dX12_use_219 : decode cX12_use 219 = .ok (.istore_n 3, 1) := by decide +kernel
theorem dX12_use_220 : decode cX12_use 220 = .ok (.goto 114, 3) := by decide +kernel
theorem dX12_use_223 : decode cX12_use 223 = .ok (.aload_n 0, 1) := by decide +kernel
theorem dX12_use_224 : decode cX12_use 224 = .ok (.iload_n 2, 1) := by decide +kernel
theorem dX12_use_225 : decode cX12_use 225 = .ok (.invokevirtual 269, 3) := by decide +kernel
theorem dX12_use_228 : decode cX12_use 228 = .ok (.goto 106, 3) := by decide +kernel
theorem dX12_use_231 : decode cX12_use 231 = .ok (.aload_n 0, 1) := by decide +kernel
theorem dX12_use_232 : decode cX12_use 232 = .ok (.iload_n 2, 1) := by decide +kernel
theorem dX12_use_233 : decode cX12_use 233 = .ok (.invokevirtual 272, 3) := by decide +kernel
theorem dX12_use_236 : decode cX12_use 236 = .ok (.goto 98, 3) := by decide +kernel
theorem dX12_use_239 : decode cX12_use 239 = .ok (.aload_n 0, 1) := by decide +kernel
theorem dX12_use_240 : decode cX12_use 240 = .ok (.iload_n 2, 1) := by decide +kernel
theorem dX12_use_241 : decode cX12_use 241 = .ok (.invokevirtual 275, 3) := by decide +kernel
theorem dX12_use_244 : decode cX12_use 244 = .ok (.goto 90, 3) := by decide +kernel
theorem dX12_use_247 : decode cX12_use 247 = .ok (.aload_n 0, 1) := by decide +kernel
theorem dX12_use_248 : decode cX12_use 248 = .ok (.invokevirtual 278, 3) := by decide +kernel
theorem dX12_use_251 : decode cX12_use 251 = .ok (.goto 83, 3) := by decide +kernel
theorem dX12_use_254 : decode cX12_use 254 = .ok (.aload_n 0, 1) := by decide +kernel
theorem dX12_use_255 : decode cX12_use 255 = .ok (.getfield 47, 3) := by decide +kernel
theorem dX12_use_258 : decode cX12_use 258 = .ok (.iconst 0, 1) := by decide +kernel
theorem dX12_use_259 : decode cX12_use 259 = .ok (.aload_n 0, 1) := by decide +kernel
theorem dX12_use_260 : decode cX12_use 260 = .ok (.getfield 53, 3) := by decide +kernel
theorem dX12_use_263 : decode cX12_use 263 = .ok (.iconst 0, 1) := by decide +kernel
theorem dX12_use_264 : decode cX12_use 264 = .ok (.bipush 16, 2) := by decide +kernel
theorem dX12_use_266 : decode cX12_use 266 = .ok (.invokestatic 133, 3) := by decide +kernel
theorem dX12_use_269 : decode cX12_use 269 = .ok (.aload_n 0, 1) := by decide +kernel
theorem dX12_use_270 : decode cX12_use 270 = .ok (.iconst 0, 1) := by decide +kernel
theorem dX12_use_271 : decode cX12_use 271 = .ok (.iconst 0, 1) := by decide +kernel
theorem dX12_use_272 : decode cX12_use 272 = .ok (.iconst 0, 1) := by decide +kernel
theorem dX12_use_273 : decode cX12_use 273 = .ok (.aload_n 0, 1) := by decide +kernel
theorem dX12_use_274 : decode cX12_use 274 = .ok (.getfield 130, 3) := by decide +kernel
theorem dX12_use_277 : decode cX12_use 277 = .ok (.iconst 0, 1) := by decide +kernel
theorem dX12_use_278 : decode cX12_use 278 = .ok (.invokevirtual 204, 3) := by decide +kernel
theorem dX12_use_281 : decode cX12_use 281 = .ok (.aload_n 0, 1) := by decide +kernel
theorem dX12_use_282 : decode cX12_use 282 = .ok (.aload_n 0, 1) := by decide +kernel
theorem dX12_use_283 : decode cX12_use 283 = .ok (.getfield 130, 3) := by decide +kernel
theorem dX12_use_286 : decode cX12_use 286 = .ok (.putfield 153, 3) := by decide +kernel
theorem dX12_use_289 : decode cX12_use 289 = .ok (.goto 45, 3) := by decide +kernel
theorem dX12_use_292 : decode cX12_use 292 = .ok (.aload_n 0, 1) := by decide +kernel
theorem dX12_use_293 : decode cX12_use 293 = .ok (.iload_n 2, 1) := by decide +kernel
theorem dX12_use_294 : decode cX12_use 294 = .ok (.invokevirtual 281, 3) := by decide +kernel
theorem dX12_use_297 : decode cX12_use 297 = .ok (.goto 37, 3) := by decide +kernel
theorem dX12_use_300 : decode cX12_use 300 = .ok (.aload_n 0, 1) := by decide +kernel
theorem dX12_use_301 : decode cX12_use 301 = .ok (.iload_n 2, 1) := by decide +kernel
theorem dX12_use_302 : decode cX12_use 302 = .ok (.invokevirtual 284, 3) := by decide +kernel
theorem dX12_use_305 : decode cX12_use 305 = .ok (.istore_n 3, 1) := by decide +kernel
theorem dX12_use_306 : decode cX12_use 306 = .ok (.goto 28, 3) := by decide +kernel
theorem dX12_use_309 : decode cX12_use 309 = .ok (.aload_n 0, 1) := by decide +kernel
theorem dX12_use_310 : decode cX12_use 310 = .ok (.iload_n 2, 1) := by decide +kernel
theorem dX12_use_311 : decode cX12_use 311 = .ok (.invokevirtual 287, 3) := by decide +kernel
theorem dX12_use_314 : decode cX12_use 314 = .ok (.istore_n 3, 1) := by decide +kernel
theorem dX12_use_315 : decode cX12_use 315 = .ok (.goto 19, 3) := by decide +kernel
theorem dX12_use_318 : decode cX12_use 318 = .ok (.aload_n 0, 1) := by decide +kernel
theorem dX12_use_319 : decode cX12_use 319 = .ok (.iload_n 2, 1) := by decide +kernel
theorem dX12_use_320 : decode cX12_use 320 = .ok (.invokevirtual 290, 3) := by decide +kernel
theorem dX12_use_323 : decode cX12_use 323 = .ok (.istore_n 3, 1) := by decide +kernel
theorem dX12_use_324 : decode cX12_use 324 = .ok (.goto 10, 3) := by decide +kernel
theorem dX12_use_327 : decode cX12_use 327 = .ok (.aload_n 0, 1) := by decide +kernel
theorem dX12_use_328 : decode cX12_use 328 = .ok (.iload_n 1, 1) := by decide +kernel
theorem dX12_use_329 : decode cX12_use 329 = .ok (.iload_n 2, 1) := by decide +kernel
theorem dX12_use_330 : decode cX12_use 330 = .ok (.invokevirtual 293, 3) := by decide +kernel
theorem dX12_use_333 : decode cX12_use 333 = .ok (.istore_n 3, 1) := by decide +kernel
theorem dX12_use_334 : decode cX12_use 334 = .ok (.iload_n 3, 1) := by decide +kernel
theorem dX12_use_335 : decode cX12_use 335 = .ok (.ifCond .ge 7, 3) := by decide +kernel
theorem dX12_use_338 : decode cX12_use 338 = .ok (.iload_n 3, 1) := by decide +kernel
theorem dX12_use_339 : decode cX12_use 339 = .ok (.goto 15, 3) := by decide +kernel
theorem dX12_use_342 : decode cX12_use 342 = .ok (.aload_n 0, 1) := by decide +kernel
theorem dX12_use_343 : decode cX12_use 343 = .ok (.aload_n 0, 1) := by decide +kernel
theorem dX12_use_344 : decode cX12_use 344 = .ok (.getfield 44, 3) := by decide +kernel
theorem dX12_use_347 : decode cX12_use 347 = .ok (.aload_n 0, 1) := by decide +kernel
theorem dX12_use_348 : decode cX12_use 348 = .ok (.getfield 153, 3) := by decide +kernel
theorem dX12_use_351 : decode cX12_use 351 = .ok (.invokevirtual 297, 3) := by decide +kernel
theorem dX12_use_354 : decode cX12_use 354 = .ok (.ireturn, 1) := by decide +kernel
theorem dX12_come_0 : decode cX12_come 0 = .ok (.aload_n 1, 1) := by decide +kernel
theorem dX12_come_1 : decode cX12_come 1 = .ok (.iconst 0, 1) := by decide +kernel
theorem dX12_come_2 : decode cX12_come 2 = .ok (.aload_n 0, 1) := by decide +kernel
theorem dX12_come_3 : decode cX12_come 3 = .ok (.getfield 20, 3) := by decide +kernel
theorem dX12_come_6 : decode cX12_come 6 = .ok (.iconst 0, 1) := by decide +kernel
theorem dX12_come_7 : decode cX12_come 7 = .ok (.iload_n 2, 1) := by decide +kernel
theorem dX12_come_8 : decode cX12_come 8 = .ok (.invokestatic 133, 3) := by decide +kernel
theorem dX12_come_11 : decode cX12_come 11 = .ok (.aload_n 0, 1) := by decide +kernel
theorem dX12_come_12 : decode cX12_come 12 = .ok (.iload_n 2, 1) := by decide +kernel
theorem dX12_come_13 : decode cX12_come 13 = .ok (.putfield 301, 3) := by decide +kernel
theorem dX12_come_16 : decode cX12_come 16 = .ok (.iload_n 2, 1) := by decide +kernel
theorem dX12_come_17 : decode cX12_come 17 = .ok (.ireturn, 1) := by decide +kernel
theorem dX12_seal_0 : decode cX12_seal 0 = .ok (.aload_n 0, 1) := by decide +kernel
theorem dX12_seal_1 : decode cX12_seal 1 = .ok (.iconst 0, 1) := by decide +kernel
theorem dX12_seal_2 : decode cX12_seal 2 = .ok (.putfield 105, 3) := by decide +kernel
theorem dX12_seal_5 : decode cX12_seal 5 = .ok (.aload_n 0, 1) := by decide +kernel
theorem dX12_seal_6 : decode cX12_seal 6 = .ok (.iload_n 1, 1) := by decide +kernel
theorem dX12_seal_7 : decode cX12_seal 7 = .ok (.iconst 0, 1) := by decide +kernel
theorem dX12_seal_8 : decode cX12_seal 8 = .ok (.invokevirtual 304, 3) := by decide +kernel
theorem dX12_seal_11 : decode cX12_seal 11 = .ok (.ireturn, 1) := by decide +kernel
theorem dX12_open_0 : decode cX12_open 0 = .ok (.aload_n 0, 1) := by decide +kernel
theorem dX12_open_1 : decode cX12_open 1 = .ok (.iconst 0, 1) := by decide +kernel
theorem dX12_open_2 : decode cX12_open 2 = .ok (.putfield 105, 3) := by decide +kernel
theorem dX12_open_5 : decode cX12_open 5 = .ok (.aload_n 0, 1) := by decide +kernel
theorem dX12_open_6 : decode cX12_open 6 = .ok (.iload_n 1, 1) := by decide +kernel
theorem dX12_open_7 : decode cX12_open 7 = .ok (.iconst 1, 1) := by decide +kernel
theorem dX12_open_8 : decode cX12_open 8 = .ok (.invokevirtual 304, 3) := by decide +kernel
theorem dX12_open_11 : decode cX12_open 11 = .ok (.ireturn, 1) := by decide +kernel
theorem dX12_sum_0 : decode cX12_sum 0 = .ok (.aload_n 0, 1) := by decide +kernel
theorem dX12_sum_1 : decode cX12_sum 1 = .ok (.iconst 0, 1) := by decide +kernel
theorem dX12_sum_2 : decode cX12_sum 2 = .ok (.putfield 105, 3) := by decide +kernel
theorem dX12_sum_5 : decode cX12_sum 5 = .ok (.iload_n 1, 1) := by decide +kernel
theorem dX12_sum_6 : decode cX12_sum 6 = .ok (.iconst 1, 1) := by decide +kernel
theorem dX12_sum_7 : decode cX12_sum 7 = .ok (.iconst 3, 1) := by decide +kernel
theorem dX12_sum_8 : decode cX12_sum 8 = .ok (.invokestatic 108, 3) := by decide +kernel
theorem dX12_sum_11 : decode cX12_sum 11 = .ok (.ifCond .ne 6, 3) := by decide +kernel
theorem dX12_sum_14 : decode cX12_sum 14 = .ok (.bipush (-2), 2) := by decide +kernel
theorem dX12_sum_16 : decode cX12_sum 16 = .ok (.ireturn, 1) := by decide +kernel
theorem dX12_sum_17 : decode cX12_sum 17 = .ok (.aload_n 0, 1) := by decide +kernel
theorem dX12_sum_18 : decode cX12_sum 18 = .ok (.iconst 0, 1) := by decide +kernel
theorem dX12_sum_19 : decode cX12_sum 19 = .ok (.invokevirtual 250, 3) := by decide +kernel
theorem dX12_sum_22 : decode cX12_sum 22 = .ok (.ifCond .ne 6, 3) := by decide +kernel
theorem dX12_sum_25 : decode cX12_sum 25 = .ok (.bipush (-3), 2) := by decide +kernel
theorem dX12_sum_27 : decode cX12_sum 27 = .ok (.ireturn, 1) := by decide +kernel
theorem dX12_sum_28 : decode cX12_sum 28 = .ok (.iload_n 1, 1) := by decide +kernel
theorem dX12_sum_29 : decode cX12_sum 29 = .ok (.iconst 1, 1) := by decide +kernel
theorem dX12_sum_30 : decode cX12_sum 30 = .ok (.if_icmp .le 27, 3) := by decide +kernel
theorem dX12_sum_33 : decode cX12_sum 33 = .ok (.aload_n 0, 1) := by decide +kernel
theorem dX12_sum_34 : decode cX12_sum 34 = .ok (.getfield 13, 3) := by decide +kernel
theorem dX12_sum_37 : decode cX12_sum 37 = .ok (.iconst 1, 1) := by decide +kernel
theorem dX12_sum_38 : decode cX12_sum 38 = .ok (.iaload, 1) := by decide +kernel
theorem dX12_sum_39 : decode cX12_sum 39 = .ok (.bipush 16, 2) := by decide +kernel
theorem dX12_sum_41 : decode cX12_sum 41 = .ok (.irem, 1) := by decide +kernel
theorem dX12_sum_42 : decode cX12_sum 42 = .ok (.ifCond .ne 12, 3) := by decide +kernel
theorem dX12_sum_45 : decode cX12_sum 45 = .ok (.aload_n 0, 1) := by decide +kernel
theorem dX12_sum_46 : decode cX12_sum 46 = .ok (.getfield 13, 3) := by decide +kernel
theorem dX12_sum_49 : decode cX12_sum 49 = .ok (.iconst 1, 1) := by decide +kernel
theorem dX12_sum_50 : decode cX12_sum 50 = .ok (.iaload, 1) := by decide +kernel
theorem dX12_sum_51 : decode cX12_sum 51 = .ok (.ifCond .ne 6, 3) := by decide +kernel
theorem dX12_sum_54 : decode cX12_sum 54 = .ok (.bipush (-2), 2) := by decide +kernel
theorem dX12_sum_56 : decode cX12_sum 56 = .ok (.ireturn, 1) := by decide +kernel
theorem dX12_sum_57 : decode cX12_sum 57 = .ok (.aload_n 0, 1) := by decide +kernel
theorem dX12_sum_58 : decode cX12_sum 58 = .ok (.invokevirtual 258, 3) := by decide +kernel
theorem dX12_sum_61 : decode cX12_sum 61 = .ok (.iload_n 1, 1) := by decide +kernel
theorem dX12_sum_62 : decode cX12_sum 62 = .ok (.iconst 1, 1) := by decide +kernel
theorem dX12_sum_63 : decode cX12_sum 63 = .ok (.if_icmp .ne 44, 3) := by decide +kernel
theorem dX12_sum_66 : decode cX12_sum 66 = .ok (.aload_n 0, 1) := by decide +kernel
theorem dX12_sum_67 : decode cX12_sum 67 = .ok (.getfield 41, 3) := by decide +kernel
theorem dX12_sum_70 : decode cX12_sum 70 = .ok (.iconst 0, 1) := by decide +kernel
theorem dX12_sum_71 : decode cX12_sum 71 = .ok (.aload_n 0, 1) := by decide +kernel
theorem dX12_sum_72 : decode cX12_sum 72 = .ok (.getfield 80, 3) := by decide +kernel
theorem dX12_sum_75 : decode cX12_sum 75 = .ok (.iconst 0, 1) := by decide +kernel
theorem dX12_sum_76 : decode cX12_sum 76 = .ok (.aload_n 0, 1) := by decide +kernel
theorem dX12_sum_77 : decode cX12_sum 77 = .ok (.getfield 130, 3) := by decide +kernel
theorem dX12_sum_80 : decode cX12_sum 80 = .ok (.invokestatic 133, 3) := by decide +kernel
theorem dX12_sum_83 : decode cX12_sum 83 = .ok (.aload_n 0, 1) := by decide +kernel
theorem dX12_sum_84 : decode cX12_sum 84 = .ok (.aload_n 0, 1) := by decide +kernel
theorem dX12_sum_85 : decode cX12_sum 85 = .ok (.getfield 130, 3) := by decide +kernel
theorem dX12_sum_88 : decode cX12_sum 88 = .ok (.putfield 195, 3) := by decide +kernel
theorem dX12_sum_91 : decode cX12_sum 91 = .ok (.aload_n 0, 1) := by decide +kernel
theorem dX12_sum_92 : decode cX12_sum 92 = .ok (.iconst 0, 1) := by decide +kernel
theorem dX12_sum_93 : decode cX12_sum 93 = .ok (.invokevirtual 211, 3) := by decide +kernel
theorem dX12_sum_96 : decode cX12_sum 96 = .ok (.aload_n 0, 1) := by decide +kernel
theorem dX12_sum_97 : decode cX12_sum 97 = .ok (.aload_n 0, 1) := by decide +kernel
theorem dX12_sum_98 : decode cX12_sum 98 = .ok (.getfield 74, 3) := by decide +kernel
theorem dX12_sum_101 : decode cX12_sum 101 = .ok (.bipush 16, 2) := by decide +kernel
theorem dX12_sum_103 : decode cX12_sum 103 = .ok (.invokevirtual 297, 3) := by decide +kernel
theorem dX12_sum_106 : decode cX12_sum 106 = .ok (.ireturn, 1) := by decide +kernel
theorem dX12_sum_107 : decode cX12_sum 107 = .ok (.iload_n 1, 1) := by decide +kernel
theorem dX12_sum_108 : decode cX12_sum 108 = .ok (.iconst 2, 1) := by decide +kernel
theorem dX12_sum_109 : decode cX12_sum 109 = .ok (.if_icmp .ne 36, 3) := by decide +kernel
theorem dX12_sum_112 : decode cX12_sum 112 = .ok (.aload_n 0, 1) := by decide +kernel
theorem dX12_sum_113 : decode cX12_sum 113 = .ok (.getfield 74, 3) := by decide +kernel
theorem dX12_sum_116 : decode cX12_sum 116 = .ok (.iconst 0, 1) := by decide +kernel
theorem dX12_sum_117 : decode cX12_sum 117 = .ok (.bipush 16, 2) := by decide +kernel
theorem dX12_sum_119 : decode cX12_sum 119 = .ok (.invokestatic 164, 3) := by decide +kernel
theorem dX12_sum_122 : decode cX12_sum 122 = .ok (.aload_n 0, 1) := by decide +kernel
theorem dX12_sum_123 : decode cX12_sum 123 = .ok (.aload_n 0, 1) := by decide +kernel
theorem dX12_sum_124 : decode cX12_sum 124 = .ok (.getfield 41, 3) := by decide +kernel
theorem dX12_sum_127 : decode cX12_sum 127 = .ok (.aload_n 0, 1) := by decide +kernel
theorem dX12_sum_128 : decode cX12_sum 128 = .ok (.getfield 130, 3) := by decide +kernel
theorem dX12_sum_131 : decode cX12_sum 131 = .ok (.invokevirtual 208, 3) := by decide +kernel
theorem dX12_sum_134 : decode cX12_sum 134 = .ok (.aload_n 0, 1) := by decide +kernel
theorem dX12_sum_135 : decode cX12_sum 135 = .ok (.aload_n 0, 1) := by decide +kernel
theorem dX12_sum_136 : decode cX12_sum 136 = .ok (.getfield 74, 3) := by decide +kernel
theorem dX12_sum_139 : decode cX12_sum 139 = .ok (.bipush 16, 2) := by decide +kernel
theorem dX12_sum_141 : decode cX12_sum 141 = .ok (.invokevirtual 297, 3) := by decide +kernel
theorem dX12_sum_144 : decode cX12_sum 144 = .ok (.ireturn, 1) := by decide +kernel
theorem dX12_sum_145 : decode cX12_sum 145 = .ok (.aload_n 0, 1) := by decide +kernel
theorem dX12_sum_146 : decode cX12_sum 146 = .ok (.getfield 62, 3) := by decide +kernel
theorem dX12_sum_149 : decode cX12_sum 149 = .ok (.iconst 0, 1) := by decide +kernel
theorem dX12_sum_150 : decode cX12_sum 150 = .ok (.bipush 16, 2) := by decide +kernel
theorem dX12_sum_152 : decode cX12_sum 152 = .ok (.invokestatic 164, 3) := by decide +kernel
theorem dX12_sum_155 : decode cX12_sum 155 = .ok (.aload_n 0, 1) := by decide +kernel
theorem dX12_sum_156 : decode cX12_sum 156 = .ok (.iconst 0, 1) := by decide +kernel
theorem dX12_sum_157 : decode cX12_sum 157 = .ok (.aload_n 0, 1) := by decide +kernel
theorem dX12_sum_158 : decode cX12_sum 158 = .ok (.getfield 62, 3) := by decide +kernel
theorem dX12_sum_161 : decode cX12_sum 161 = .ok (.iconst 0, 1) := by decide +kernel
theorem dX12_sum_162 : decode cX12_sum 162 = .ok (.invokevirtual 146, 3) := by decide +kernel
theorem dX12_sum_165 : decode cX12_sum 165 = .ok (.aload_n 0, 1) := by decide +kernel
theorem dX12_sum_166 : decode cX12_sum 166 = .ok (.getfield 65, 3) := by decide +kernel
theorem dX12_sum_169 : decode cX12_sum 169 = .ok (.iconst 0, 1) := by decide +kernel
theorem dX12_sum_170 : decode cX12_sum 170 = .ok (.bipush 16, 2) := by decide +kernel
theorem dX12_sum_172 : decode cX12_sum 172 = .ok (.invokestatic 164, 3) := by decide +kernel
theorem dX12_sum_175 : decode cX12_sum 175 = .ok (.aload_n 0, 1) := by decide +kernel
theorem dX12_sum_176 : decode cX12_sum 176 = .ok (.aload_n 0, 1) := by decide +kernel
theorem dX12_sum_177 : decode cX12_sum 177 = .ok (.getfield 41, 3) := by decide +kernel
theorem dX12_sum_180 : decode cX12_sum 180 = .ok (.iconst 0, 1) := by decide +kernel
theorem dX12_sum_181 : decode cX12_sum 181 = .ok (.aload_n 0, 1) := by decide +kernel
theorem dX12_sum_182 : decode cX12_sum 182 = .ok (.getfield 130, 3) := by decide +kernel
theorem dX12_sum_185 : decode cX12_sum 185 = .ok (.invokevirtual 198, 3) := by decide +kernel
theorem dX12_sum_188 : decode cX12_sum 188 = .ok (.aload_n 0, 1) := by decide +kernel
theorem dX12_sum_189 : decode cX12_sum 189 = .ok (.aload_n 0, 1) := by decide +kernel
theorem dX12_sum_190 : decode cX12_sum 190 = .ok (.getfield 65, 3) := by decide +kernel
theorem dX12_sum_193 : decode cX12_sum 193 = .ok (.bipush 16, 2) := by decide +kernel
theorem dX12_sum_195 : decode cX12_sum 195 = .ok (.invokevirtual 297, 3) := by decide +kernel
theorem dX12_sum_198 : decode cX12_sum 198 = .ok (.ireturn, 1) := by decide +kernel
theorem dX12_out_0 : decode cX12_out 0 = .ok (.aload_n 0, 1) := by decide +kernel
theorem dX12_out_1 : decode cX12_out 1 = .ok (.iconst 0, 1) := by decide +kernel
theorem dX12_out_2 : decode cX12_out 2 = .ok (.putfield 105, 3) := by decide +kernel
theorem dX12_out_5 : decode cX12_out 5 = .ok (.iload_n 1, 1) := by decide +kernel
theorem dX12_out_6 : decode cX12_out 6 = .ok (.iconst 0, 1) := by decide +kernel
theorem dX12_out_7 : decode cX12_out 7 = .ok (.aload_n 0, 1) := by decide +kernel
theorem dX12_out_8 : decode cX12_out 8 = .ok (.getfield 301, 3) := by decide +kernel
theorem dX12_out_11 : decode cX12_out 11 = .ok (.iconst 1, 1) := by decide +kernel
theorem dX12_out_12 : decode cX12_out 12 = .ok (.isub, 1) := by decide +kernel
theorem dX12_out_13 : decode cX12_out 13 = .ok (.invokestatic 108, 3) := by decide +kernel
theorem dX12_out_16 : decode cX12_out 16 = .ok (.ifCond .eq 12, 3) := by decide +kernel
theorem dX12_out_19 : decode cX12_out 19 = .ok (.aload_n 0, 1) := by decide +kernel
theorem dX12_out_20 : decode cX12_out 20 = .ok (.getfield 20, 3) := by decide +kernel
theorem dX12_out_23 : decode cX12_out 23 = .ok (.iload_n 1, 1) := by decide +kernel
theorem dX12_out_24 : decode cX12_out 24 = .ok (.iaload, 1) := by decide +kernel
theorem dX12_out_25 : decode cX12_out 25 = .ok (.goto 5, 3) := by decide +kernel
theorem dX12_out_28 : decode cX12_out 28 = .ok (.bipush (-2), 2) := by decide +kernel
theorem dX12_out_30 : decode cX12_out 30 = .ok (.ireturn, 1) := by decide +kernel
theorem dX12_take_0 : decode cX12_take 0 = .ok (.aload_n 0, 1) := by decide +kernel
theorem dX12_take_1 : decode cX12_take 1 = .ok (.iconst 0, 1) := by decide +kernel
theorem dX12_take_2 : decode cX12_take 2 = .ok (.putfield 105, 3) := by decide +kernel
theorem dX12_take_5 : decode cX12_take 5 = .ok (.iload_n 1, 1) := by decide +kernel
theorem dX12_take_6 : decode cX12_take 6 = .ok (.iconst 0, 1) := by decide +kernel
theorem dX12_take_7 : decode cX12_take 7 = .ok (.iconst 3, 1) := by decide +kernel
theorem dX12_take_8 : decode cX12_take 8 = .ok (.invokestatic 108, 3) := by decide +kernel
theorem dX12_take_11 : decode cX12_take 11 = .ok (.ifCond .ne 6, 3) := by decide +kernel
theorem dX12_take_14 : decode cX12_take 14 = .ok (.bipush (-2), 2) := by decide +kernel
theorem dX12_take_16 : decode cX12_take 16 = .ok (.ireturn, 1) := by decide +kernel
theorem dX12_take_17 : decode cX12_take 17 = .ok (.aload_n 0, 1) := by decide +kernel
theorem dX12_take_18 : decode cX12_take 18 = .ok (.getfield 301, 3) := by decide +kernel
theorem dX12_take_21 : decode cX12_take 21 = .ok (.iload_n 1, 1) := by decide +kernel
theorem dX12_take_22 : decode cX12_take 22 = .ok (.invokestatic 112, 3) := by decide +kernel
theorem dX12_take_25 : decode cX12_take 25 = .ok (.if_icmp .le 6, 3) := by decide +kernel
theorem dX12_take_28 : decode cX12_take 28 = .ok (.bipush (-4), 2) := by decide +kernel
theorem dX12_take_30 : decode cX12_take 30 = .ok (.ireturn, 1) := by decide +kernel
theorem dX12_take_31 : decode cX12_take 31 = .ok (.aload_n 0, 1) := by decide +kernel
theorem dX12_take_32 : decode cX12_take 32 = .ok (.getfield 20, 3) := by decide +kernel
theorem dX12_take_35 : decode cX12_take 35 = .ok (.iconst 0, 1) := by decide +kernel
theorem dX12_take_36 : decode cX12_take 36 = .ok (.aload_n 0, 1) := by decide +kernel
theorem dX12_take_37 : decode cX12_take 37 = .ok (.getfield 7, 3) := by decide +kernel
theorem dX12_take_40 : decode cX12_take 40 = .ok (.sipush 512, 3) := by decide +kernel
theorem dX12_take_43 : decode cX12_take 43 = .ok (.iload_n 1, 1) := by decide +kernel
theorem dX12_take_44 : decode cX12_take 44 = .ok (.imul, 1) := by decide +kernel
theorem dX12_take_45 : decode cX12_take 45 = .ok (.aload_n 0, 1) := by decide +kernel
theorem dX12_take_46 : decode cX12_take 46 = .ok (.getfield 301, 3) := by decide +kernel
theorem dX12_take_49 : decode cX12_take 49 = .ok (.invokestatic 133, 3) := by decide +kernel
theorem dX12_take_52 : decode cX12_take 52 = .ok (.aload_n 0, 1) := by decide +kernel
theorem dX12_take_53 : decode cX12_take 53 = .ok (.getfield 13, 3) := by decide +kernel
theorem dX12_take_56 : decode cX12_take 56 = .ok (.iload_n 1, 1) := by decide +kernel
theorem dX12_take_57 : decode cX12_take 57 = .ok (.aload_n 0, 1) := by decide +kernel
theorem dX12_take_58 : decode cX12_take 58 = .ok (.getfield 301, 3) := by decide +kernel
theorem dX12_take_61 : decode cX12_take 61 = .ok (.iastore, 1) := by decide +kernel
theorem dX12_take_62 : decode cX12_take 62 = .ok (.aload_n 0, 1) := by decide +kernel
theorem dX12_take_63 : decode cX12_take 63 = .ok (.getfield 301, 3) := by decide +kernel
theorem dX12_take_66 : decode cX12_take 66 = .ok (.ireturn, 1) := by decide +kernel
theorem dX12_roundKey_0 : decode cX12_roundKey 0 = .ok (.aload_n 0, 1) := by decide +kernel
theorem dX12_roundKey_1 : decode cX12_roundKey 1 = .ok (.iconst 0, 1) := by decide +kernel
theorem dX12_roundKey_2 : decode cX12_roundKey 2 = .ok (.putfield 105, 3) := by decide +kernel
theorem dX12_roundKey_5 : decode cX12_roundKey 5 = .ok (.aload_n 0, 1) := by decide +kernel
theorem dX12_roundKey_6 : decode cX12_roundKey 6 = .ok (.iconst 0, 1) := by decide +kernel
theorem dX12_roundKey_7 : decode cX12_roundKey 7 = .ok (.invokevirtual 250, 3) := by decide +kernel
theorem dX12_roundKey_10 : decode cX12_roundKey 10 = .ok (.ifCond .ne 6, 3) := by decide +kernel
theorem dX12_roundKey_13 : decode cX12_roundKey 13 = .ok (.bipush (-3), 2) := by decide +kernel
theorem dX12_roundKey_15 : decode cX12_roundKey 15 = .ok (.ireturn, 1) := by decide +kernel
theorem dX12_roundKey_16 : decode cX12_roundKey 16 = .ok (.iload_n 1, 1) := by decide +kernel
theorem dX12_roundKey_17 : decode cX12_roundKey 17 = .ok (.iconst 0, 1) := by decide +kernel
theorem dX12_roundKey_18 : decode cX12_roundKey 18 = .ok (.bipush 16, 2) := by decide +kernel
theorem dX12_roundKey_20 : decode cX12_roundKey 20 = .ok (.aload_n 0, 1) := by decide +kernel
theorem dX12_roundKey_21 : decode cX12_roundKey 21 = .ok (.getfield 32, 3) := by decide +kernel
theorem dX12_roundKey_24 : decode cX12_roundKey 24 = .ok (.iconst 0, 1) := by decide +kernel
theorem dX12_roundKey_25 : decode cX12_roundKey 25 = .ok (.iaload, 1) := by decide +kernel
theorem dX12_roundKey_26 : decode cX12_roundKey 26 = .ok (.imul, 1) := by decide +kernel
theorem dX12_roundKey_27 : decode cX12_roundKey 27 = .ok (.bipush 15, 2) := by decide +kernel
theorem dX12_roundKey_29 : decode cX12_roundKey 29 = .ok (.iadd, 1) := by decide +kernel
theorem dX12_roundKey_30 : decode cX12_roundKey 30 = .ok (.invokestatic 108, 3) := by decide +kernel
theorem dX12_roundKey_33 : decode cX12_roundKey 33 = .ok (.ifCond .eq 12, 3) := by decide +kernel
theorem dX12_roundKey_36 : decode cX12_roundKey 36 = .ok (.aload_n 0, 1) := by decide +kernel
theorem dX12_roundKey_37 : decode cX12_roundKey 37 = .ok (.getfield 29, 3) := by decide +kernel
theorem dX12_roundKey_40 : decode cX12_roundKey 40 = .ok (.iload_n 1, 1) := by decide +kernel
theorem dX12_roundKey_41 : decode cX12_roundKey 41 = .ok (.iaload, 1) := by decide +kernel
theorem dX12_roundKey_42 : decode cX12_roundKey 42 = .ok (.goto 5, 3) := by decide +kernel
theorem dX12_roundKey_45 : decode cX12_roundKey 45 = .ok (.bipush (-2), 2) := by decide +kernel
theorem dX12_roundKey_47 : decode cX12_roundKey 47 = .ok (.ireturn, 1) := by decide +kernel

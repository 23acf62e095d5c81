theorem dX12_init_0 : decode cX12_init 0 = .ok (.aload_n 0, 1) := by decide +kernel
theorem dX12_init_1 : decode cX12_init 1 = .ok (.invokespecial 1, 3) := by decide +kernel
theorem dX12_init_4 : decode cX12_init 4 = .ok (.aload_n 0, 1) := by decide +kernel
theorem dX12_init_5 : decode cX12_init 5 = .ok (.sipush 2048, 3) := by decide +kernel
theorem dX12_init_8 : decode cX12_init 8 = .ok (.newarray .int, 2) := by decide +kernel
theorem dX12_init_10 : decode cX12_init 10 = .ok (.putfield 7, 3) := by decide +kernel
theorem dX12_init_13 : decode cX12_init 13 = .ok (.aload_n 0, 1) := by decide +kernel
theorem dX12_init_14 : decode cX12_init 14 = .ok (.iconst 4, 1) := by decide +kernel
theorem dX12_init_15 : decode cX12_init 15 = .ok (.newarray .int, 2) := by decide +kernel
theorem dX12_init_17 : decode cX12_init 17 = .ok (.putfield 13, 3) := by decide +kernel
theorem dX12_init_20 : decode cX12_init 20 = .ok (.aload_n 0, 1) := by decide +kernel
theorem dX12_init_21 : decode cX12_init 21 = .ok (.bipush 16, 2) := by decide +kernel
theorem dX12_init_23 : decode cX12_init 23 = .ok (.putfield 16, 3) := by decide +kernel
theorem dX12_init_26 : decode cX12_init 26 = .ok (.aload_n 0, 1) := by decide +kernel
theorem dX12_init_27 : decode cX12_init 27 = .ok (.sipush 700, 3) := by decide +kernel
theorem dX12_init_30 : decode cX12_init 30 = .ok (.newarray .int, 2) := by decide +kernel
theorem dX12_init_32 : decode cX12_init 32 = .ok (.putfield 20, 3) := by decide +kernel
theorem dX12_init_35 : decode cX12_init 35 = .ok (.aload_n 0, 1) := by decide +kernel
theorem dX12_init_36 : decode cX12_init 36 = .ok (.sipush 256, 3) := by decide +kernel
theorem dX12_init_39 : decode cX12_init 39 = .ok (.newarray .int, 2) := by decide +kernel
theorem dX12_init_41 : decode cX12_init 41 = .ok (.putfield 23, 3) := by decide +kernel
theorem dX12_init_44 : decode cX12_init 44 = .ok (.aload_n 0, 1) := by decide +kernel
theorem dX12_init_45 : decode cX12_init 45 = .ok (.sipush 256, 3) := by decide +kernel
theorem dX12_init_48 : decode cX12_init 48 = .ok (.newarray .int, 2) := by decide +kernel
theorem dX12_init_50 : decode cX12_init 50 = .ok (.putfield 26, 3) := by decide +kernel
theorem dX12_init_53 : decode cX12_init 53 = .ok (.aload_n 0, 1) := by decide +kernel
theorem dX12_init_54 : decode cX12_init 54 = .ok (.sipush 480, 3) := by decide +kernel
theorem dX12_init_57 : decode cX12_init 57 = .ok (.newarray .int, 2) := by decide +kernel
theorem dX12_init_59 : decode cX12_init 59 = .ok (.putfield 29, 3) := by decide +kernel
theorem dX12_init_62 : decode cX12_init 62 = .ok (.aload_n 0, 1) := by decide +kernel
theorem dX12_init_63 : decode cX12_init 63 = .ok (.iconst 2, 1) := by decide +kernel
theorem dX12_init_64 : decode cX12_init 64 = .ok (.newarray .int, 2) := by decide +kernel
theorem dX12_init_66 : decode cX12_init 66 = .ok (.putfield 32, 3) := by decide +kernel
theorem dX12_init_69 : decode cX12_init 69 = .ok (.aload_n 0, 1) := by decide +kernel
theorem dX12_init_70 : decode cX12_init 70 = .ok (.bipush 16, 2) := by decide +kernel
theorem dX12_init_72 : decode cX12_init 72 = .ok (.newarray .int, 2) := by decide +kernel
theorem dX12_init_74 : decode cX12_init 74 = .ok (.putfield 35, 3) := by decide +kernel
theorem dX12_init_77 : decode cX12_init 77 = .ok (.aload_n 0, 1) := by decide +kernel
theorem dX12_init_78 : decode cX12_init 78 = .ok (.bipush 16, 2) := by decide +kernel
theorem dX12_init_80 : decode cX12_init 80 = .ok (.newarray .int, 2) := by decide +kernel
theorem dX12_init_82 : decode cX12_init 82 = .ok (.putfield 38, 3) := by decide +kernel
theorem dX12_init_85 : decode cX12_init 85 = .ok (.aload_n 0, 1) := by decide +kernel
theorem dX12_init_86 : decode cX12_init 86 = .ok (.sipush 700, 3) := by decide +kernel
theorem dX12_init_89 : decode cX12_init 89 = .ok (.newarray .int, 2) := by decide +kernel
theorem dX12_init_91 : decode cX12_init 91 = .ok (.putfield 41, 3) := by decide +kernel
theorem dX12_init_94 : decode cX12_init 94 = .ok (.aload_n 0, 1) := by decide +kernel
theorem dX12_init_95 : decode cX12_init 95 = .ok (.sipush 700, 3) := by decide +kernel
theorem dX12_init_98 : decode cX12_init 98 = .ok (.newarray .int, 2) := by decide +kernel
theorem dX12_init_100 : decode cX12_init 100 = .ok (.putfield 44, 3) := by decide +kernel
theorem dX12_init_103 : decode cX12_init 103 = .ok (.aload_n 0, 1) := by decide +kernel
theorem dX12_init_104 : decode cX12_init 104 = .ok (.bipush 64, 2) := by decide +kernel
theorem dX12_init_106 : decode cX12_init 106 = .ok (.newarray .int, 2) := by decide +kernel
theorem dX12_init_108 : decode cX12_init 108 = .ok (.putfield 47, 3) := by decide +kernel
theorem dX12_init_111 : decode cX12_init 111 = .ok (.aload_n 0, 1) := by decide +kernel
theorem dX12_init_112 : decode cX12_init 112 = .ok (.sipush 256, 3) := by decide +kernel
theorem dX12_init_115 : decode cX12_init 115 = .ok (.newarray .int, 2) := by decide +kernel
theorem dX12_init_117 : decode cX12_init 117 = .ok (.putfield 50, 3) := by decide +kernel
theorem dX12_init_120 : decode cX12_init 120 = .ok (.aload_n 0, 1) := by decide +kernel
theorem dX12_init_121 : decode cX12_init 121 = .ok (.bipush 16, 2) := by decide +kernel
theorem dX12_init_123 : decode cX12_init 123 = .ok (.newarray .int, 2) := by decide +kernel
theorem dX12_init_125 : decode cX12_init 125 = .ok (.putfield 53, 3) := by decide +kernel
theorem dX12_init_128 : decode cX12_init 128 = .ok (.aload_n 0, 1) := by decide +kernel
theorem dX12_init_129 : decode cX12_init 129 = .ok (.bipush 16, 2) := by decide +kernel
theorem dX12_init_131 : decode cX12_init 131 = .ok (.newarray .int, 2) := by decide +kernel
theorem dX12_init_133 : decode cX12_init 133 = .ok (.putfield 56, 3) := by decide +kernel
theorem dX12_init_136 : decode cX12_init 136 = .ok (.aload_n 0, 1) := by decide +kernel
theorem dX12_init_137 : decode cX12_init 137 = .ok (.bipush 16, 2) := by decide +kernel
theorem dX12_init_139 : decode cX12_init 139 = .ok (.newarray .int, 2) := by decide +kernel
theorem dX12_init_141 : decode cX12_init 141 = .ok (.putfield 59, 3) := by decide +kernel
theorem dX12_init_144 : decode cX12_init 144 = .ok (.aload_n 0, 1) := by decide +kernel
theorem dX12_init_145 : decode cX12_init 145 = .ok (.bipush 16, 2) := by decide +kernel
theorem dX12_init_147 : decode cX12_init 147 = .ok (.newarray .int, 2) := by decide +kernel
theorem dX12_init_149 : decode cX12_init 149 = .ok (.putfield 62, 3) := by decide +kernel
theorem dX12_init_152 : decode cX12_init 152 = .ok (.aload_n 0, 1) := by decide +kernel
theorem dX12_init_153 : decode cX12_init 153 = .ok (.bipush 16, 2) := by decide +kernel
theorem dX12_init_155 : decode cX12_init 155 = .ok (.newarray .int, 2) := by decide +kernel
theorem dX12_init_157 : decode cX12_init 157 = .ok (.putfield 65, 3) := by decide +kernel
theorem dX12_init_160 : decode cX12_init 160 = .ok (.aload_n 0, 1) := by decide +kernel
theorem dX12_init_161 : decode cX12_init 161 = .ok (.bipush 16, 2) := by decide +kernel
theorem dX12_init_163 : decode cX12_init 163 = .ok (.newarray .int, 2) := by decide +kernel
theorem dX12_init_165 : decode cX12_init 165 = .ok (.putfield 68, 3) := by decide +kernel
theorem dX12_init_168 : decode cX12_init 168 = .ok (.aload_n 0, 1) := by decide +kernel
theorem dX12_init_169 : decode cX12_init 169 = .ok (.bipush 16, 2) := by decide +kernel
theorem dX12_init_171 : decode cX12_init 171 = .ok (.newarray .int, 2) := by decide +kernel
theorem dX12_init_173 : decode cX12_init 173 = .ok (.putfield 71, 3) := by decide +kernel
theorem dX12_init_176 : decode cX12_init 176 = .ok (.aload_n 0, 1) := by decide +kernel
theorem dX12_init_177 : decode cX12_init 177 = .ok (.bipush 16, 2) := by decide +kernel
theorem dX12_init_179 : decode cX12_init 179 = .ok (.newarray .int, 2) := by decide +kernel
theorem dX12_init_181 : decode cX12_init 181 = .ok (.putfield 74, 3) := by decide +kernel
theorem dX12_init_184 : decode cX12_init 184 = .ok (.aload_n 0, 1) := by decide +kernel
theorem dX12_init_185 : decode cX12_init 185 = .ok (.bipush 16, 2) := by decide +kernel
theorem dX12_init_187 : decode cX12_init 187 = .ok (.newarray .int, 2) := by decide +kernel
theorem dX12_init_189 : decode cX12_init 189 = .ok (.putfield 77, 3) := by decide +kernel
theorem dX12_init_192 : decode cX12_init 192 = .ok (.aload_n 0, 1) := by decide +kernel
theorem dX12_init_193 : decode cX12_init 193 = .ok (.sipush 700, 3) := by decide +kernel
theorem dX12_init_196 : decode cX12_init 196 = .ok (.newarray .int, 2) := by decide +kernel
theorem dX12_init_198 : decode cX12_init 198 = .ok (.putfield 80, 3) := by decide +kernel
theorem dX12_init_201 : decode cX12_init 201 = .ok (.aload_n 0, 1) := by decide +kernel
theorem dX12_init_202 : decode cX12_init 202 = .ok (.bipush 16, 2) := by decide +kernel
theorem dX12_init_204 : decode cX12_init 204 = .ok (.newarray .int, 2) := by decide +kernel
theorem dX12_init_206 : decode cX12_init 206 = .ok (.putfield 83, 3) := by decide +kernel
theorem dX12_init_209 : decode cX12_init 209 = .ok (.aload_n 0, 1) := by decide +kernel
theorem dX12_init_210 : decode cX12_init 210 = .ok (.bipush 16, 2) := by decide +kernel
theorem dX12_init_212 : decode cX12_init 212 = .ok (.newarray .int, 2) := by decide +kernel
theorem dX12_init_214 : decode cX12_init 214 = .ok (.putfield 86, 3) := by decide +kernel
theorem dX12_init_217 : decode cX12_init 217 = .ok (.aload_n 0, 1) := by decide +kernel
theorem dX12_init_218 : decode cX12_init 218 = .ok (.sipush 160, 3) := by decide +kernel
theorem dX12_init_221 : decode cX12_init 221 = .ok (.newarray .int, 2) := by decide +kernel
theorem dX12_init_223 : decode cX12_init 223 = .ok (.putfield 89, 3) := by decide +kernel
theorem dX12_init_226 : decode cX12_init 226 = .ok (.aload_n 0, 1) := by decide +kernel
theorem dX12_init_227 : decode cX12_init 227 = .ok (.bipush 16, 2) := by decide +kernel
theorem dX12_init_229 : decode cX12_init 229 = .ok (.newarray .int, 2) := by decide +kernel
theorem dX12_init_231 : decode cX12_init 231 = .ok (.putfield 92, 3) := by decide +kernel
theorem dX12_init_234 : decode cX12_init 234 = .ok (.aload_n 0, 1) := by decide +kernel
theorem dX12_init_235 : decode cX12_init 235 = .ok (.bipush 16, 2) := by decide +kernel
theorem dX12_init_237 : decode cX12_init 237 = .ok (.newarray .int, 2) := by decide +kernel
theorem dX12_init_239 : decode cX12_init 239 = .ok (.putfield 95, 3) := by decide +kernel
theorem dX12_init_242 : decode cX12_init 242 = .ok (.aload_n 0, 1) := by decide +kernel
theorem dX12_init_243 : decode cX12_init 243 = .ok (.bipush 24, 2) := by decide +kernel
theorem dX12_init_245 : decode cX12_init 245 = .ok (.newarray .int, 2) := by decide +kernel
theorem dX12_init_247 : decode cX12_init 247 = .ok (.putfield 98, 3) := by decide +kernel
theorem dX12_init_250 : decode cX12_init 250 = .ok (.iconst 0, 1) := by decide +kernel
theorem dX12_init_251 : decode cX12_init 251 = .ok (.istore_n 1, 1) := by decide +kernel
theorem dX12_init_252 : decode cX12_init 252 = .ok (.iload_n 1, 1) := by decide +kernel
theorem dX12_init_253 : decode cX12_init 253 = .ok (.sipush 256, 3) := by decide +kernel
theorem dX12_init_256 : decode cX12_init 256 = .ok (.if_icmp .ge 142, 3) := by decide +kernel
theorem dX12_init_259 : decode cX12_init 259 = .ok (.iload_n 1, 1) := by decide +kernel
theorem dX12_init_260 : decode cX12_init 260 = .ok (.istore_n 2, 1) := by decide +kernel
theorem dX12_init_261 : decode cX12_init 261 = .ok (.iconst 1, 1) := by decide +kernel
theorem dX12_init_262 : decode cX12_init 262 = .ok (.istore_n 3, 1) := by decide +kernel
theorem dX12_init_263 : decode cX12_init 263 = .ok (.iconst 0, 1) := by decide +kernel
theorem dX12_init_264 : decode cX12_init 264 = .ok (.istore 4, 2) := by decide +kernel
theorem dX12_init_266 : decode cX12_init 266 = .ok (.iload 4, 2) := by decide +kernel
theorem dX12_init_268 : decode cX12_init 268 = .ok (.bipush 7, 2) := by decide +kernel
theorem dX12_init_270 : decode cX12_init 270 = .ok (.if_icmp .ge 21, 3) := by decide +kernel
theorem dX12_init_273 : decode cX12_init 273 = .ok (.iload_n 2, 1) := by decide +kernel
theorem dX12_init_274 : decode cX12_init 274 = .ok (.iload_n 2, 1) := by decide +kernel
theorem dX12_init_275 : decode cX12_init 275 = .ok (.invokestatic 101, 3) := by decide +kernel
theorem dX12_init_278 : decode cX12_init 278 = .ok (.istore_n 2, 1) := by decide +kernel
theorem dX12_init_279 : decode cX12_init 279 = .ok (.iload_n 3, 1) := by decide +kernel
theorem dX12_init_280 : decode cX12_init 280 = .ok (.iload_n 2, 1) := by decide +kernel
theorem dX12_init_281 : decode cX12_init 281 = .ok (.invokestatic 101, 3) := by decide +kernel
theorem dX12_init_284 : decode cX12_init 284 = .ok (.istore_n 3, 1) := by decide +kernel
theorem dX12_init_285 : decode cX12_init 285 = .ok (.iinc 4 1, 3) := by decide +kernel
theorem dX12_init_288 : decode cX12_init 288 = .ok (.goto (-22), 3) := by decide +kernel
theorem dX12_init_291 : decode cX12_init 291 = .ok (.iconst 0, 1) := by decide +kernel
theorem dX12_init_292 : decode cX12_init 292 = .ok (.istore 4, 2) := by decide +kernel
theorem dX12_init_294 : decode cX12_init 294 = .ok (.iconst 0, 1) := by decide +kernel
theorem dX12_init_295 : decode cX12_init 295 = .ok (.istore 5, 2) := by decide +kernel
theorem dX12_init_297 : decode cX12_init 297 = .ok (.iload 5, 2) := by decide +kernel
theorem dX12_init_299 : decode cX12_init 299 = .ok (.bipush 8, 2) := by decide +kernel
theorem dX12_init_301 : decode cX12_init 301 = .ok (.if_icmp .ge 75, 3) := by decide +kernel
theorem dX12_init_304 : decode cX12_init 304 = .ok (.iload_n 3, 1) := by decide +kernel
theorem dX12_init_305 : decode cX12_init 305 = .ok (.iload 5, 2) := by decide +kernel
theorem dX12_init_307 : decode cX12_init 307 = .ok (.ishr, 1) := by decide +kernel
theorem dX12_init_308 : decode cX12_init 308 = .ok (.iload_n 3, 1) := by decide +kernel
theorem dX12_init_309 : decode cX12_init 309 = .ok (.iload 5, 2) := by decide +kernel
theorem dX12_init_311 : decode cX12_init 311 = .ok (.iconst 4, 1) := by decide +kernel
theorem dX12_init_312 : decode cX12_init 312 = .ok (.iadd, 1) := by decide +kernel
theorem dX12_init_313 : decode cX12_init 313 = .ok (.bipush 8, 2) := by decide +kernel
theorem dX12_init_315 : decode cX12_init 315 = .ok (.irem, 1) := by decide +kernel
theorem dX12_init_316 : decode cX12_init 316 = .ok (.ishr, 1) := by decide +kernel
theorem dX12_init_317 : decode cX12_init 317 = .ok (.ixor, 1) := by decide +kernel
theorem dX12_init_318 : decode cX12_init 318 = .ok (.iload_n 3, 1) := by decide +kernel
theorem dX12_init_319 : decode cX12_init 319 = .ok (.iload 5, 2) := by decide +kernel
theorem dX12_init_321 : decode cX12_init 321 = .ok (.iconst 5, 1) := by decide +kernel
theorem dX12_init_322 : decode cX12_init 322 = .ok (.iadd, 1) := by decide +kernel
theorem dX12_init_323 : decode cX12_init 323 = .ok (.bipush 8, 2) := by decide +kernel
theorem dX12_init_325 : decode cX12_init 325 = .ok (.irem, 1) := by decide +kernel
theorem dX12_init_326 : decode cX12_init 326 = .ok (.ishr, 1) := by decide +kernel
theorem dX12_init_327 : decode cX12_init 327 = .ok (.ixor, 1) := by decide +kernel
theorem dX12_init_328 : decode cX12_init 328 = .ok (.iload_n 3, 1) := by decide +kernel
theorem dX12_init_329 : decode cX12_init 329 = .ok (.iload 5, 2) := by decide +kernel
theorem dX12_init_331 : decode cX12_init 331 = .ok (.bipush 6, 2) := by decide +kernel
theorem dX12_init_333 : decode cX12_init 333 = .ok (.iadd, 1) := by decide +kernel
theorem dX12_init_334 : decode cX12_init 334 = .ok (.bipush 8, 2) := by decide +kernel
theorem dX12_init_336 : decode cX12_init 336 = .ok (.irem, 1) := by decide +kernel
theorem dX12_init_337 : decode cX12_init 337 = .ok (.ishr, 1) := by decide +kernel
theorem dX12_init_338 : decode cX12_init 338 = .ok (.ixor, 1) := by decide +kernel
theorem dX12_init_339 : decode cX12_init 339 = .ok (.iload_n 3, 1) := by decide +kernel
theorem dX12_init_340 : decode cX12_init 340 = .ok (.iload 5, 2) := by decide +kernel
theorem dX12_init_342 : decode cX12_init 342 = .ok (.bipush 7, 2) := by decide +kernel
theorem dX12_init_344 : decode cX12_init 344 = .ok (.iadd, 1) := by decide +kernel
theorem dX12_init_345 : decode cX12_init 345 = .ok (.bipush 8, 2) := by decide +kernel
theorem dX12_init_347 : decode cX12_init 347 = .ok (.irem, 1) := by decide +kernel
theorem dX12_init_348 : decode cX12_init 348 = .ok (.ishr, 1) := by decide +kernel
theorem dX12_init_349 : decode cX12_init 349 = .ok (.ixor, 1) := by decide +kernel
theorem dX12_init_350 : decode cX12_init 350 = .ok (.bipush 99, 2) := by decide +kernel
theorem dX12_init_352 : decode cX12_init 352 = .ok (.iload 5, 2) := by decide +kernel
theorem dX12_init_354 : decode cX12_init 354 = .ok (.ishr, 1) := by decide +kernel
theorem dX12_init_355 : decode cX12_init 355 = .ok (.ixor, 1) := by decide +kernel
theorem dX12_init_356 : decode cX12_init 356 = .ok (.istore 6, 2) := by decide +kernel
theorem dX12_init_358 : decode cX12_init 358 = .ok (.iload 4, 2) := by decide +kernel
theorem dX12_init_360 : decode cX12_init 360 = .ok (.iload 6, 2) := by decide +kernel
theorem dX12_init_362 : decode cX12_init 362 = .ok (.iconst 1, 1) := by decide +kernel
theorem dX12_init_363 : decode cX12_init 363 = .ok (.iand, 1) := by decide +kernel
theorem dX12_init_364 : decode cX12_init 364 = .ok (.iload 5, 2) := by decide +kernel
theorem dX12_init_366 : decode cX12_init 366 = .ok (.ishl, 1) := by decide +kernel
theorem dX12_init_367 : decode cX12_init 367 = .ok (.ior, 1) := by decide +kernel
theorem dX12_init_368 : decode cX12_init 368 = .ok (.istore 4, 2) := by decide +kernel
theorem dX12_init_370 : decode cX12_init 370 = .ok (.iinc 5 1, 3) := by decide +kernel
theorem dX12_init_373 : decode cX12_init 373 = .ok (.goto (-76), 3) := by decide +kernel
theorem dX12_init_376 : decode cX12_init 376 = .ok (.aload_n 0, 1) := by decide +kernel
theorem dX12_init_377 : decode cX12_init 377 = .ok (.getfield 23, 3) := by decide +kernel
theorem dX12_init_380 : decode cX12_init 380 = .ok (.iload_n 1, 1) := by decide +kernel
theorem dX12_init_381 : decode cX12_init 381 = .ok (.iload 4, 2) := by decide +kernel
theorem dX12_init_383 : decode cX12_init 383 = .ok (.iastore, 1) := by decide +kernel
theorem dX12_init_384 : decode cX12_init 384 = .ok (.aload_n 0, 1) := by decide +kernel
theorem dX12_init_385 : decode cX12_init 385 = .ok (.getfield 26, 3) := by decide +kernel
theorem dX12_init_388 : decode cX12_init 388 = .ok (.iload 4, 2) := by decide +kernel
theorem dX12_init_390 : decode cX12_init 390 = .ok (.iload_n 1, 1) := by decide +kernel
theorem dX12_init_391 : decode cX12_init 391 = .ok (.iastore, 1) := by decide +kernel
theorem dX12_init_392 : decode cX12_init 392 = .ok (.iinc 1 1, 3) := by decide +kernel
theorem dX12_init_395 : decode cX12_init 395 = .ok (.goto (-143), 3) := by decide +kernel
theorem dX12_init_398 : decode cX12_init 398 = .ok (.return_, 1) := by decide +kernel
theorem dX12_in_0 : decode cX12_in 0 = .ok (.iload_n 0, 1) := by decide +kernel
theorem dX12_in_1 : decode cX12_in 1 = .ok (.iload_n 1, 1) := by decide +kernel
theorem dX12_in_2 : decode cX12_in 2 = .ok (.if_icmp .lt 12, 3) := by decide +kernel
theorem dX12_in_5 : decode cX12_in 5 = .ok (.iload_n 0, 1) := by decide +kernel
theorem dX12_in_6 : decode cX12_in 6 = .ok (.iload_n 2, 1) := by decide +kernel
theorem dX12_in_7 : decode cX12_in 7 = .ok (.if_icmp .gt 7, 3) := by decide +kernel
theorem dX12_in_10 : decode cX12_in 10 = .ok (.iconst 1, 1) := by decide +kernel
theorem dX12_in_11 : decode cX12_in 11 = .ok (.goto 4, 3) := by decide +kernel
theorem dX12_in_14 : decode cX12_in 14 = .ok (.iconst 0, 1) := by decide +kernel
theorem dX12_in_15 : decode cX12_in 15 = .ok (.ireturn, 1) := by decide +kernel
theorem dX12_times_0 : decode cX12_times 0 = .ok (.iconst 0, 1) := by decide +kernel
theorem dX12_times_1 : decode cX12_times 1 = .ok (.istore_n 2, 1) := by decide +kernel
theorem dX12_times_2 : decode cX12_times 2 = .ok (.iload_n 0, 1) := by decide +kernel
theorem dX12_times_3 : decode cX12_times 3 = .ok (.istore_n 3, 1) := by decide +kernel
theorem dX12_times_4 : decode cX12_times 4 = .ok (.iconst 0, 1) := by decide +kernel
theorem dX12_times_5 : decode cX12_times 5 = .ok (.istore 4, 2) := by decide +kernel
theorem dX12_times_7 : decode cX12_times 7 = .ok (.iload 4, 2) := by decide +kernel
theorem dX12_times_9 : decode cX12_times 9 = .ok (.bipush 8, 2) := by decide +kernel
theorem dX12_times_11 : decode cX12_times 11 = .ok (.if_icmp .ge 47, 3) := by decide +kernel
theorem dX12_times_14 : decode cX12_times 14 = .ok (.iload_n 2, 1) := by decide +kernel
theorem dX12_times_15 : decode cX12_times 15 = .ok (.iload_n 1, 1) := by decide +kernel
theorem dX12_times_16 : decode cX12_times 16 = .ok (.iload 4, 2) := by decide +kernel
theorem dX12_times_18 : decode cX12_times 18 = .ok (.ishr, 1) := by decide +kernel
theorem dX12_times_19 : decode cX12_times 19 = .ok (.iconst 1, 1) := by decide +kernel
theorem dX12_times_20 : decode cX12_times 20 = .ok (.iand, 1) := by decide +kernel
theorem dX12_times_21 : decode cX12_times 21 = .ok (.iconst 1, 1) := by decide +kernel
theorem dX12_times_22 : decode cX12_times 22 = .ok (.if_icmp .ne 7, 3) := by decide +kernel
theorem dX12_times_25 : decode cX12_times 25 = .ok (.iload_n 3, 1) := by decide +kernel
theorem dX12_times_26 : decode cX12_times 26 = .ok (.goto 4, 3) := by decide +kernel
theorem dX12_times_29 : decode cX12_times 29 = .ok (.iconst 0, 1) := by decide +kernel
theorem dX12_times_30 : decode cX12_times 30 = .ok (.ixor, 1) := by decide +kernel
theorem dX12_times_31 : decode cX12_times 31 = .ok (.istore_n 2, 1) := by decide +kernel
theorem dX12_times_32 : decode cX12_times 32 = .ok (.iload_n 3, 1) := by decide +kernel
theorem dX12_times_33 : decode cX12_times 33 = .ok (.iconst 1, 1) := by decide +kernel
theorem dX12_times_34 : decode cX12_times 34 = .ok (.ishl, 1) := by decide +kernel
theorem dX12_times_35 : decode cX12_times 35 = .ok (.iload_n 3, 1) := by decide +kernel
theorem dX12_times_36 : decode cX12_times 36 = .ok (.sipush 128, 3) := by decide +kernel
theorem dX12_times_39 : decode cX12_times 39 = .ok (.iand, 1) := by decide +kernel
theorem dX12_times_40 : decode cX12_times 40 = .ok (.ifCond .eq 9, 3) := by decide +kernel
theorem dX12_times_43 : decode cX12_times 43 = .ok (.sipush 283, 3) := by decide +kernel
theorem dX12_times_46 : decode cX12_times 46 = .ok (.goto 4, 3) := by decide +kernel
theorem dX12_times_49 : decode cX12_times 49 = .ok (.iconst 0, 1) := by decide +kernel
theorem dX12_times_50 : decode cX12_times 50 = .ok (.ixor, 1) := by decide +kernel
theorem dX12_times_51 : decode cX12_times 51 = .ok (.istore_n 3, 1) := by decide +kernel
theorem dX12_times_52 : decode cX12_times 52 = .ok (.iinc 4 1, 3) := by decide +kernel
theorem dX12_times_55 : decode cX12_times 55 = .ok (.goto (-48), 3) := by decide +kernel
theorem dX12_times_58 : decode cX12_times 58 = .ok (.iload_n 2, 1) := by decide +kernel
theorem dX12_times_59 : decode cX12_times 59 = .ok (.ireturn, 1) := by decide +kernel
theorem dX12_room_0 : decode cX12_room 0 = .ok (.iload_n 0, 1) := by decide +kernel
theorem dX12_room_1 : decode cX12_room 1 = .ok (.ifCond .ne 8, 3) := by decide +kernel
theorem dX12_room_4 : decode cX12_room 4 = .ok (.bipush 64, 2) := by decide +kernel
theorem dX12_room_6 : decode cX12_room 6 = .ok (.goto 27, 3) := by decide +kernel
theorem dX12_room_9 : decode cX12_room 9 = .ok (.iload_n 0, 1) := by decide +kernel
theorem dX12_room_10 : decode cX12_room 10 = .ok (.iconst 1, 1) := by decide +kernel
theorem dX12_room_11 : decode cX12_room 11 = .ok (.if_icmp .ne 9, 3) := by decide +kernel
theorem dX12_room_14 : decode cX12_room 14 = .ok (.sipush 512, 3) := by decide +kernel
theorem dX12_room_17 : decode cX12_room 17 = .ok (.goto 16, 3) := by decide +kernel
theorem dX12_room_20 : decode cX12_room 20 = .ok (.iload_n 0, 1) := by decide +kernel
theorem dX12_room_21 : decode cX12_room 21 = .ok (.iconst 2, 1) := by decide +kernel
theorem dX12_room_22 : decode cX12_room 22 = .ok (.if_icmp .ne 8, 3) := by decide +kernel
theorem dX12_room_25 : decode cX12_room 25 = .ok (.bipush 64, 2) := by decide +kernel
theorem dX12_room_27 : decode cX12_room 27 = .ok (.goto 6, 3) := by decide +kernel
theorem dX12_room_30 : decode cX12_room 30 = .ok (.sipush 256, 3) := by decide +kernel
theorem dX12_room_33 : decode cX12_room 33 = .ok (.ireturn, 1) := by decide +kernel
theorem dX12_feed_0 : decode cX12_feed 0 = .ok (.aload_n 0, 1) := by decide +kernel
theorem dX12_feed_1 : decode cX12_feed 1 = .ok (.iconst 0, 1) := by decide +kernel
theorem dX12_feed_2 : decode cX12_feed 2 = .ok (.putfield 105, 3) := by decide +kernel
theorem dX12_feed_5 : decode cX12_feed 5 = .ok (.iload_n 1, 1) := by decide +kernel
theorem dX12_feed_6 : decode cX12_feed 6 = .ok (.iconst 0, 1) := by decide +kernel
theorem dX12_feed_7 : decode cX12_feed 7 = .ok (.iconst 3, 1) := by decide +kernel
theorem dX12_feed_8 : decode cX12_feed 8 = .ok (.invokestatic 108, 3) := by decide +kernel
theorem dX12_feed_11 : decode cX12_feed 11 = .ok (.ifCond .eq 14, 3) := by decide +kernel
theorem dX12_feed_14 : decode cX12_feed 14 = .ok (.iload 4, 2) := by decide +kernel
theorem dX12_feed_16 : decode cX12_feed 16 = .ok (.iconst 0, 1) := by decide +kernel
theorem dX12_feed_17 : decode cX12_feed 17 = .ok (.bipush 8, 2) := by decide +kernel
theorem dX12_feed_19 : decode cX12_feed 19 = .ok (.invokestatic 108, 3) := by decide +kernel
theorem dX12_feed_22 : decode cX12_feed 22 = .ok (.ifCond .ne 6, 3) := by decide +kernel
theorem dX12_feed_25 : decode cX12_feed 25 = .ok (.bipush (-2), 2) := by decide +kernel
theorem dX12_feed_27 : decode cX12_feed 27 = .ok (.ireturn, 1) := by decide +kernel
theorem dX12_feed_28 : decode cX12_feed 28 = .ok (.iload 4, 2) := by decide +kernel
theorem dX12_feed_30 : decode cX12_feed 30 = .ok (.ifCond .ne 12, 3) := by decide +kernel
theorem dX12_feed_33 : decode cX12_feed 33 = .ok (.aload_n 0, 1) := by decide +kernel
theorem dX12_feed_34 : decode cX12_feed 34 = .ok (.getfield 13, 3) := by decide +kernel
theorem dX12_feed_37 : decode cX12_feed 37 = .ok (.iload_n 1, 1) := by decide +kernel
theorem dX12_feed_38 : decode cX12_feed 38 = .ok (.iconst 0, 1) := by decide +kernel
theorem dX12_feed_39 : decode cX12_feed 39 = .ok (.iastore, 1) := by decide +kernel
theorem dX12_feed_40 : decode cX12_feed 40 = .ok (.iconst 0, 1) := by decide +kernel
theorem dX12_feed_41 : decode cX12_feed 41 = .ok (.ireturn, 1) := by decide +kernel
theorem dX12_feed_42 : decode cX12_feed 42 = .ok (.aload_n 0, 1) := by decide +kernel
theorem dX12_feed_43 : decode cX12_feed 43 = .ok (.getfield 13, 3) := by decide +kernel
theorem dX12_feed_46 : decode cX12_feed 46 = .ok (.iload_n 1, 1) := by decide +kernel
theorem dX12_feed_47 : decode cX12_feed 47 = .ok (.iaload, 1) := by decide +kernel
theorem dX12_feed_48 : decode cX12_feed 48 = .ok (.iload 4, 2) := by decide +kernel
theorem dX12_feed_50 : decode cX12_feed 50 = .ok (.iadd, 1) := by decide +kernel
theorem dX12_feed_51 : decode cX12_feed 51 = .ok (.iload_n 1, 1) := by decide +kernel
theorem dX12_feed_52 : decode cX12_feed 52 = .ok (.invokestatic 112, 3) := by decide +kernel
theorem dX12_feed_55 : decode cX12_feed 55 = .ok (.if_icmp .le 6, 3) := by decide +kernel
theorem dX12_feed_58 : decode cX12_feed 58 = .ok (.bipush (-4), 2) := by decide +kernel
theorem dX12_feed_60 : decode cX12_feed 60 = .ok (.ireturn, 1) := by decide +kernel
theorem dX12_feed_61 : decode cX12_feed 61 = .ok (.iload 4, 2) := by decide +kernel
theorem dX12_feed_63 : decode cX12_feed 63 = .ok (.iconst 1, 1) := by decide +kernel
theorem dX12_feed_64 : decode cX12_feed 64 = .ok (.isub, 1) := by decide +kernel
theorem dX12_feed_65 : decode cX12_feed 65 = .ok (.istore 5, 2) := by decide +kernel
theorem dX12_feed_67 : decode cX12_feed 67 = .ok (.iload 5, 2) := by decide +kernel
theorem dX12_feed_69 : decode cX12_feed 69 = .ok (.ifCond .lt 48, 3) := by decide +kernel
theorem dX12_feed_72 : decode cX12_feed 72 = .ok (.aload_n 0, 1) := by decide +kernel
theorem dX12_feed_73 : decode cX12_feed 73 = .ok (.getfield 7, 3) := by decide +kernel
theorem dX12_feed_76 : decode cX12_feed 76 = .ok (.sipush 512, 3) := by decide +kernel
theorem dX12_feed_79 : decode cX12_feed 79 = .ok (.iload_n 1, 1) := by decide +kernel
theorem dX12_feed_80 : decode cX12_feed 80 = .ok (.imul, 1) := by decide +kernel
theorem dX12_feed_81 : decode cX12_feed 81 = .ok (.aload_n 0, 1) := by decide +kernel
theorem dX12_feed_82 : decode cX12_feed 82 = .ok (.getfield 13, 3) := by decide +kernel
theorem dX12_feed_85 : decode cX12_feed 85 = .ok (.iload_n 1, 1) := by decide +kernel
theorem dX12_feed_86 : decode cX12_feed 86 = .ok (.iaload, 1) := by decide +kernel
theorem dX12_feed_87 : decode cX12_feed 87 = .ok (.iadd, 1) := by decide +kernel
theorem dX12_feed_88 : decode cX12_feed 88 = .ok (.lload_n 2, 1) := by decide +kernel
theorem dX12_feed_89 : decode cX12_feed 89 = .ok (.bipush 8, 2) := by decide +kernel
theorem dX12_feed_91 : decode cX12_feed 91 = .ok (.iload 5, 2) := by decide +kernel
theorem dX12_feed_93 : decode cX12_feed 93 = .ok (.imul, 1) := by decide +kernel
theorem dX12_feed_94 : decode cX12_feed 94 = .ok (.lshr, 1) := by decide +kernel
theorem dX12_feed_95 : decode cX12_feed 95 = .ok (.l2i, 1) := by decide +kernel
theorem dX12_feed_96 : decode cX12_feed 96 = .ok (.sipush 255, 3) := by decide +kernel
theorem dX12_feed_99 : decode cX12_feed 99 = .ok (.iand, 1) := by decide +kernel
theorem dX12_feed_100 : decode cX12_feed 100 = .ok (.iastore, 1) := by decide +kernel
theorem dX12_feed_101 : decode cX12_feed 101 = .ok (.aload_n 0, 1) := by decide +kernel
theorem dX12_feed_102 : decode cX12_feed 102 = .ok (.getfield 13, 3) := by decide +kernel
theorem dX12_feed_105 : decode cX12_feed 105 = .ok (.iload_n 1, 1) := by decide +kernel
theorem dX12_feed_106 : decode cX12_feed 106 = .ok (.dup2, 1) := by decide +kernel
theorem dX12_feed_107 : decode cX12_feed 107 = .ok (.iaload, 1) := by decide +kernel
theorem dX12_feed_108 : decode cX12_feed 108 = .ok (.iconst 1, 1) := by decide +kernel
theorem dX12_feed_109 : decode cX12_feed 109 = .ok (.iadd, 1) := by decide +kernel
theorem dX12_feed_110 : decode cX12_feed 110 = .ok (.iastore, 1) := by decide +kernel
theorem dX12_feed_111 : decode cX12_feed 111 = .ok (.iinc 5 (-1), 3) := by decide +kernel
theorem dX12_feed_114 : decode cX12_feed 114 = .ok (.goto (-47), 3) := by decide +kernel
theorem dX12_feed_117 : decode cX12_feed 117 = .ok (.aload_n 0, 1) := by decide +kernel
theorem dX12_feed_118 : decode cX12_feed 118 = .ok (.getfield 13, 3) := by decide +kernel
theorem dX12_feed_121 : decode cX12_feed 121 = .ok (.iload_n 1, 1) := by decide +kernel
theorem dX12_feed_122 : decode cX12_feed 122 = .ok (.iaload, 1) := by decide +kernel
theorem dX12_feed_123 : decode cX12_feed 123 = .ok (.ireturn, 1) := by decide +kernel
theorem dX12_fill_0 : decode cX12_fill 0 = .ok (.aload_n 0, 1) := by decide +kernel
theorem dX12_fill_1 : decode cX12_fill 1 = .ok (.iconst 0, 1) := by decide +kernel
theorem dX12_fill_2 : decode cX12_fill 2 = .ok (.putfield 105, 3) := by decide +kernel
theorem dX12_fill_5 : decode cX12_fill 5 = .ok (.iload_n 1, 1) := by decide +kernel
theorem dX12_fill_6 : decode cX12_fill 6 = .ok (.iconst 0, 1) := by decide +kernel
theorem dX12_fill_7 : decode cX12_fill 7 = .ok (.iconst 3, 1) := by decide +kernel
theorem dX12_fill_8 : decode cX12_fill 8 = .ok (.invokestatic 108, 3) := by decide +kernel
theorem dX12_fill_11 : decode cX12_fill 11 = .ok (.ifCond .eq 7, 3) := by decide +kernel
theorem dX12_fill_14 : decode cX12_fill 14 = .ok (.iload_n 2, 1) := by decide +kernel
theorem dX12_fill_15 : decode cX12_fill 15 = .ok (.ifCond .ge 6, 3) := by decide +kernel
theorem dX12_fill_18 : decode cX12_fill 18 = .ok (.bipush (-2), 2) := by decide +kernel
theorem dX12_fill_20 : decode cX12_fill 20 = .ok (.ireturn, 1) := by decide +kernel
theorem dX12_fill_21 : decode cX12_fill 21 = .ok (.iload_n 2, 1) := by decide +kernel
theorem dX12_fill_22 : decode cX12_fill 22 = .ok (.iload_n 1, 1) := by decide +kernel
theorem dX12_fill_23 : decode cX12_fill 23 = .ok (.invokestatic 112, 3) := by decide +kernel
theorem dX12_fill_26 : decode cX12_fill 26 = .ok (.aload_n 0, 1) := by decide +kernel
theorem dX12_fill_27 : decode cX12_fill 27 = .ok (.getfield 13, 3) := by decide +kernel
theorem dX12_fill_30 : decode cX12_fill 30 = .ok (.iload_n 1, 1) := by decide +kernel
theorem dX12_fill_31 : decode cX12_fill 31 = .ok (.iaload, 1) := by decide +kernel
theorem dX12_fill_32 : decode cX12_fill 32 = .ok (.isub, 1) := by decide +kernel
theorem dX12_fill_33 : decode cX12_fill 33 = .ok (.if_icmp .le 6, 3) := by decide +kernel
theorem dX12_fill_36 : decode cX12_fill 36 = .ok (.bipush (-4), 2) := by decide +kernel
theorem dX12_fill_38 : decode cX12_fill 38 = .ok (.ireturn, 1) := by decide +kernel
theorem dX12_fill_39 : decode cX12_fill 39 = .ok (.iload_n 3, 1) := by decide +kernel
theorem dX12_fill_40 : decode cX12_fill 40 = .ok (.istore 4, 2) := by decide +kernel
theorem dX12_fill_42 : decode cX12_fill 42 = .ok (.iconst 0, 1) := by decide +kernel
theorem dX12_fill_43 : decode cX12_fill 43 = .ok (.istore 5, 2) := by decide +kernel
theorem dX12_fill_45 : decode cX12_fill 45 = .ok (.iload 5, 2) := by decide +kernel
theorem dX12_fill_47 : decode cX12_fill 47 = .ok (.iload_n 2, 1) := by decide +kernel
theorem dX12_fill_48 : decode cX12_fill 48 = .ok (.if_icmp .ge 51, 3) := by decide +kernel
theorem dX12_fill_51 : decode cX12_fill 51 = .ok (.iload 4, 2) := by decide +kernel
theorem dX12_fill_53 : decode cX12_fill 53 = .ok (.ldc 116, 2) := by decide +kernel
theorem dX12_fill_55 : decode cX12_fill 55 = .ok (.imul, 1) := by decide +kernel
theorem dX12_fill_56 : decode cX12_fill 56 = .ok (.ldc 117, 2) := by decide +kernel
theorem dX12_fill_58 : decode cX12_fill 58 = .ok (.iadd, 1) := by decide +kernel
theorem dX12_fill_59 : decode cX12_fill 59 = .ok (.istore 4, 2) := by decide +kernel
theorem dX12_fill_61 : decode cX12_fill 61 = .ok (.aload_n 0, 1) := by decide +kernel
theorem dX12_fill_62 : decode cX12_fill 62 = .ok (.getfield 7, 3) := by decide +kernel
theorem dX12_fill_65 : decode cX12_fill 65 = .ok (.sipush 512, 3) := by decide +kernel
theorem dX12_fill_68 : decode cX12_fill 68 = .ok (.iload_n 1, 1) := by decide +kernel
theorem dX12_fill_69 : decode cX12_fill 69 = .ok (.imul, 1) := by decide +kernel
theorem dX12_fill_70 : decode cX12_fill 70 = .ok (.aload_n 0, 1) := by decide +kernel
theorem dX12_fill_71 : decode cX12_fill 71 = .ok (.getfield 13, 3) := by decide +kernel
theorem dX12_fill_74 : decode cX12_fill 74 = .ok (.iload_n 1, 1) := by decide +kernel
theorem dX12_fill_75 : decode cX12_fill 75 = .ok (.iaload, 1) := by decide +kernel
theorem dX12_fill_76 : decode cX12_fill 76 = .ok (.iadd, 1) := by decide +kernel
theorem dX12_fill_77 : decode cX12_fill 77 = .ok (.iload 4, 2) := by decide +kernel
theorem dX12_fill_79 : decode cX12_fill 79 = .ok (.bipush 24, 2) := by decide +kernel
theorem dX12_fill_81 : decode cX12_fill 81 = .ok (.iushr, 1) := by decide +kernel
theorem dX12_fill_82 : decode cX12_fill 82 = .ok (.iastore, 1) := by decide +kernel
theorem dX12_fill_83 : decode cX12_fill 83 = .ok (.aload_n 0, 1) := by decide +kernel
theorem dX12_fill_84 : decode cX12_fill 84 = .ok (.getfield 13, 3) := by decide +kernel
theorem dX12_fill_87 : decode cX12_fill 87 = .ok (.iload_n 1, 1) := by decide +kernel
theorem dX12_fill_88 : decode cX12_fill 88 = .ok (.dup2, 1) := by decide +kernel
theorem dX12_fill_89 : decode cX12_fill 89 = .ok (.iaload, 1) := by decide +kernel
theorem dX12_fill_90 : decode cX12_fill 90 = .ok (.iconst 1, 1) := by decide +kernel
theorem dX12_fill_91 : decode cX12_fill 91 = .ok (.iadd, 1) := by decide +kernel
theorem dX12_fill_92 : decode cX12_fill 92 = .ok (.iastore, 1) := by decide +kernel
theorem dX12_fill_93 : decode cX12_fill 93 = .ok (.iinc 5 1, 3) := by decide +kernel
theorem dX12_fill_96 : decode cX12_fill 96 = .ok (.goto (-51), 3) := by decide +kernel
theorem dX12_fill_99 : decode cX12_fill 99 = .ok (.aload_n 0, 1) := by decide +kernel
theorem dX12_fill_100 : decode cX12_fill 100 = .ok (.getfield 13, 3) := by decide +kernel
theorem dX12_fill_103 : decode cX12_fill 103 = .ok (.iload_n 1, 1) := by decide +kernel
theorem dX12_fill_104 : decode cX12_fill 104 = .ok (.iaload, 1) := by decide +kernel
theorem dX12_fill_105 : decode cX12_fill 105 = .ok (.ireturn, 1) := by decide +kernel
theorem dX12_none_0 : decode cX12_none 0 = .ok (.iload_n 1, 1) := by decide +kernel
theorem dX12_none_1 : decode cX12_none 1 = .ok (.iconst 0, 1) := by decide +kernel
theorem dX12_none_2 : decode cX12_none 2 = .ok (.iconst 3, 1) := by decide +kernel
theorem dX12_none_3 : decode cX12_none 3 = .ok (.invokestatic 108, 3) := by decide +kernel
theorem dX12_none_6 : decode cX12_none 6 = .ok (.ifCond .eq 19, 3) := by decide +kernel
theorem dX12_none_9 : decode cX12_none 9 = .ok (.iload_n 2, 1) := by decide +kernel
theorem dX12_none_10 : decode cX12_none 10 = .ok (.iconst 0, 1) := by decide +kernel
theorem dX12_none_11 : decode cX12_none 11 = .ok (.aload_n 0, 1) := by decide +kernel
theorem dX12_none_12 : decode cX12_none 12 = .ok (.getfield 13, 3) := by decide +kernel
theorem dX12_none_15 : decode cX12_none 15 = .ok (.iload_n 1, 1) := by decide +kernel
theorem dX12_none_16 : decode cX12_none 16 = .ok (.iaload, 1) := by decide +kernel
theorem dX12_none_17 : decode cX12_none 17 = .ok (.iconst 1, 1) := by decide +kernel
theorem dX12_none_18 : decode cX12_none 18 = .ok (.isub, 1) := by decide +kernel
theorem dX12_none_19 : decode cX12_none 19 = .ok (.invokestatic 108, 3) := by decide +kernel
theorem dX12_none_22 : decode cX12_none 22 = .ok (.ifCond .ne 7, 3) := by decide +kernel
theorem dX12_none_25 : decode cX12_none 25 = .ok (.iconst 1, 1) := by decide +kernel
theorem dX12_none_26 : decode cX12_none 26 = .ok (.goto 4, 3) := by decide +kernel
theorem dX12_none_29 : decode cX12_none 29 = .ok (.iconst 0, 1) := by decide +kernel
theorem dX12_none_30 : decode cX12_none 30 = .ok (.ireturn, 1) := by decide +kernel
theorem dX12_alter_0 : decode cX12_alter 0 = .ok (.aload_n 0, 1) := by decide +kernel
theorem dX12_alter_1 : decode cX12_alter 1 = .ok (.iconst 0, 1) := by decide +kernel
theorem dX12_alter_2 : decode cX12_alter 2 = .ok (.putfield 105, 3) := by decide +kernel
theorem dX12_alter_5 : decode cX12_alter 5 = .ok (.aload_n 0, 1) := by decide +kernel
theorem dX12_alter_6 : decode cX12_alter 6 = .ok (.iload_n 1, 1) := by decide +kernel
theorem dX12_alter_7 : decode cX12_alter 7 = .ok (.iload_n 2, 1) := by decide +kernel
theorem dX12_alter_8 : decode cX12_alter 8 = .ok (.invokevirtual 118, 3) := by decide +kernel
theorem dX12_alter_11 : decode cX12_alter 11 = .ok (.ifCond .ne 14, 3) := by decide +kernel
theorem dX12_alter_14 : decode cX12_alter 14 = .ok (.iload_n 3, 1) := by decide +kernel
theorem dX12_alter_15 : decode cX12_alter 15 = .ok (.iconst 0, 1) := by decide +kernel
theorem dX12_alter_16 : decode cX12_alter 16 = .ok (.sipush 255, 3) := by decide +kernel
theorem dX12_alter_19 : decode cX12_alter 19 = .ok (.invokestatic 108, 3) := by decide +kernel
theorem dX12_alter_22 : decode cX12_alter 22 = .ok (.ifCond .ne 6, 3) := by decide +kernel
theorem dX12_alter_25 : decode cX12_alter 25 = .ok (.bipush (-2), 2) := by decide +kernel
theorem dX12_alter_27 : decode cX12_alter 27 = .ok (.ireturn, 1) := by decide +kernel
theorem dX12_alter_28 : decode cX12_alter 28 = .ok (.aload_n 0, 1) := by decide +kernel
theorem dX12_alter_29 : decode cX12_alter 29 = .ok (.getfield 7, 3) := by decide +kernel
theorem dX12_alter_32 : decode cX12_alter 32 = .ok (.sipush 512, 3) := by decide +kernel
theorem dX12_alter_35 : decode cX12_alter 35 = .ok (.iload_n 1, 1) := by decide +kernel
theorem dX12_alter_36 : decode cX12_alter 36 = .ok (.imul, 1) := by decide +kernel
theorem dX12_alter_37 : decode cX12_alter 37 = .ok (.iload_n 2, 1) := by decide +kernel
theorem dX12_alter_38 : decode cX12_alter 38 = .ok (.iadd, 1) := by decide +kernel
theorem dX12_alter_39 : decode cX12_alter 39 = .ok (.iaload, 1) := by decide +kernel
theorem dX12_alter_40 : decode cX12_alter 40 = .ok (.istore 4, 2) := by decide +kernel
theorem dX12_alter_42 : decode cX12_alter 42 = .ok (.aload_n 0, 1) := by decide +kernel
theorem dX12_alter_43 : decode cX12_alter 43 = .ok (.getfield 7, 3) := by decide +kernel
theorem dX12_alter_46 : decode cX12_alter 46 = .ok (.sipush 512, 3) := by decide +kernel
theorem dX12_alter_49 : decode cX12_alter 49 = .ok (.iload_n 1, 1) := by decide +kernel
theorem dX12_alter_50 : decode cX12_alter 50 = .ok (.imul, 1) := by decide +kernel
theorem dX12_alter_51 : decode cX12_alter 51 = .ok (.iload_n 2, 1) := by decide +kernel
theorem dX12_alter_52 : decode cX12_alter 52 = .ok (.iadd, 1) := by decide +kernel
theorem dX12_alter_53 : decode cX12_alter 53 = .ok (.iload_n 3, 1) := by decide +kernel
theorem dX12_alter_54 : decode cX12_alter 54 = .ok (.iastore, 1) := by decide +kernel
theorem dX12_alter_55 : decode cX12_alter 55 = .ok (.iload 4, 2) := by decide +kernel
theorem dX12_alter_57 : decode cX12_alter 57 = .ok (.ireturn, 1) := by decide +kernel
theorem dX12_octet_0 : decode cX12_octet 0 = .ok (.aload_n 0, 1) := by decide +kernel
theorem dX12_octet_1 : decode cX12_octet 1 = .ok (.iconst 0, 1) := by decide +kernel
theorem dX12_octet_2 : decode cX12_octet 2 = .ok (.putfield 105, 3) := by decide +kernel
theorem dX12_octet_5 : decode cX12_octet 5 = .ok (.aload_n 0, 1) := by decide +kernel
theorem dX12_octet_6 : decode cX12_octet 6 = .ok (.iload_n 1, 1) := by decide +kernel
theorem dX12_octet_7 : decode cX12_octet 7 = .ok (.iload_n 2, 1) := by decide +kernel
theorem dX12_octet_8 : decode cX12_octet 8 = .ok (.invokevirtual 118, 3) := by decide +kernel
theorem dX12_octet_11 : decode cX12_octet 11 = .ok (.ifCond .eq 8, 3) := by decide +kernel
theorem dX12_octet_14 : decode cX12_octet 14 = .ok (.bipush (-2), 2) := by decide +kernel
theorem dX12_octet_16 : decode cX12_octet 16 = .ok (.goto 15, 3) := by decide +kernel
theorem dX12_octet_19 : decode cX12_octet 19 = .ok (.aload_n 0, 1) := by decide +kernel
theorem dX12_octet_20 : decode cX12_octet 20 = .ok (.getfield 7, 3) := by decide +kernel
theorem dX12_octet_23 : decode cX12_octet 23 = .ok (.sipush 512, 3) := by decide +kernel
theorem dX12_octet_26 : decode cX12_octet 26 = .ok (.iload_n 1, 1) := by decide +kernel
theorem dX12_octet_27 : decode cX12_octet 27 = .ok (.imul, 1) := by decide +kernel
theorem dX12_octet_28 : decode cX12_octet 28 = .ok (.iload_n 2, 1) := by decide +kernel
theorem dX12_octet_29 : decode cX12_octet 29 = .ok (.iadd, 1) := by decide +kernel
theorem dX12_octet_30 : decode cX12_octet 30 = .ok (.iaload, 1) := by decide +kernel
theorem dX12_octet_31 : decode cX12_octet 31 = .ok (.ireturn, 1) := by decide +kernel
theorem dX12_cut_0 : decode cX12_cut 0 = .ok (.aload_n 0, 1) := by decide +kernel
theorem dX12_cut_1 : decode cX12_cut 1 = .ok (.iconst 0, 1) := by decide +kernel
theorem dX12_cut_2 : decode cX12_cut 2 = .ok (.putfield 105, 3) := by decide +kernel
theorem dX12_cut_5 : decode cX12_cut 5 = .ok (.iload_n 1, 1) := by decide +kernel
theorem dX12_cut_6 : decode cX12_cut 6 = .ok (.iconst 0, 1) := by decide +kernel
theorem dX12_cut_7 : decode cX12_cut 7 = .ok (.iconst 3, 1) := by decide +kernel
theorem dX12_cut_8 : decode cX12_cut 8 = .ok (.invokestatic 108, 3) := by decide +kernel
theorem dX12_cut_11 : decode cX12_cut 11 = .ok (.ifCond .eq 17, 3) := by decide +kernel
theorem dX12_cut_14 : decode cX12_cut 14 = .ok (.iload_n 2, 1) := by decide +kernel
theorem dX12_cut_15 : decode cX12_cut 15 = .ok (.iconst 0, 1) := by decide +kernel
theorem dX12_cut_16 : decode cX12_cut 16 = .ok (.aload_n 0, 1) := by decide +kernel
theorem dX12_cut_17 : decode cX12_cut 17 = .ok (.getfield 13, 3) := by decide +kernel
theorem dX12_cut_20 : decode cX12_cut 20 = .ok (.iload_n 1, 1) := by decide +kernel
theorem dX12_cut_21 : decode cX12_cut 21 = .ok (.iaload, 1) := by decide +kernel
theorem dX12_cut_22 : decode cX12_cut 22 = .ok (.invokestatic 108, 3) := by decide +kernel
theorem dX12_cut_25 : decode cX12_cut 25 = .ok (.ifCond .ne 6, 3) := by decide +kernel
theorem dX12_cut_28 : decode cX12_cut 28 = .ok (.bipush (-2), 2) := by decide +kernel
theorem dX12_cut_30 : decode cX12_cut 30 = .ok (.ireturn, 1) := by decide +kernel
theorem dX12_cut_31 : decode cX12_cut 31 = .ok (.aload_n 0, 1) := by decide +kernel
theorem dX12_cut_32 : decode cX12_cut 32 = .ok (.getfield 13, 3) := by decide +kernel
theorem dX12_cut_35 : decode cX12_cut 35 = .ok (.iload_n 1, 1) := by decide +kernel
theorem dX12_cut_36 : decode cX12_cut 36 = .ok (.iaload, 1) := by decide +kernel
theorem dX12_cut_37 : decode cX12_cut 37 = .ok (.istore_n 3, 1) := by decide +kernel
theorem dX12_cut_38 : decode cX12_cut 38 = .ok (.aload_n 0, 1) := by decide +kernel
theorem dX12_cut_39 : decode cX12_cut 39 = .ok (.getfield 13, 3) := by decide +kernel
theorem dX12_cut_42 : decode cX12_cut 42 = .ok (.iload_n 1, 1) := by decide +kernel
theorem dX12_cut_43 : decode cX12_cut 43 = .ok (.iload_n 2, 1) := by decide +kernel
theorem dX12_cut_44 : decode cX12_cut 44 = .ok (.iastore, 1) := by decide +kernel
theorem dX12_cut_45 : decode cX12_cut 45 = .ok (.iload_n 3, 1) := by decide +kernel
theorem dX12_cut_46 : decode cX12_cut 46 = .ok (.ireturn, 1) := by decide +kernel
theorem dX12_tag_0 : decode cX12_tag 0 = .ok (.aload_n 0, 1) := by decide +kernel
theorem dX12_tag_1 : decode cX12_tag 1 = .ok (.iconst 0, 1) := by decide +kernel
theorem dX12_tag_2 : decode cX12_tag 2 = .ok (.putfield 105, 3) := by decide +kernel
theorem dX12_tag_5 : decode cX12_tag 5 = .ok (.iload_n 1, 1) := by decide +kernel
theorem dX12_tag_6 : decode cX12_tag 6 = .ok (.iconst 4, 1) := by decide +kernel
theorem dX12_tag_7 : decode cX12_tag 7 = .ok (.bipush 16, 2) := by decide +kernel
theorem dX12_tag_9 : decode cX12_tag 9 = .ok (.invokestatic 108, 3) := by decide +kernel
theorem dX12_tag_12 : decode cX12_tag 12 = .ok (.ifCond .ne 6, 3) := by decide +kernel
theorem dX12_tag_15 : decode cX12_tag 15 = .ok (.bipush (-2), 2) := by decide +kernel
theorem dX12_tag_17 : decode cX12_tag 17 = .ok (.ireturn, 1) := by decide +kernel
theorem dX12_tag_18 : decode cX12_tag 18 = .ok (.aload_n 0, 1) := by decide +kernel
theorem dX12_tag_19 : decode cX12_tag 19 = .ok (.getfield 16, 3) := by decide +kernel
theorem dX12_tag_22 : decode cX12_tag 22 = .ok (.istore_n 2, 1) := by decide +kernel
theorem dX12_tag_23 : decode cX12_tag 23 = .ok (.aload_n 0, 1) := by decide +kernel
theorem dX12_tag_24 : decode cX12_tag 24 = .ok (.iload_n 1, 1) := by decide +kernel
theorem dX12_tag_25 : decode cX12_tag 25 = .ok (.putfield 16, 3) := by decide +kernel
theorem dX12_tag_28 : decode cX12_tag 28 = .ok (.iload_n 2, 1) := by decide +kernel
theorem dX12_tag_29 : decode cX12_tag 29 = .ok (.ireturn, 1) := by decide +kernel
theorem dX12_expand_0 : decode cX12_expand 0 = .ok (.iload_n 3, 1) := by decide +kernel
theorem dX12_expand_1 : decode cX12_expand 1 = .ok (.iconst 4, 1) := by decide +kernel
theorem dX12_expand_2 : decode cX12_expand 2 = .ok (.idiv, 1) := by decide +kernel
theorem dX12_expand_3 : decode cX12_expand 3 = .ok (.istore 4, 2) := by decide +kernel
theorem dX12_expand_5 : decode cX12_expand 5 = .ok (.sipush 240, 3) := by decide +kernel
theorem dX12_expand_8 : decode cX12_expand 8 = .ok (.iload_n 1, 1) := by decide +kernel
theorem dX12_expand_9 : decode cX12_expand 9 = .ok (.imul, 1) := by decide +kernel
theorem dX12_expand_10 : decode cX12_expand 10 = .ok (.istore 5, 2) := by decide +kernel
theorem dX12_expand_12 : decode cX12_expand 12 = .ok (.aload_n 0, 1) := by decide +kernel
theorem dX12_expand_13 : decode cX12_expand 13 = .ok (.getfield 32, 3) := by decide +kernel
theorem dX12_expand_16 : decode cX12_expand 16 = .ok (.iload_n 1, 1) := by decide +kernel
theorem dX12_expand_17 : decode cX12_expand 17 = .ok (.iload 4, 2) := by decide +kernel
theorem dX12_expand_19 : decode cX12_expand 19 = .ok (.bipush 6, 2) := by decide +kernel
theorem dX12_expand_21 : decode cX12_expand 21 = .ok (.iadd, 1) := by decide +kernel
theorem dX12_expand_22 : decode cX12_expand 22 = .ok (.iastore, 1) := by decide +kernel
theorem dX12_expand_23 : decode cX12_expand 23 = .ok (.iconst 4, 1) := by decide +kernel
theorem dX12_expand_24 : decode cX12_expand 24 = .ok (.iload 4, 2) := by decide +kernel
theorem dX12_expand_26 : decode cX12_expand 26 = .ok (.bipush 7, 2) := by decide +kernel
theorem dX12_expand_28 : decode cX12_expand 28 = .ok (.iadd, 1) := by decide +kernel
theorem dX12_expand_29 : decode cX12_expand 29 = .ok (.imul, 1) := by decide +kernel
theorem dX12_expand_30 : decode cX12_expand 30 = .ok (.istore 6, 2) := by decide +kernel
theorem dX12_expand_32 : decode cX12_expand 32 = .ok (.iconst 1, 1) := by decide +kernel
theorem dX12_expand_33 : decode cX12_expand 33 = .ok (.istore 7, 2) := by decide +kernel
theorem dX12_expand_35 : decode cX12_expand 35 = .ok (.iconst 0, 1) := by decide +kernel
theorem dX12_expand_36 : decode cX12_expand 36 = .ok (.istore 8, 2) := by decide +kernel
theorem dX12_expand_38 : decode cX12_expand 38 = .ok (.iload 8, 2) := by decide +kernel
theorem dX12_expand_40 : decode cX12_expand 40 = .ok (.iload 6, 2) := by decide +kernel
theorem dX12_expand_42 : decode cX12_expand 42 = .ok (.if_icmp .ge 204, 3) := by decide +kernel
theorem dX12_expand_45 : decode cX12_expand 45 = .ok (.iconst 0, 1) := by decide +kernel
theorem dX12_expand_46 : decode cX12_expand 46 = .ok (.istore 9, 2) := by decide +kernel
theorem dX12_expand_48 : decode cX12_expand 48 = .ok (.iload 9, 2) := by decide +kernel
theorem dX12_expand_50 : decode cX12_expand 50 = .ok (.iconst 4, 1) := by decide +kernel
theorem dX12_expand_51 : decode cX12_expand 51 = .ok (.if_icmp .ge 161, 3) := by decide +kernel
theorem dX12_expand_54 : decode cX12_expand 54 = .ok (.iload 5, 2) := by decide +kernel
theorem dX12_expand_56 : decode cX12_expand 56 = .ok (.iconst 4, 1) := by decide +kernel
theorem dX12_expand_57 : decode cX12_expand 57 = .ok (.iload 8, 2) := by decide +kernel
theorem dX12_expand_59 : decode cX12_expand 59 = .ok (.imul, 1) := by decide +kernel
theorem dX12_expand_60 : decode cX12_expand 60 = .ok (.iadd, 1) := by decide +kernel
theorem dX12_expand_61 : decode cX12_expand 61 = .ok (.iload 9, 2) := by decide +kernel
theorem dX12_expand_63 : decode cX12_expand 63 = .ok (.iadd, 1) := by decide +kernel
theorem dX12_expand_64 : decode cX12_expand 64 = .ok (.istore 10, 2) := by decide +kernel
theorem dX12_expand_66 : decode cX12_expand 66 = .ok (.iload 8, 2) := by decide +kernel
theorem dX12_expand_68 : decode cX12_expand 68 = .ok (.iload 4, 2) := by decide +kernel
theorem dX12_expand_70 : decode cX12_expand 70 = .ok (.if_icmp .ge 27, 3) := by decide +kernel
theorem dX12_expand_73 : decode cX12_expand 73 = .ok (.aload_n 0, 1) := by decide +kernel
theorem dX12_expand_74 : decode cX12_expand 74 = .ok (.getfield 29, 3) := by decide +kernel
theorem dX12_expand_77 : decode cX12_expand 77 = .ok (.iload 10, 2) := by decide +kernel
theorem dX12_expand_79 : decode cX12_expand 79 = .ok (.aload_n 0, 1) := by decide +kernel
theorem dX12_expand_80 : decode cX12_expand 80 = .ok (.getfield 7, 3) := by decide +kernel
theorem dX12_expand_83 : decode cX12_expand 83 = .ok (.iload_n 2, 1) := by decide +kernel
theorem dX12_expand_84 : decode cX12_expand 84 = .ok (.iconst 4, 1) := by decide +kernel
theorem dX12_expand_85 : decode cX12_expand 85 = .ok (.iload 8, 2) := by decide +kernel
theorem dX12_expand_87 : decode cX12_expand 87 = .ok (.imul, 1) := by decide +kernel
theorem dX12_expand_88 : decode cX12_expand 88 = .ok (.iadd, 1) := by decide +kernel
theorem dX12_expand_89 : decode cX12_expand 89 = .ok (.iload 9, 2) := by decide +kernel
theorem dX12_expand_91 : decode cX12_expand 91 = .ok (.iadd, 1) := by decide +kernel
theorem dX12_expand_92 : decode cX12_expand 92 = .ok (.iaload, 1) := by decide +kernel
theorem dX12_expand_93 : decode cX12_expand 93 = .ok (.iastore, 1) := by decide +kernel
theorem dX12_expand_94 : decode cX12_expand 94 = .ok (.goto 112, 3) := by decide +kernel
theorem dX12_expand_97 : decode cX12_expand 97 = .ok (.aload_n 0, 1) := by decide +kernel
theorem dX12_expand_98 : decode cX12_expand 98 = .ok (.getfield 29, 3) := by decide +kernel
theorem dX12_expand_101 : decode cX12_expand 101 = .ok (.iload 10, 2) := by decide +kernel
theorem dX12_expand_103 : decode cX12_expand 103 = .ok (.iconst 4, 1) := by decide +kernel
theorem dX12_expand_104 : decode cX12_expand 104 = .ok (.isub, 1) := by decide +kernel
theorem dX12_expand_105 : decode cX12_expand 105 = .ok (.iaload, 1) := by decide +kernel
theorem dX12_expand_106 : decode cX12_expand 106 = .ok (.istore 11, 2) := by decide +kernel
theorem dX12_expand_108 : decode cX12_expand 108 = .ok (.iload 8, 2) := by decide +kernel
theorem dX12_expand_110 : decode cX12_expand 110 = .ok (.iload 4, 2) := by decide +kernel
theorem dX12_expand_112 : decode cX12_expand 112 = .ok (.irem, 1) := by decide +kernel
theorem dX12_expand_113 : decode cX12_expand 113 = .ok (.ifCond .ne 46, 3) := by decide +kernel
theorem dX12_expand_116 : decode cX12_expand 116 = .ok (.aload_n 0, 1) := by decide +kernel
theorem dX12_expand_117 : decode cX12_expand 117 = .ok (.getfield 23, 3) := by decide +kernel
theorem dX12_expand_120 : decode cX12_expand 120 = .ok (.aload_n 0, 1) := by decide +kernel
theorem dX12_expand_121 : decode cX12_expand 121 = .ok (.getfield 29, 3) := by decide +kernel
theorem dX12_expand_124 : decode cX12_expand 124 = .ok (.iload 5, 2) := by decide +kernel
theorem dX12_expand_126 : decode cX12_expand 126 = .ok (.iconst 4, 1) := by decide +kernel
theorem dX12_expand_127 : decode cX12_expand 127 = .ok (.iload 8, 2) := by decide +kernel
theorem dX12_expand_129 : decode cX12_expand 129 = .ok (.iconst 1, 1) := by decide +kernel
theorem dX12_expand_130 : decode cX12_expand 130 = .ok (.isub, 1) := by decide +kernel
theorem dX12_expand_131 : decode cX12_expand 131 = .ok (.imul, 1) := by decide +kernel
theorem dX12_expand_132 : decode cX12_expand 132 = .ok (.iadd, 1) := by decide +kernel
theorem dX12_expand_133 : decode cX12_expand 133 = .ok (.iload 9, 2) := by decide +kernel
theorem dX12_expand_135 : decode cX12_expand 135 = .ok (.iconst 1, 1) := by decide +kernel
theorem dX12_expand_136 : decode cX12_expand 136 = .ok (.iadd, 1) := by decide +kernel
theorem dX12_expand_137 : decode cX12_expand 137 = .ok (.iconst 4, 1) := by decide +kernel
theorem dX12_expand_138 : decode cX12_expand 138 = .ok (.irem, 1) := by decide +kernel
theorem dX12_expand_139 : decode cX12_expand 139 = .ok (.iadd, 1) := by decide +kernel
theorem dX12_expand_140 : decode cX12_expand 140 = .ok (.iaload, 1) := by decide +kernel
theorem dX12_expand_141 : decode cX12_expand 141 = .ok (.iaload, 1) := by decide +kernel
theorem dX12_expand_142 : decode cX12_expand 142 = .ok (.iload 9, 2) := by decide +kernel
theorem dX12_expand_144 : decode cX12_expand 144 = .ok (.ifCond .ne 8, 3) := by decide +kernel
theorem dX12_expand_147 : decode cX12_expand 147 = .ok (.iload 7, 2) := by decide +kernel
theorem dX12_expand_149 : decode cX12_expand 149 = .ok (.goto 4, 3) := by decide +kernel
theorem dX12_expand_152 : decode cX12_expand 152 = .ok (.iconst 0, 1) := by decide +kernel
theorem dX12_expand_153 : decode cX12_expand 153 = .ok (.ixor, 1) := by decide +kernel
theorem dX12_expand_154 : decode cX12_expand 154 = .ok (.istore 11, 2) := by decide +kernel
theorem dX12_expand_156 : decode cX12_expand 156 = .ok (.goto 28, 3) := by decide +kernel
theorem dX12_expand_159 : decode cX12_expand 159 = .ok (.iload 4, 2) := by decide +kernel
theorem dX12_expand_161 : decode cX12_expand 161 = .ok (.bipush 8, 2) := by decide +kernel
theorem dX12_expand_163 : decode cX12_expand 163 = .ok (.if_icmp .ne 21, 3) := by decide +kernel
theorem dX12_expand_166 : decode cX12_expand 166 = .ok (.iload 8, 2) := by decide +kernel
theorem dX12_expand_168 : decode cX12_expand 168 = .ok (.bipush 8, 2) := by decide +kernel
theorem dX12_expand_170 : decode cX12_expand 170 = .ok (.irem, 1) := by decide +kernel
theorem dX12_expand_171 : decode cX12_expand 171 = .ok (.iconst 4, 1) := by decide +kernel
theorem dX12_expand_172 : decode cX12_expand 172 = .ok (.if_icmp .ne 12, 3) := by decide +kernel
theorem dX12_expand_175 : decode cX12_expand 175 = .ok (.aload_n 0, 1) := by decide +kernel
theorem dX12_expand_176 : decode cX12_expand 176 = .ok (.getfield 23, 3) := by decide +kernel
theorem dX12_expand_179 : decode cX12_expand 179 = .ok (.iload 11, 2) := by decide +kernel
theorem dX12_expand_181 : decode cX12_expand 181 = .ok (.iaload, 1) := by decide +kernel
theorem dX12_expand_182 : decode cX12_expand 182 = .ok (.istore 11, 2) := by decide +kernel
theorem dX12_expand_184 : decode cX12_expand 184 = .ok (.aload_n 0, 1) := by decide +kernel
theorem dX12_expand_185 : decode cX12_expand 185 = .ok (.getfield 29, 3) := by decide +kernel
theorem dX12_expand_188 : decode cX12_expand 188 = .ok (.iload 10, 2) := by decide +kernel
theorem dX12_expand_190 : decode cX12_expand 190 = .ok (.aload_n 0, 1) := by decide +kernel
theorem dX12_expand_191 : decode cX12_expand 191 = .ok (.getfield 29, 3) := by decide +kernel
theorem dX12_expand_194 : decode cX12_expand 194 = .ok (.iload 10, 2) := by decide +kernel
theorem dX12_expand_196 : decode cX12_expand 196 = .ok (.iconst 4, 1) := by decide +kernel
theorem dX12_expand_197 : decode cX12_expand 197 = .ok (.iload 4, 2) := by decide +kernel
theorem dX12_expand_199 : decode cX12_expand 199 = .ok (.imul, 1) := by decide +kernel
theorem dX12_expand_200 : decode cX12_expand 200 = .ok (.isub, 1) := by decide +kernel
theorem dX12_expand_201 : decode cX12_expand 201 = .ok (.iaload, 1) := by decide +kernel
theorem dX12_expand_202 : decode cX12_expand 202 = .ok (.iload 11, 2) := by decide +kernel
theorem dX12_expand_204 : decode cX12_expand 204 = .ok (.ixor, 1) := by decide +kernel
theorem dX12_expand_205 : decode cX12_expand 205 = .ok (.iastore, 1) := by decide +kernel
theorem dX12_expand_206 : decode cX12_expand 206 = .ok (.iinc 9 1, 3) := by decide +kernel
theorem dX12_expand_209 : decode cX12_expand 209 = .ok (.goto (-161), 3) := by decide +kernel
theorem dX12_expand_212 : decode cX12_expand 212 = .ok (.iload 8, 2) := by decide +kernel
theorem dX12_expand_214 : decode cX12_expand 214 = .ok (.iload 4, 2) := by decide +kernel
theorem dX12_expand_216 : decode cX12_expand 216 = .ok (.if_icmp .lt 20, 3) := by decide +kernel
theorem dX12_expand_219 : decode cX12_expand 219 = .ok (.iload 8, 2) := by decide +kernel
theorem dX12_expand_221 : decode cX12_expand 221 = .ok (.iload 4, 2) := by decide +kernel
theorem dX12_expand_223 : decode cX12_expand 223 = .ok (.irem, 1) := by decide +kernel
theorem dX12_expand_224 : decode cX12_expand 224 = .ok (.ifCond .ne 12, 3) := by decide +kernel
theorem dX12_expand_227 : decode cX12_expand 227 = .ok (.iload 7, 2) := by decide +kernel
theorem dX12_expand_229 : decode cX12_expand 229 = .ok (.iconst 2, 1) := by decide +kernel
theorem dX12_expand_230 : decode cX12_expand 230 = .ok (.invokestatic 101, 3) := by decide +kernel
theorem dX12_expand_233 : decode cX12_expand 233 = .ok (.goto 5, 3) := by decide +kernel
theorem dX12_expand_236 : decode cX12_expand 236 = .ok (.iload 7, 2) := by decide +kernel
theorem dX12_expand_238 : decode cX12_expand 238 = .ok (.istore 7, 2) := by decide +kernel
theorem dX12_expand_240 : decode cX12_expand 240 = .ok (.iinc 8 1, 3) := by decide +kernel
theorem dX12_expand_243 : decode cX12_expand 243 = .ok (.goto (-205), 3) := by decide +kernel
theorem dX12_expand_246 : decode cX12_expand 246 = .ok (.return_, 1) := by decide +kernel
theorem dX12_addRound_0 : decode cX12_addRound 0 = .ok (.iconst 0, 1) := by decide +kernel
theorem dX12_addRound_1 : decode cX12_addRound 1 = .ok (.istore_n 3, 1) := by decide +kernel
theorem dX12_addRound_2 : decode cX12_addRound 2 = .ok (.iload_n 3, 1) := by decide +kernel
theorem dX12_addRound_3 : decode cX12_addRound 3 = .ok (.bipush 16, 2) := by decide +kernel
theorem dX12_addRound_5 : decode cX12_addRound 5 = .ok (.if_icmp .ge 35, 3) := by decide +kernel
theorem dX12_addRound_8 : decode cX12_addRound 8 = .ok (.aload_n 0, 1) := by decide +kernel
theorem dX12_addRound_9 : decode cX12_addRound 9 = .ok (.getfield 35, 3) := by decide +kernel
theorem dX12_addRound_12 : decode cX12_addRound 12 = .ok (.iload_n 3, 1) := by decide +kernel
theorem dX12_addRound_13 : decode cX12_addRound 13 = .ok (.dup2, 1) := by decide +kernel
theorem dX12_addRound_14 : decode cX12_addRound 14 = .ok (.iaload, 1) := by decide +kernel
theorem dX12_addRound_15 : decode cX12_addRound 15 = .ok (.aload_n 0, 1) := by decide +kernel
theorem dX12_addRound_16 : decode cX12_addRound 16 = .ok (.getfield 29, 3) := by decide +kernel
theorem dX12_addRound_19 : decode cX12_addRound 19 = .ok (.sipush 240, 3) := by decide +kernel
theorem dX12_addRound_22 : decode cX12_addRound 22 = .ok (.iload_n 1, 1) := by decide +kernel
theorem dX12_addRound_23 : decode cX12_addRound 23 = .ok (.imul, 1) := by decide +kernel
theorem dX12_addRound_24 : decode cX12_addRound 24 = .ok (.bipush 16, 2) := by decide +kernel
theorem dX12_addRound_26 : decode cX12_addRound 26 = .ok (.iload_n 2, 1) := by decide +kernel
theorem dX12_addRound_27 : decode cX12_addRound 27 = .ok (.imul, 1) := by decide +kernel
theorem dX12_addRound_28 : decode cX12_addRound 28 = .ok (.iadd, 1) := by decide +kernel
theorem dX12_addRound_29 : decode cX12_addRound 29 = .ok (.iload_n 3, 1) := by decide +kernel
theorem dX12_addRound_30 : decode cX12_addRound 30 = .ok (.iadd, 1) := by decide +kernel
theorem dX12_addRound_31 : decode cX12_addRound 31 = .ok (.iaload, 1) := by decide +kernel
theorem dX12_addRound_32 : decode cX12_addRound 32 = .ok (.ixor, 1) := by decide +kernel
theorem dX12_addRound_33 : decode cX12_addRound 33 = .ok (.iastore, 1) := by decide +kernel
theorem dX12_addRound_34 : decode cX12_addRound 34 = .ok (.iinc 3 1, 3) := by decide +kernel
theorem dX12_addRound_37 : decode cX12_addRound 37 = .ok (.goto (-35), 3) := by decide +kernel
theorem dX12_addRound_40 : decode cX12_addRound 40 = .ok (.return_, 1) := by decide +kernel
theorem dX12_mix_0 : decode cX12_mix 0 = .ok (.iconst 0, 1) := by decide +kernel
theorem dX12_mix_1 : decode cX12_mix 1 = .ok (.istore 5, 2) := by decide +kernel
theorem dX12_mix_3 : decode cX12_mix 3 = .ok (.iload 5, 2) := by decide +kernel
theorem dX12_mix_5 : decode cX12_mix 5 = .ok (.bipush 16, 2) := by decide +kernel
theorem dX12_mix_7 : decode cX12_mix 7 = .ok (.if_icmp .ge 106, 3) := by decide +kernel
theorem dX12_mix_10 : decode cX12_mix 10 = .ok (.iconst 0, 1) := by decide +kernel
theorem dX12_mix_11 : decode cX12_mix 11 = .ok (.istore 6, 2) := by decide +kernel
theorem dX12_mix_13 : decode cX12_mix 13 = .ok (.iload 6, 2) := by decide +kernel
theorem dX12_mix_15 : decode cX12_mix 15 = .ok (.iconst 4, 1) := by decide +kernel
theorem dX12_mix_16 : decode cX12_mix 16 = .ok (.if_icmp .ge 91, 3) := by decide +kernel
theorem dX12_mix_19 : decode cX12_mix 19 = .ok (.aload_n 0, 1) := by decide +kernel
theorem dX12_mix_20 : decode cX12_mix 20 = .ok (.getfield 38, 3) := by decide +kernel
theorem dX12_mix_23 : decode cX12_mix 23 = .ok (.iload 5, 2) := by decide +kernel
theorem dX12_mix_25 : decode cX12_mix 25 = .ok (.iload 6, 2) := by decide +kernel
theorem dX12_mix_27 : decode cX12_mix 27 = .ok (.iadd, 1) := by decide +kernel
theorem dX12_mix_28 : decode cX12_mix 28 = .ok (.aload_n 0, 1) := by decide +kernel
theorem dX12_mix_29 : decode cX12_mix 29 = .ok (.getfield 35, 3) := by decide +kernel
theorem dX12_mix_32 : decode cX12_mix 32 = .ok (.iload 5, 2) := by decide +kernel
theorem dX12_mix_34 : decode cX12_mix 34 = .ok (.iload 6, 2) := by decide +kernel
theorem dX12_mix_36 : decode cX12_mix 36 = .ok (.iadd, 1) := by decide +kernel
theorem dX12_mix_37 : decode cX12_mix 37 = .ok (.iaload, 1) := by decide +kernel
theorem dX12_mix_38 : decode cX12_mix 38 = .ok (.iload_n 1, 1) := by decide +kernel
theorem dX12_mix_39 : decode cX12_mix 39 = .ok (.invokestatic 101, 3) := by decide +kernel
theorem dX12_mix_42 : decode cX12_mix 42 = .ok (.aload_n 0, 1) := by decide +kernel
theorem dX12_mix_43 : decode cX12_mix 43 = .ok (.getfield 35, 3) := by decide +kernel
theorem dX12_mix_46 : decode cX12_mix 46 = .ok (.iload 5, 2) := by decide +kernel
theorem dX12_mix_48 : decode cX12_mix 48 = .ok (.iload 6, 2) := by decide +kernel
theorem dX12_mix_50 : decode cX12_mix 50 = .ok (.iconst 1, 1) := by decide +kernel
theorem dX12_mix_51 : decode cX12_mix 51 = .ok (.iadd, 1) := by decide +kernel
theorem dX12_mix_52 : decode cX12_mix 52 = .ok (.iconst 4, 1) := by decide +kernel
theorem dX12_mix_53 : decode cX12_mix 53 = .ok (.irem, 1) := by decide +kernel
theorem dX12_mix_54 : decode cX12_mix 54 = .ok (.iadd, 1) := by decide +kernel
theorem dX12_mix_55 : decode cX12_mix 55 = .ok (.iaload, 1) := by decide +kernel
theorem dX12_mix_56 : decode cX12_mix 56 = .ok (.iload_n 2, 1) := by decide +kernel
theorem dX12_mix_57 : decode cX12_mix 57 = .ok (.invokestatic 101, 3) := by decide +kernel
theorem dX12_mix_60 : decode cX12_mix 60 = .ok (.ixor, 1) := by decide +kernel
theorem dX12_mix_61 : decode cX12_mix 61 = .ok (.aload_n 0, 1) := by decide +kernel
theorem dX12_mix_62 : decode cX12_mix 62 = .ok (.getfield 35, 3) := by decide +kernel
theorem dX12_mix_65 : decode cX12_mix 65 = .ok (.iload 5, 2) := by decide +kernel
theorem dX12_mix_67 : decode cX12_mix 67 = .ok (.iload 6, 2) := by decide +kernel
theorem dX12_mix_69 : decode cX12_mix 69 = .ok (.iconst 2, 1) := by decide +kernel
theorem dX12_mix_70 : decode cX12_mix 70 = .ok (.iadd, 1) := by decide +kernel
theorem dX12_mix_71 : decode cX12_mix 71 = .ok (.iconst 4, 1) := by decide +kernel
theorem dX12_mix_72 : decode cX12_mix 72 = .ok (.irem, 1) := by decide +kernel
theorem dX12_mix_73 : decode cX12_mix 73 = .ok (.iadd, 1) := by decide +kernel
theorem dX12_mix_74 : decode cX12_mix 74 = .ok (.iaload, 1) := by decide +kernel
theorem dX12_mix_75 : decode cX12_mix 75 = .ok (.iload_n 3, 1) := by decide +kernel
theorem dX12_mix_76 : decode cX12_mix 76 = .ok (.invokestatic 101, 3) := by decide +kernel
theorem dX12_mix_79 : decode cX12_mix 79 = .ok (.ixor, 1) := by decide +kernel
theorem dX12_mix_80 : decode cX12_mix 80 = .ok (.aload_n 0, 1) := by decide +kernel
theorem dX12_mix_81 : decode cX12_mix 81 = .ok (.getfield 35, 3) := by decide +kernel
theorem dX12_mix_84 : decode cX12_mix 84 = .ok (.iload 5, 2) := by decide +kernel
theorem dX12_mix_86 : decode cX12_mix 86 = .ok (.iload 6, 2) := by decide +kernel
theorem dX12_mix_88 : decode cX12_mix 88 = .ok (.iconst 3, 1) := by decide +kernel
theorem dX12_mix_89 : decode cX12_mix 89 = .ok (.iadd, 1) := by decide +kernel
theorem dX12_mix_90 : decode cX12_mix 90 = .ok (.iconst 4, 1) := by decide +kernel
theorem dX12_mix_91 : decode cX12_mix 91 = .ok (.irem, 1) := by decide +kernel
theorem dX12_mix_92 : decode cX12_mix 92 = .ok (.iadd, 1) := by decide +kernel
theorem dX12_mix_93 : decode cX12_mix 93 = .ok (.iaload, 1) := by decide +kernel
theorem dX12_mix_94 : decode cX12_mix 94 = .ok (.iload 4, 2) := by decide +kernel
theorem dX12_mix_96 : decode cX12_mix 96 = .ok (.invokestatic 101, 3) := by decide +kernel
theorem dX12_mix_99 : decode cX12_mix 99 = .ok (.ixor, 1) := by decide +kernel
theorem dX12_mix_100 : decode cX12_mix 100 = .ok (.iastore, 1) := by decide +kernel
theorem dX12_mix_101 : decode cX12_mix 101 = .ok (.iinc 6 1, 3) := by decide +kernel
theorem dX12_mix_104 : decode cX12_mix 104 = .ok (.goto (-91), 3) := by decide +kernel
theorem dX12_mix_107 : decode cX12_mix 107 = .ok (.iinc 5 4, 3) := by decide +kernel
theorem dX12_mix_110 : decode cX12_mix 110 = .ok (.goto (-107), 3) := by decide +kernel
theorem dX12_mix_113 : decode cX12_mix 113 = .ok (.iconst 0, 1) := by decide +kernel
theorem dX12_mix_114 : decode cX12_mix 114 = .ok (.istore 5, 2) := by decide +kernel
theorem dX12_mix_116 : decode cX12_mix 116 = .ok (.iload 5, 2) := by decide +kernel
theorem dX12_mix_118 : decode cX12_mix 118 = .ok (.bipush 16, 2) := by decide +kernel
theorem dX12_mix_120 : decode cX12_mix 120 = .ok (.if_icmp .ge 23, 3) := by decide +kernel
theorem dX12_mix_123 : decode cX12_mix 123 = .ok (.aload_n 0, 1) := by decide +kernel
theorem dX12_mix_124 : decode cX12_mix 124 = .ok (.getfield 35, 3) := by decide +kernel
theorem dX12_mix_127 : decode cX12_mix 127 = .ok (.iload 5, 2) := by decide +kernel
theorem dX12_mix_129 : decode cX12_mix 129 = .ok (.aload_n 0, 1) := by decide +kernel
theorem dX12_mix_130 : decode cX12_mix 130 = .ok (.getfield 38, 3) := by decide +kernel
theorem dX12_mix_133 : decode cX12_mix 133 = .ok (.iload 5, 2) := by decide +kernel
theorem dX12_mix_135 : decode cX12_mix 135 = .ok (.iaload, 1) := by decide +kernel
theorem dX12_mix_136 : decode cX12_mix 136 = .ok (.iastore, 1) := by decide +kernel
theorem dX12_mix_137 : decode cX12_mix 137 = .ok (.iinc 5 1, 3) := by decide +kernel
theorem dX12_mix_140 : decode cX12_mix 140 = .ok (.goto (-24), 3) := by decide +kernel
theorem dX12_mix_143 : decode cX12_mix 143 = .ok (.return_, 1) := by decide +kernel
theorem dX12_sealBlock_0 : decode cX12_sealBlock 0 = .ok (.iconst 0, 1) := by decide +kernel
theorem dX12_sealBlock_1 : decode cX12_sealBlock 1 = .ok (.istore 4, 2) := by decide +kernel
theorem dX12_sealBlock_3 : decode cX12_sealBlock 3 = .ok (.iload 4, 2) := by decide +kernel
theorem dX12_sealBlock_5 : decode cX12_sealBlock 5 = .ok (.bipush 16, 2) := by decide +kernel
theorem dX12_sealBlock_7 : decode cX12_sealBlock 7 = .ok (.if_icmp .ge 22, 3) := by decide +kernel
theorem dX12_sealBlock_10 : decode cX12_sealBlock 10 = .ok (.aload_n 0, 1) := by decide +kernel
theorem dX12_sealBlock_11 : decode cX12_sealBlock 11 = .ok (.getfield 35, 3) := by decide +kernel
theorem dX12_sealBlock_14 : decode cX12_sealBlock 14 = .ok (.iload 4, 2) := by decide +kernel
theorem dX12_sealBlock_16 : decode cX12_sealBlock 16 = .ok (.aload_n 2, 1) := by decide +kernel
theorem dX12_sealBlock_17 : decode cX12_sealBlock 17 = .ok (.iload_n 3, 1) := by decide +kernel
theorem dX12_sealBlock_18 : decode cX12_sealBlock 18 = .ok (.iload 4, 2) := by decide +kernel
theorem dX12_sealBlock_20 : decode cX12_sealBlock 20 = .ok (.iadd, 1) := by decide +kernel
theorem dX12_sealBlock_21 : decode cX12_sealBlock 21 = .ok (.iaload, 1) := by decide +kernel
theorem dX12_sealBlock_22 : decode cX12_sealBlock 22 = .ok (.iastore, 1) := by decide +kernel
theorem dX12_sealBlock_23 : decode cX12_sealBlock 23 = .ok (.iinc 4 1, 3) := by decide +kernel
theorem dX12_sealBlock_26 : decode cX12_sealBlock 26 = .ok (.goto (-23), 3) := by decide +kernel
theorem dX12_sealBlock_29 : decode cX12_sealBlock 29 = .ok (.aload_n 0, 1) := by decide +kernel
theorem dX12_sealBlock_30 : decode cX12_sealBlock 30 = .ok (.iload_n 1, 1) := by decide +kernel
theorem dX12_sealBlock_31 : decode cX12_sealBlock 31 = .ok (.iconst 0, 1) := by decide +kernel
theorem dX12_sealBlock_32 : decode cX12_sealBlock 32 = .ok (.invokevirtual 122, 3) := by decide +kernel
theorem dX12_sealBlock_35 : decode cX12_sealBlock 35 = .ok (.iconst 1, 1) := by decide +kernel
theorem dX12_sealBlock_36 : decode cX12_sealBlock 36 = .ok (.istore 4, 2) := by decide +kernel
theorem dX12_sealBlock_38 : decode cX12_sealBlock 38 = .ok (.iload 4, 2) := by decide +kernel
theorem dX12_sealBlock_40 : decode cX12_sealBlock 40 = .ok (.aload_n 0, 1) := by decide +kernel
theorem dX12_sealBlock_41 : decode cX12_sealBlock 41 = .ok (.getfield 32, 3) := by decide +kernel
theorem dX12_sealBlock_44 : decode cX12_sealBlock 44 = .ok (.iload_n 1, 1) := by decide +kernel
theorem dX12_sealBlock_45 : decode cX12_sealBlock 45 = .ok (.iaload, 1) := by decide +kernel
theorem dX12_sealBlock_46 : decode cX12_sealBlock 46 = .ok (.if_icmp .gt 110, 3) := by decide +kernel
theorem dX12_sealBlock_49 : decode cX12_sealBlock 49 = .ok (.iconst 0, 1) := by decide +kernel
theorem dX12_sealBlock_50 : decode cX12_sealBlock 50 = .ok (.istore 5, 2) := by decide +kernel
theorem dX12_sealBlock_52 : decode cX12_sealBlock 52 = .ok (.iload 5, 2) := by decide +kernel
theorem dX12_sealBlock_54 : decode cX12_sealBlock 54 = .ok (.bipush 16, 2) := by decide +kernel
theorem dX12_sealBlock_56 : decode cX12_sealBlock 56 = .ok (.if_icmp .ge 38, 3) := by decide +kernel
theorem dX12_sealBlock_59 : decode cX12_sealBlock 59 = .ok (.aload_n 0, 1) := by decide +kernel
theorem dX12_sealBlock_60 : decode cX12_sealBlock 60 = .ok (.getfield 38, 3) := by decide +kernel
theorem dX12_sealBlock_63 : decode cX12_sealBlock 63 = .ok (.iload 5, 2) := by decide +kernel
theorem dX12_sealBlock_65 : decode cX12_sealBlock 65 = .ok (.aload_n 0, 1) := by decide +kernel
theorem dX12_sealBlock_66 : decode cX12_sealBlock 66 = .ok (.getfield 23, 3) := by decide +kernel
theorem dX12_sealBlock_69 : decode cX12_sealBlock 69 = .ok (.aload_n 0, 1) := by decide +kernel
theorem dX12_sealBlock_70 : decode cX12_sealBlock 70 = .ok (.getfield 35, 3) := by decide +kernel
theorem dX12_sealBlock_73 : decode cX12_sealBlock 73 = .ok (.iload 5, 2) := by decide +kernel
theorem dX12_sealBlock_75 : decode cX12_sealBlock 75 = .ok (.iconst 4, 1) := by decide +kernel
theorem dX12_sealBlock_76 : decode cX12_sealBlock 76 = .ok (.iload 5, 2) := by decide +kernel
theorem dX12_sealBlock_78 : decode cX12_sealBlock 78 = .ok (.iconst 4, 1) := by decide +kernel
theorem dX12_sealBlock_79 : decode cX12_sealBlock 79 = .ok (.irem, 1) := by decide +kernel
theorem dX12_sealBlock_80 : decode cX12_sealBlock 80 = .ok (.imul, 1) := by decide +kernel
theorem dX12_sealBlock_81 : decode cX12_sealBlock 81 = .ok (.iadd, 1) := by decide +kernel
theorem dX12_sealBlock_82 : decode cX12_sealBlock 82 = .ok (.bipush 16, 2) := by decide +kernel
theorem dX12_sealBlock_84 : decode cX12_sealBlock 84 = .ok (.irem, 1) := by decide +kernel
theorem dX12_sealBlock_85 : decode cX12_sealBlock 85 = .ok (.iaload, 1) := by decide +kernel
theorem dX12_sealBlock_86 : decode cX12_sealBlock 86 = .ok (.iaload, 1) := by decide +kernel
theorem dX12_sealBlock_87 : decode cX12_sealBlock 87 = .ok (.iastore, 1) := by decide +kernel
theorem dX12_sealBlock_88 : decode cX12_sealBlock 88 = .ok (.iinc 5 1, 3) := by decide +kernel
theorem dX12_sealBlock_91 : decode cX12_sealBlock 91 = .ok (.goto (-39), 3) := by decide +kernel
theorem dX12_sealBlock_94 : decode cX12_sealBlock 94 = .ok (.iconst 0, 1) := by decide +kernel
theorem dX12_sealBlock_95 : decode cX12_sealBlock 95 = .ok (.istore 5, 2) := by decide +kernel
theorem dX12_sealBlock_97 : decode cX12_sealBlock 97 = .ok (.iload 5, 2) := by decide +kernel
theorem dX12_sealBlock_99 : decode cX12_sealBlock 99 = .ok (.bipush 16, 2) := by decide +kernel
theorem dX12_sealBlock_101 : decode cX12_sealBlock 101 = .ok (.if_icmp .ge 23, 3) := by decide +kernel
theorem dX12_sealBlock_104 : decode cX12_sealBlock 104 = .ok (.aload_n 0, 1) := by decide +kernel
theorem dX12_sealBlock_105 : decode cX12_sealBlock 105 = .ok (.getfield 35, 3) := by decide +kernel
theorem dX12_sealBlock_108 : decode cX12_sealBlock 108 = .ok (.iload 5, 2) := by decide +kernel
theorem dX12_sealBlock_110 : decode cX12_sealBlock 110 = .ok (.aload_n 0, 1) := by decide +kernel
theorem dX12_sealBlock_111 : decode cX12_sealBlock 111 = .ok (.getfield 38, 3) := by decide +kernel
theorem dX12_sealBlock_114 : decode cX12_sealBlock 114 = .ok (.iload 5, 2) := by decide +kernel
theorem dX12_sealBlock_116 : decode cX12_sealBlock 116 = .ok (.iaload, 1) := by decide +kernel
theorem dX12_sealBlock_117 : decode cX12_sealBlock 117 = .ok (.iastore, 1) := by decide +kernel
theorem dX12_sealBlock_118 : decode cX12_sealBlock 118 = .ok (.iinc 5 1, 3) := by decide +kernel
theorem dX12_sealBlock_121 : decode cX12_sealBlock 121 = .ok (.goto (-24), 3) := by decide +kernel
theorem dX12_sealBlock_124 : decode cX12_sealBlock 124 = .ok (.iload 4, 2) := by decide +kernel
theorem dX12_sealBlock_126 : decode cX12_sealBlock 126 = .ok (.aload_n 0, 1) := by decide +kernel
theorem dX12_sealBlock_127 : decode cX12_sealBlock 127 = .ok (.getfield 32, 3) := by decide +kernel
theorem dX12_sealBlock_130 : decode cX12_sealBlock 130 = .ok (.iload_n 1, 1) := by decide +kernel
theorem dX12_sealBlock_131 : decode cX12_sealBlock 131 = .ok (.iaload, 1) := by decide +kernel
theorem dX12_sealBlock_132 : decode cX12_sealBlock 132 = .ok (.if_icmp .ge 11, 3) := by decide +kernel
theorem dX12_sealBlock_135 : decode cX12_sealBlock 135 = .ok (.aload_n 0, 1) := by decide +kernel
theorem dX12_sealBlock_136 : decode cX12_sealBlock 136 = .ok (.iconst 2, 1) := by decide +kernel
theorem dX12_sealBlock_137 : decode cX12_sealBlock 137 = .ok (.iconst 3, 1) := by decide +kernel
theorem dX12_sealBlock_138 : decode cX12_sealBlock 138 = .ok (.iconst 1, 1) := by decide +kernel
theorem dX12_sealBlock_139 : decode cX12_sealBlock 139 = .ok (.iconst 1, 1) := by decide +kernel
theorem dX12_sealBlock_140 : decode cX12_sealBlock 140 = .ok (.invokevirtual 126, 3) := by decide +kernel
theorem dX12_sealBlock_143 : decode cX12_sealBlock 143 = .ok (.aload_n 0, 1) := by decide +kernel
theorem dX12_sealBlock_144 : decode cX12_sealBlock 144 = .ok (.iload_n 1, 1) := by decide +kernel
theorem dX12_sealBlock_145 : decode cX12_sealBlock 145 = .ok (.iload 4, 2) := by decide +kernel
theorem dX12_sealBlock_147 : decode cX12_sealBlock 147 = .ok (.invokevirtual 122, 3) := by decide +kernel
theorem dX12_sealBlock_150 : decode cX12_sealBlock 150 = .ok (.iinc 4 1, 3) := by decide +kernel
theorem dX12_sealBlock_153 : decode cX12_sealBlock 153 = .ok (.goto (-115), 3) := by decide +kernel
theorem dX12_sealBlock_156 : decode cX12_sealBlock 156 = .ok (.iconst 0, 1) := by decide +kernel
theorem dX12_sealBlock_157 : decode cX12_sealBlock 157 = .ok (.istore 4, 2) := by decide +kernel
theorem dX12_sealBlock_159 : decode cX12_sealBlock 159 = .ok (.iload 4, 2) := by decide +kernel
theorem dX12_sealBlock_161 : decode cX12_sealBlock 161 = .ok (.bipush 16, 2) := by decide +kernel
theorem dX12_sealBlock_163 : decode cX12_sealBlock 163 = .ok (.if_icmp .ge 22, 3) := by decide +kernel
theorem dX12_sealBlock_166 : decode cX12_sealBlock 166 = .ok (.aload_n 2, 1) := by decide +kernel
theorem dX12_sealBlock_167 : decode cX12_sealBlock 167 = .ok (.iload_n 3, 1) := by decide +kernel
theorem dX12_sealBlock_168 : decode cX12_sealBlock 168 = .ok (.iload 4, 2) := by decide +kernel
theorem dX12_sealBlock_170 : decode cX12_sealBlock 170 = .ok (.iadd, 1) := by decide +kernel
theorem dX12_sealBlock_171 : decode cX12_sealBlock 171 = .ok (.aload_n 0, 1) := by decide +kernel
theorem dX12_sealBlock_172 : decode cX12_sealBlock 172 = .ok (.getfield 35, 3) := by decide +kernel
theorem dX12_sealBlock_175 : decode cX12_sealBlock 175 = .ok (.iload 4, 2) := by decide +kernel
theorem dX12_sealBlock_177 : decode cX12_sealBlock 177 = .ok (.iaload, 1) := by decide +kernel
theorem dX12_sealBlock_178 : decode cX12_sealBlock 178 = .ok (.iastore, 1) := by decide +kernel
theorem dX12_sealBlock_179 : decode cX12_sealBlock 179 = .ok (.iinc 4 1, 3) := by decide +kernel
theorem dX12_sealBlock_182 : decode cX12_sealBlock 182 = .ok (.goto (-23), 3) := by decide +kernel
theorem dX12_sealBlock_185 : decode cX12_sealBlock 185 = .ok (.return_, 1) := by decide +kernel
theorem dX12_openBlock_0 : decode cX12_openBlock 0 = .ok (.iconst 0, 1) := by decide +kernel
theorem dX12_openBlock_1 : decode cX12_openBlock 1 = .ok (.istore 4, 2) := by decide +kernel
theorem dX12_openBlock_3 : decode cX12_openBlock 3 = .ok (.iload 4, 2) := by decide +kernel
theorem dX12_openBlock_5 : decode cX12_openBlock 5 = .ok (.bipush 16, 2) := by decide +kernel
theorem dX12_openBlock_7 : decode cX12_openBlock 7 = .ok (.if_icmp .ge 22, 3) := by decide +kernel
theorem dX12_openBlock_10 : decode cX12_openBlock 10 = .ok (.aload_n 0, 1) := by decide +kernel
theorem dX12_openBlock_11 : decode cX12_openBlock 11 = .ok (.getfield 35, 3) := by decide +kernel
theorem dX12_openBlock_14 : decode cX12_openBlock 14 = .ok (.iload 4, 2) := by decide +kernel
theorem dX12_openBlock_16 : decode cX12_openBlock 16 = .ok (.aload_n 2, 1) := by decide +kernel
theorem dX12_openBlock_17 : decode cX12_openBlock 17 = .ok (.iload_n 3, 1) := by decide +kernel
theorem dX12_openBlock_18 : decode cX12_openBlock 18 = .ok (.iload 4, 2) := by decide +kernel
theorem dX12_openBlock_20 : decode cX12_openBlock 20 = .ok (.iadd, 1) := by decide +kernel
theorem dX12_openBlock_21 : decode cX12_openBlock 21 = .ok (.iaload, 1) := by decide +kernel
theorem dX12_openBlock_22 : decode cX12_openBlock 22 = .ok (.iastore, 1) := by decide +kernel
theorem dX12_openBlock_23 : decode cX12_openBlock 23 = .ok (.iinc 4 1, 3) := by decide +kernel
theorem dX12_openBlock_26 : decode cX12_openBlock 26 = .ok (.goto (-23), 3) := by decide +kernel
theorem dX12_openBlock_29 : decode cX12_openBlock 29 = .ok (.aload_n 0, 1) := by decide +kernel
theorem dX12_openBlock_30 : decode cX12_openBlock 30 = .ok (.getfield 32, 3) := by decide +kernel
theorem dX12_openBlock_33 : decode cX12_openBlock 33 = .ok (.iload_n 1, 1) := by decide +kernel
theorem dX12_openBlock_34 : decode cX12_openBlock 34 = .ok (.iaload, 1) := by decide +kernel
theorem dX12_openBlock_35 : decode cX12_openBlock 35 = .ok (.istore 4, 2) := by decide +kernel
theorem dX12_openBlock_37 : decode cX12_openBlock 37 = .ok (.iload 4, 2) := by decide +kernel
theorem dX12_openBlock_39 : decode cX12_openBlock 39 = .ok (.iconst 1, 1) := by decide +kernel
theorem dX12_openBlock_40 : decode cX12_openBlock 40 = .ok (.if_icmp .lt 114, 3) := by decide +kernel
theorem dX12_openBlock_43 : decode cX12_openBlock 43 = .ok (.aload_n 0, 1) := by decide +kernel
theorem dX12_openBlock_44 : decode cX12_openBlock 44 = .ok (.iload_n 1, 1) := by decide +kernel
theorem dX12_openBlock_45 : decode cX12_openBlock 45 = .ok (.iload 4, 2) := by decide +kernel
theorem dX12_openBlock_47 : decode cX12_openBlock 47 = .ok (.invokevirtual 122, 3) := by decide +kernel
theorem dX12_openBlock_50 : decode cX12_openBlock 50 = .ok (.iload 4, 2) := by decide +kernel
theorem dX12_openBlock_52 : decode cX12_openBlock 52 = .ok (.aload_n 0, 1) := by decide +kernel
theorem dX12_openBlock_53 : decode cX12_openBlock 53 = .ok (.getfield 32, 3) := by decide +kernel
theorem dX12_openBlock_56 : decode cX12_openBlock 56 = .ok (.iload_n 1, 1) := by decide +kernel
theorem dX12_openBlock_57 : decode cX12_openBlock 57 = .ok (.iaload, 1) := by decide +kernel
theorem dX12_openBlock_58 : decode cX12_openBlock 58 = .ok (.if_icmp .ge 15, 3) := by decide +kernel
theorem dX12_openBlock_61 : decode cX12_openBlock 61 = .ok (.aload_n 0, 1) := by decide +kernel
theorem dX12_openBlock_62 : decode cX12_openBlock 62 = .ok (.bipush 14, 2) := by decide +kernel
theorem dX12_openBlock_64 : decode cX12_openBlock 64 = .ok (.bipush 11, 2) := by decide +kernel
theorem dX12_openBlock_66 : decode cX12_openBlock 66 = .ok (.bipush 13, 2) := by decide +kernel
theorem dX12_openBlock_68 : decode cX12_openBlock 68 = .ok (.bipush 9, 2) := by decide +kernel
theorem dX12_openBlock_70 : decode cX12_openBlock 70 = .ok (.invokevirtual 126, 3) := by decide +kernel
theorem dX12_openBlock_73 : decode cX12_openBlock 73 = .ok (.iconst 0, 1) := by decide +kernel
theorem dX12_openBlock_74 : decode cX12_openBlock 74 = .ok (.istore 5, 2) := by decide +kernel
theorem dX12_openBlock_76 : decode cX12_openBlock 76 = .ok (.iload 5, 2) := by decide +kernel
theorem dX12_openBlock_78 : decode cX12_openBlock 78 = .ok (.bipush 16, 2) := by decide +kernel
theorem dX12_openBlock_80 : decode cX12_openBlock 80 = .ok (.if_icmp .ge 38, 3) := by decide +kernel
theorem dX12_openBlock_83 : decode cX12_openBlock 83 = .ok (.aload_n 0, 1) := by decide +kernel
theorem dX12_openBlock_84 : decode cX12_openBlock 84 = .ok (.getfield 38, 3) := by decide +kernel
theorem dX12_openBlock_87 : decode cX12_openBlock 87 = .ok (.iload 5, 2) := by decide +kernel
theorem dX12_openBlock_89 : decode cX12_openBlock 89 = .ok (.iconst 4, 1) := by decide +kernel
theorem dX12_openBlock_90 : decode cX12_openBlock 90 = .ok (.iload 5, 2) := by decide +kernel
theorem dX12_openBlock_92 : decode cX12_openBlock 92 = .ok (.iconst 4, 1) := by decide +kernel
theorem dX12_openBlock_93 : decode cX12_openBlock 93 = .ok (.irem, 1) := by decide +kernel
theorem dX12_openBlock_94 : decode cX12_openBlock 94 = .ok (.imul, 1) := by decide +kernel
theorem dX12_openBlock_95 : decode cX12_openBlock 95 = .ok (.iadd, 1) := by decide +kernel

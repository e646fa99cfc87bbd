theorem dL_night_46 : decode cL_night 46 = .ok (.istore 8, 2) := by decide +kernel
theorem dL_night_48 : decode cL_night 48 = .ok (.iconst 1, 1) := by decide +kernel
theorem dL_night_49 : decode cL_night 49 = .ok (.istore 9, 2) := by decide +kernel
theorem dL_night_51 : decode cL_night 51 = .ok (.iconst 0, 1) := by decide +kernel
theorem dL_night_52 : decode cL_night 52 = .ok (.istore 10, 2) := by decide +kernel
theorem dL_night_54 : decode cL_night 54 = .ok (.iload 10, 2) := by decide +kernel
theorem dL_night_56 : decode cL_night 56 = .ok (.iload_n 2, 1) := by decide +kernel
theorem dL_night_57 : decode cL_night 57 = .ok (.if_icmp .ge 289, 3) := by decide +kernel
theorem dL_night_60 : decode cL_night 60 = .ok (.iload 9, 2) := by decide +kernel
theorem dL_night_62 : decode cL_night 62 = .ok (.ifCond .eq 284, 3) := by decide +kernel
theorem dL_night_65 : decode cL_night 65 = .ok (.aload_n 0, 1) := by decide +kernel
theorem dL_night_66 : decode cL_night 66 = .ok (.iconst 4, 1) := by decide +kernel
theorem dL_night_67 : decode cL_night 67 = .ok (.iload_n 1, 1) := by decide +kernel
theorem dL_night_68 : decode cL_night 68 = .ok (.iload 10, 2) := by decide +kernel
theorem dL_night_70 : decode cL_night 70 = .ok (.iconst 1, 1) := by decide +kernel
theorem dL_night_71 : decode cL_night 71 = .ok (.invokestatic 196, 3) := by decide +kernel
theorem dL_night_74 : decode cL_night 74 = .ok (.istore 11, 2) := by decide +kernel
theorem dL_night_76 : decode cL_night 76 = .ok (.aload_n 0, 1) := by decide +kernel
theorem dL_night_77 : decode cL_night 77 = .ok (.iconst 4, 1) := by decide +kernel
theorem dL_night_78 : decode cL_night 78 = .ok (.iload_n 1, 1) := by decide +kernel
theorem dL_night_79 : decode cL_night 79 = .ok (.iload 10, 2) := by decide +kernel
theorem dL_night_81 : decode cL_night 81 = .ok (.iconst 2, 1) := by decide +kernel
theorem dL_night_82 : decode cL_night 82 = .ok (.invokestatic 196, 3) := by decide +kernel
theorem dL_night_85 : decode cL_night 85 = .ok (.istore 12, 2) := by decide +kernel
theorem dL_night_87 : decode cL_night 87 = .ok (.aload_n 0, 1) := by decide +kernel
theorem dL_night_88 : decode cL_night 88 = .ok (.iconst 4, 1) := by decide +kernel
theorem dL_night_89 : decode cL_night 89 = .ok (.iload_n 1, 1) := by decide +kernel
theorem dL_night_90 : decode cL_night 90 = .ok (.iload 10, 2) := by decide +kernel
theorem dL_night_92 : decode cL_night 92 = .ok (.iconst 0, 1) := by decide +kernel
theorem dL_night_93 : decode cL_night 93 = .ok (.invokestatic 196, 3) := by decide +kernel
theorem dL_night_96 : decode cL_night 96 = .ok (.istore 13, 2) := by decide +kernel
theorem dL_night_98 : decode cL_night 98 = .ok (.iload 11, 2) := by decide +kernel
theorem dL_night_100 : decode cL_night 100 = .ok (.iconst (-1), 1) := by decide +kernel
theorem dL_night_101 : decode cL_night 101 = .ok (.if_icmp .ne 7, 3) := by decide +kernel
theorem dL_night_104 : decode cL_night 104 = .ok (.iconst 1, 1) := by decide +kernel
theorem dL_night_105 : decode cL_night 105 = .ok (.goto 4, 3) := by decide +kernel
theorem dL_night_108 : decode cL_night 108 = .ok (.iconst 0, 1) := by decide +kernel
theorem dL_night_109 : decode cL_night 109 = .ok (.iload 12, 2) := by decide +kernel
theorem dL_night_111 : decode cL_night 111 = .ok (.ifCond .ne 7, 3) := by decide +kernel
theorem dL_night_114 : decode cL_night 114 = .ok (.iconst 1, 1) := by decide +kernel
theorem dL_night_115 : decode cL_night 115 = .ok (.goto 4, 3) := by decide +kernel
theorem dL_night_118 : decode cL_night 118 = .ok (.iconst 0, 1) := by decide +kernel
theorem dL_night_119 : decode cL_night 119 = .ok (.if_icmp .ne 87, 3) := by decide +kernel
theorem dL_night_122 : decode cL_night 122 = .ok (.iload 11, 2) := by decide +kernel
theorem dL_night_124 : decode cL_night 124 = .ok (.iconst (-1), 1) := by decide +kernel
theorem dL_night_125 : decode cL_night 125 = .ok (.if_icmp .eq 23, 3) := by decide +kernel
theorem dL_night_128 : decode cL_night 128 = .ok (.iload 5, 2) := by decide +kernel
theorem dL_night_130 : decode cL_night 130 = .ok (.iload 11, 2) := by decide +kernel
theorem dL_night_132 : decode cL_night 132 = .ok (.ishr, 1) := by decide +kernel
theorem dL_night_133 : decode cL_night 133 = .ok (.iconst 1, 1) := by decide +kernel
theorem dL_night_134 : decode cL_night 134 = .ok (.iand, 1) := by decide +kernel
theorem dL_night_135 : decode cL_night 135 = .ok (.ifCond .ne 71, 3) := by decide +kernel
theorem dL_night_138 : decode cL_night 138 = .ok (.iload 4, 2) := by decide +kernel
theorem dL_night_140 : decode cL_night 140 = .ok (.iload 11, 2) := by decide +kernel
theorem dL_night_142 : decode cL_night 142 = .ok (.ishr, 1) := by decide +kernel
theorem dL_night_143 : decode cL_night 143 = .ok (.iconst 1, 1) := by decide +kernel
theorem dL_night_144 : decode cL_night 144 = .ok (.iand, 1) := by decide +kernel
theorem dL_night_145 : decode cL_night 145 = .ok (.ifCond .ne 61, 3) := by decide +kernel
theorem dL_night_148 : decode cL_night 148 = .ok (.iload 12, 2) := by decide +kernel
theorem dL_night_150 : decode cL_night 150 = .ok (.iconst 2, 1) := by decide +kernel
theorem dL_night_151 : decode cL_night 151 = .ok (.if_icmp .ne 10, 3) := by decide +kernel
theorem dL_night_154 : decode cL_night 154 = .ok (.iload 11, 2) := by decide +kernel
theorem dL_night_156 : decode cL_night 156 = .ok (.iload 13, 2) := by decide +kernel
theorem dL_night_158 : decode cL_night 158 = .ok (.if_icmp .ne 48, 3) := by decide +kernel
theorem dL_night_161 : decode cL_night 161 = .ok (.iload 12, 2) := by decide +kernel
theorem dL_night_163 : decode cL_night 163 = .ok (.iconst 1, 1) := by decide +kernel
theorem dL_night_164 : decode cL_night 164 = .ok (.if_icmp .ne 15, 3) := by decide +kernel
theorem dL_night_167 : decode cL_night 167 = .ok (.aload_n 0, 1) := by decide +kernel
theorem dL_night_168 : decode cL_night 168 = .ok (.iconst 4, 1) := by decide +kernel
theorem dL_night_169 : decode cL_night 169 = .ok (.iload_n 1, 1) := by decide +kernel
theorem dL_night_170 : decode cL_night 170 = .ok (.iload 10, 2) := by decide +kernel
theorem dL_night_172 : decode cL_night 172 = .ok (.iconst 3, 1) := by decide +kernel
theorem dL_night_173 : decode cL_night 173 = .ok (.invokestatic 196, 3) := by decide +kernel
theorem dL_night_176 : decode cL_night 176 = .ok (.ifCond .le 30, 3) := by decide +kernel
theorem dL_night_179 : decode cL_night 179 = .ok (.aload_n 0, 1) := by decide +kernel
theorem dL_night_180 : decode cL_night 180 = .ok (.iconst 3, 1) := by decide +kernel
theorem dL_night_181 : decode cL_night 181 = .ok (.iload_n 1, 1) := by decide +kernel
theorem dL_night_182 : decode cL_night 182 = .ok (.iload 10, 2) := by decide +kernel
theorem dL_night_184 : decode cL_night 184 = .ok (.iconst 0, 1) := by decide +kernel
theorem dL_night_185 : decode cL_night 185 = .ok (.invokestatic 196, 3) := by decide +kernel
theorem dL_night_188 : decode cL_night 188 = .ok (.iload_n 3, 1) := by decide +kernel
theorem dL_night_189 : decode cL_night 189 = .ok (.iconst 1, 1) := by decide +kernel
theorem dL_night_190 : decode cL_night 190 = .ok (.if_icmp .ne 7, 3) := by decide +kernel
theorem dL_night_193 : decode cL_night 193 = .ok (.iconst (-1), 1) := by decide +kernel
theorem dL_night_194 : decode cL_night 194 = .ok (.goto 5, 3) := by decide +kernel
theorem dL_night_197 : decode cL_night 197 = .ok (.iload 11, 2) := by decide +kernel
theorem dL_night_199 : decode cL_night 199 = .ok (.if_icmp .ne 7, 3) := by decide +kernel
theorem dL_night_202 : decode cL_night 202 = .ok (.iconst 1, 1) := by decide +kernel
theorem dL_night_203 : decode cL_night 203 = .ok (.goto 4, 3) := by decide +kernel
theorem dL_night_206 : decode cL_night 206 = .ok (.iconst 0, 1) := by decide +kernel
theorem dL_night_207 : decode cL_night 207 = .ok (.istore 9, 2) := by decide +kernel
theorem dL_night_209 : decode cL_night 209 = .ok (.iload 9, 2) := by decide +kernel
theorem dL_night_211 : decode cL_night 211 = .ok (.ifCond .eq 47, 3) := by decide +kernel
theorem dL_night_214 : decode cL_night 214 = .ok (.iload 13, 2) := by decide +kernel
theorem dL_night_216 : decode cL_night 216 = .ok (.iconst (-1), 1) := by decide +kernel
theorem dL_night_217 : decode cL_night 217 = .ok (.if_icmp .eq 37, 3) := by decide +kernel
theorem dL_night_220 : decode cL_night 220 = .ok (.iload 4, 2) := by decide +kernel
theorem dL_night_222 : decode cL_night 222 = .ok (.iload 13, 2) := by decide +kernel
theorem dL_night_224 : decode cL_night 224 = .ok (.ishr, 1) := by decide +kernel
theorem dL_night_225 : decode cL_night 225 = .ok (.iconst 1, 1) := by decide +kernel
theorem dL_night_226 : decode cL_night 226 = .ok (.iand, 1) := by decide +kernel
theorem dL_night_227 : decode cL_night 227 = .ok (.iconst 1, 1) := by decide +kernel
theorem dL_night_228 : decode cL_night 228 = .ok (.if_icmp .eq 26, 3) := by decide +kernel
theorem dL_night_231 : decode cL_night 231 = .ok (.iload 5, 2) := by decide +kernel
theorem dL_night_233 : decode cL_night 233 = .ok (.iload 13, 2) := by decide +kernel
theorem dL_night_235 : decode cL_night 235 = .ok (.ishr, 1) := by decide +kernel
theorem dL_night_236 : decode cL_night 236 = .ok (.iconst 1, 1) := by decide +kernel
theorem dL_night_237 : decode cL_night 237 = .ok (.iand, 1) := by decide +kernel
theorem dL_night_238 : decode cL_night 238 = .ok (.iconst 1, 1) := by decide +kernel
theorem dL_night_239 : decode cL_night 239 = .ok (.if_icmp .eq 15, 3) := by decide +kernel
theorem dL_night_242 : decode cL_night 242 = .ok (.iload 12, 2) := by decide +kernel
theorem dL_night_244 : decode cL_night 244 = .ok (.iconst 1, 1) := by decide +kernel
theorem dL_night_245 : decode cL_night 245 = .ok (.if_icmp .eq 9, 3) := by decide +kernel
theorem dL_night_248 : decode cL_night 248 = .ok (.iload 12, 2) := by decide +kernel
theorem dL_night_250 : decode cL_night 250 = .ok (.iconst 2, 1) := by decide +kernel
theorem dL_night_251 : decode cL_night 251 = .ok (.if_icmp .ne 7, 3) := by decide +kernel
theorem dL_night_254 : decode cL_night 254 = .ok (.iconst 1, 1) := by decide +kernel
theorem dL_night_255 : decode cL_night 255 = .ok (.goto 4, 3) := by decide +kernel
theorem dL_night_258 : decode cL_night 258 = .ok (.iconst 0, 1) := by decide +kernel
theorem dL_night_259 : decode cL_night 259 = .ok (.istore 9, 2) := by decide +kernel
theorem dL_night_261 : decode cL_night 261 = .ok (.iload 8, 2) := by decide +kernel
theorem dL_night_263 : decode cL_night 263 = .ok (.ifCond .ne 9, 3) := by decide +kernel
theorem dL_night_266 : decode cL_night 266 = .ok (.iload 11, 2) := by decide +kernel
theorem dL_night_268 : decode cL_night 268 = .ok (.iconst (-1), 1) := by decide +kernel
theorem dL_night_269 : decode cL_night 269 = .ok (.if_icmp .ne 7, 3) := by decide +kernel
theorem dL_night_272 : decode cL_night 272 = .ok (.iconst 1, 1) := by decide +kernel
theorem dL_night_273 : decode cL_night 273 = .ok (.goto 4, 3) := by decide +kernel
theorem dL_night_276 : decode cL_night 276 = .ok (.iconst 0, 1) := by decide +kernel
theorem dL_night_277 : decode cL_night 277 = .ok (.istore 8, 2) := by decide +kernel
theorem dL_night_279 : decode cL_night 279 = .ok (.iload 5, 2) := by decide +kernel
theorem dL_night_281 : decode cL_night 281 = .ok (.iload 11, 2) := by decide +kernel
theorem dL_night_283 : decode cL_night 283 = .ok (.iconst (-1), 1) := by decide +kernel
theorem dL_night_284 : decode cL_night 284 = .ok (.if_icmp .ne 7, 3) := by decide +kernel
theorem dL_night_287 : decode cL_night 287 = .ok (.iconst 0, 1) := by decide +kernel
theorem dL_night_288 : decode cL_night 288 = .ok (.goto 7, 3) := by decide +kernel
theorem dL_night_291 : decode cL_night 291 = .ok (.iconst 1, 1) := by decide +kernel
theorem dL_night_292 : decode cL_night 292 = .ok (.iload 11, 2) := by decide +kernel
theorem dL_night_294 : decode cL_night 294 = .ok (.ishl, 1) := by decide +kernel
theorem dL_night_295 : decode cL_night 295 = .ok (.ior, 1) := by decide +kernel
theorem dL_night_296 : decode cL_night 296 = .ok (.istore 5, 2) := by decide +kernel
theorem dL_night_298 : decode cL_night 298 = .ok (.iload 6, 2) := by decide +kernel
theorem dL_night_300 : decode cL_night 300 = .ok (.iload 11, 2) := by decide +kernel
theorem dL_night_302 : decode cL_night 302 = .ok (.iload 13, 2) := by decide +kernel
theorem dL_night_304 : decode cL_night 304 = .ok (.if_icmp .ne 7, 3) := by decide +kernel
theorem dL_night_307 : decode cL_night 307 = .ok (.iconst 0, 1) := by decide +kernel
theorem dL_night_308 : decode cL_night 308 = .ok (.goto 4, 3) := by decide +kernel
theorem dL_night_311 : decode cL_night 311 = .ok (.iconst 1, 1) := by decide +kernel
theorem dL_night_312 : decode cL_night 312 = .ok (.iadd, 1) := by decide +kernel
theorem dL_night_313 : decode cL_night 313 = .ok (.istore 6, 2) := by decide +kernel
theorem dL_night_315 : decode cL_night 315 = .ok (.iload 7, 2) := by decide +kernel
theorem dL_night_317 : decode cL_night 317 = .ok (.iload 11, 2) := by decide +kernel
theorem dL_night_319 : decode cL_night 319 = .ok (.iconst (-1), 1) := by decide +kernel
theorem dL_night_320 : decode cL_night 320 = .ok (.if_icmp .ne 7, 3) := by decide +kernel
theorem dL_night_323 : decode cL_night 323 = .ok (.iconst 0, 1) := by decide +kernel
theorem dL_night_324 : decode cL_night 324 = .ok (.goto 13, 3) := by decide +kernel
theorem dL_night_327 : decode cL_night 327 = .ok (.aload_n 0, 1) := by decide +kernel
theorem dL_night_328 : decode cL_night 328 = .ok (.bipush 6, 2) := by decide +kernel
theorem dL_night_330 : decode cL_night 330 = .ok (.iload 11, 2) := by decide +kernel
theorem dL_night_332 : decode cL_night 332 = .ok (.iconst 0, 1) := by decide +kernel
theorem dL_night_333 : decode cL_night 333 = .ok (.iconst 0, 1) := by decide +kernel
theorem dL_night_334 : decode cL_night 334 = .ok (.invokestatic 196, 3) := by decide +kernel
theorem dL_night_337 : decode cL_night 337 = .ok (.iadd, 1) := by decide +kernel
theorem dL_night_338 : decode cL_night 338 = .ok (.istore 7, 2) := by decide +kernel
theorem dL_night_340 : decode cL_night 340 = .ok (.iinc 10 1, 3) := by decide +kernel
theorem dL_night_343 : decode cL_night 343 = .ok (.goto (-289), 3) := by decide +kernel
theorem dL_night_346 : decode cL_night 346 = .ok (.iload 9, 2) := by decide +kernel
theorem dL_night_348 : decode cL_night 348 = .ok (.ifCond .eq 108, 3) := by decide +kernel
theorem dL_night_351 : decode cL_night 351 = .ok (.iload 8, 2) := by decide +kernel
theorem dL_night_353 : decode cL_night 353 = .ok (.iload_n 3, 1) := by decide +kernel
theorem dL_night_354 : decode cL_night 354 = .ok (.iconst 1, 1) := by decide +kernel
theorem dL_night_355 : decode cL_night 355 = .ok (.if_icmp .ne 7, 3) := by decide +kernel
theorem dL_night_358 : decode cL_night 358 = .ok (.iconst 1, 1) := by decide +kernel
theorem dL_night_359 : decode cL_night 359 = .ok (.goto 4, 3) := by decide +kernel
theorem dL_night_362 : decode cL_night 362 = .ok (.iconst 0, 1) := by decide +kernel
theorem dL_night_363 : decode cL_night 363 = .ok (.if_icmp .ne 93, 3) := by decide +kernel
theorem dL_night_366 : decode cL_night 366 = .ok (.aload_n 0, 1) := by decide +kernel
theorem dL_night_367 : decode cL_night 367 = .ok (.iconst 5, 1) := by decide +kernel
theorem dL_night_368 : decode cL_night 368 = .ok (.iload_n 1, 1) := by decide +kernel
theorem dL_night_369 : decode cL_night 369 = .ok (.iconst 3, 1) := by decide +kernel
theorem dL_night_370 : decode cL_night 370 = .ok (.iconst 0, 1) := by decide +kernel
theorem dL_night_371 : decode cL_night 371 = .ok (.invokestatic 196, 3) := by decide +kernel
theorem dL_night_374 : decode cL_night 374 = .ok (.iload_n 3, 1) := by decide +kernel
theorem dL_night_375 : decode cL_night 375 = .ok (.iconst 1, 1) := by decide +kernel
theorem dL_night_376 : decode cL_night 376 = .ok (.if_icmp .ne 7, 3) := by decide +kernel
theorem dL_night_379 : decode cL_night 379 = .ok (.iconst 0, 1) := by decide +kernel
theorem dL_night_380 : decode cL_night 380 = .ok (.goto 5, 3) := by decide +kernel
theorem dL_night_383 : decode cL_night 383 = .ok (.iload 5, 2) := by decide +kernel
theorem dL_night_385 : decode cL_night 385 = .ok (.if_icmp .ne 71, 3) := by decide +kernel
theorem dL_night_388 : decode cL_night 388 = .ok (.aload_n 0, 1) := by decide +kernel
theorem dL_night_389 : decode cL_night 389 = .ok (.iconst 5, 1) := by decide +kernel
theorem dL_night_390 : decode cL_night 390 = .ok (.iload_n 1, 1) := by decide +kernel
theorem dL_night_391 : decode cL_night 391 = .ok (.iconst 4, 1) := by decide +kernel
theorem dL_night_392 : decode cL_night 392 = .ok (.iconst 0, 1) := by decide +kernel
theorem dL_night_393 : decode cL_night 393 = .ok (.invokestatic 196, 3) := by decide +kernel
theorem dL_night_396 : decode cL_night 396 = .ok (.iload_n 3, 1) := by decide +kernel
theorem dL_night_397 : decode cL_night 397 = .ok (.iconst 1, 1) := by decide +kernel
theorem dL_night_398 : decode cL_night 398 = .ok (.if_icmp .ne 7, 3) := by decide +kernel
theorem dL_night_401 : decode cL_night 401 = .ok (.iconst 0, 1) := by decide +kernel
theorem dL_night_402 : decode cL_night 402 = .ok (.goto 5, 3) := by decide +kernel
theorem dL_night_405 : decode cL_night 405 = .ok (.iload 6, 2) := by decide +kernel
theorem dL_night_407 : decode cL_night 407 = .ok (.if_icmp .ne 49, 3) := by decide +kernel
theorem dL_night_410 : decode cL_night 410 = .ok (.aload_n 0, 1) := by decide +kernel
theorem dL_night_411 : decode cL_night 411 = .ok (.iconst 5, 1) := by decide +kernel
theorem dL_night_412 : decode cL_night 412 = .ok (.iload_n 1, 1) := by decide +kernel
theorem dL_night_413 : decode cL_night 413 = .ok (.iconst 1, 1) := by decide +kernel
theorem dL_night_414 : decode cL_night 414 = .ok (.iconst 0, 1) := by decide +kernel
theorem dL_night_415 : decode cL_night 415 = .ok (.invokestatic 196, 3) := by decide +kernel
theorem dL_night_418 : decode cL_night 418 = .ok (.iload_n 3, 1) := by decide +kernel
theorem dL_night_419 : decode cL_night 419 = .ok (.iconst 1, 1) := by decide +kernel
theorem dL_night_420 : decode cL_night 420 = .ok (.if_icmp .ne 7, 3) := by decide +kernel
theorem dL_night_423 : decode cL_night 423 = .ok (.iconst 0, 1) := by decide +kernel
theorem dL_night_424 : decode cL_night 424 = .ok (.goto 25, 3) := by decide +kernel
theorem dL_night_427 : decode cL_night 427 = .ok (.aload_n 0, 1) := by decide +kernel
theorem dL_night_428 : decode cL_night 428 = .ok (.bipush 9, 2) := by decide +kernel
theorem dL_night_430 : decode cL_night 430 = .ok (.iconst 0, 1) := by decide +kernel
theorem dL_night_431 : decode cL_night 431 = .ok (.iconst 0, 1) := by decide +kernel
theorem dL_night_432 : decode cL_night 432 = .ok (.iconst 0, 1) := by decide +kernel
theorem dL_night_433 : decode cL_night 433 = .ok (.invokestatic 196, 3) := by decide +kernel
theorem dL_night_436 : decode cL_night 436 = .ok (.aload_n 0, 1) := by decide +kernel
theorem dL_night_437 : decode cL_night 437 = .ok (.bipush 9, 2) := by decide +kernel
theorem dL_night_439 : decode cL_night 439 = .ok (.iconst 1, 1) := by decide +kernel
theorem dL_night_440 : decode cL_night 440 = .ok (.iconst 0, 1) := by decide +kernel
theorem dL_night_441 : decode cL_night 441 = .ok (.iconst 0, 1) := by decide +kernel
theorem dL_night_442 : decode cL_night 442 = .ok (.invokestatic 196, 3) := by decide +kernel
theorem dL_night_445 : decode cL_night 445 = .ok (.iload 7, 2) := by decide +kernel
theorem dL_night_447 : decode cL_night 447 = .ok (.imul, 1) := by decide +kernel
theorem dL_night_448 : decode cL_night 448 = .ok (.iadd, 1) := by decide +kernel
theorem dL_night_449 : decode cL_night 449 = .ok (.if_icmp .ne 7, 3) := by decide +kernel
theorem dL_night_452 : decode cL_night 452 = .ok (.iconst 1, 1) := by decide +kernel
theorem dL_night_453 : decode cL_night 453 = .ok (.goto 4, 3) := by decide +kernel
theorem dL_night_456 : decode cL_night 456 = .ok (.iconst 0, 1) := by decide +kernel
theorem dL_night_457 : decode cL_night 457 = .ok (.ireturn, 1) := by decide +kernel
theorem dL_holds_0 : decode cL_holds 0 = .ok (.iconst 0, 1) := by decide +kernel
theorem dL_holds_1 : decode cL_holds 1 = .ok (.istore_n 2, 1) := by decide +kernel
theorem dL_holds_2 : decode cL_holds 2 = .ok (.iconst 0, 1) := by decide +kernel
theorem dL_holds_3 : decode cL_holds 3 = .ok (.istore_n 3, 1) := by decide +kernel
theorem dL_holds_4 : decode cL_holds 4 = .ok (.iconst 0, 1) := by decide +kernel
theorem dL_holds_5 : decode cL_holds 5 = .ok (.istore 4, 2) := by decide +kernel
theorem dL_holds_7 : decode cL_holds 7 = .ok (.iconst 0, 1) := by decide +kernel
theorem dL_holds_8 : decode cL_holds 8 = .ok (.istore 5, 2) := by decide +kernel
theorem dL_holds_10 : decode cL_holds 10 = .ok (.aload_n 0, 1) := by decide +kernel
theorem dL_holds_11 : decode cL_holds 11 = .ok (.iconst 2, 1) := by decide +kernel
theorem dL_holds_12 : decode cL_holds 12 = .ok (.iconst 2, 1) := by decide +kernel
theorem dL_holds_13 : decode cL_holds 13 = .ok (.iconst 0, 1) := by decide +kernel
theorem dL_holds_14 : decode cL_holds 14 = .ok (.iconst 0, 1) := by decide +kernel
theorem dL_holds_15 : decode cL_holds 15 = .ok (.invokestatic 196, 3) := by decide +kernel
theorem dL_holds_18 : decode cL_holds 18 = .ok (.istore 6, 2) := by decide +kernel
theorem dL_holds_20 : decode cL_holds 20 = .ok (.iload_n 1, 1) := by decide +kernel
theorem dL_holds_21 : decode cL_holds 21 = .ok (.aload_n 0, 1) := by decide +kernel
theorem dL_holds_22 : decode cL_holds 22 = .ok (.iconst 2, 1) := by decide +kernel
theorem dL_holds_23 : decode cL_holds 23 = .ok (.iconst 1, 1) := by decide +kernel
theorem dL_holds_24 : decode cL_holds 24 = .ok (.iconst 0, 1) := by decide +kernel
theorem dL_holds_25 : decode cL_holds 25 = .ok (.iconst 0, 1) := by decide +kernel
theorem dL_holds_26 : decode cL_holds 26 = .ok (.invokestatic 196, 3) := by decide +kernel
theorem dL_holds_29 : decode cL_holds 29 = .ok (.irem, 1) := by decide +kernel
theorem dL_holds_30 : decode cL_holds 30 = .ok (.istore 7, 2) := by decide +kernel
theorem dL_holds_32 : decode cL_holds 32 = .ok (.iconst (-1), 1) := by decide +kernel
theorem dL_holds_33 : decode cL_holds 33 = .ok (.istore 8, 2) := by decide +kernel
theorem dL_holds_35 : decode cL_holds 35 = .ok (.iconst (-1), 1) := by decide +kernel
theorem dL_holds_36 : decode cL_holds 36 = .ok (.istore 9, 2) := by decide +kernel
theorem dL_holds_38 : decode cL_holds 38 = .ok (.iconst 0, 1) := by decide +kernel
theorem dL_holds_39 : decode cL_holds 39 = .ok (.istore 10, 2) := by decide +kernel
theorem dL_holds_41 : decode cL_holds 41 = .ok (.iload 6, 2) := by decide +kernel
theorem dL_holds_43 : decode cL_holds 43 = .ok (.bipush 20, 2) := by decide +kernel
theorem dL_holds_45 : decode cL_holds 45 = .ok (.if_icmp .gt 7, 3) := by decide +kernel
theorem dL_holds_48 : decode cL_holds 48 = .ok (.iconst 1, 1) := by decide +kernel
theorem dL_holds_49 : decode cL_holds 49 = .ok (.goto 4, 3) := by decide +kernel
theorem dL_holds_52 : decode cL_holds 52 = .ok (.iconst 0, 1) := by decide +kernel
theorem dL_holds_53 : decode cL_holds 53 = .ok (.istore 11, 2) := by decide +kernel
theorem dL_holds_55 : decode cL_holds 55 = .ok (.iconst 0, 1) := by decide +kernel
theorem dL_holds_56 : decode cL_holds 56 = .ok (.istore 12, 2) := by decide +kernel
theorem dL_holds_58 : decode cL_holds 58 = .ok (.iload 12, 2) := by decide +kernel
theorem dL_holds_60 : decode cL_holds 60 = .ok (.bipush 20, 2) := by decide +kernel
theorem dL_holds_62 : decode cL_holds 62 = .ok (.if_icmp .ge 120, 3) := by decide +kernel
theorem dL_holds_65 : decode cL_holds 65 = .ok (.iload 11, 2) := by decide +kernel
theorem dL_holds_67 : decode cL_holds 67 = .ok (.ifCond .eq 115, 3) := by decide +kernel
theorem dL_holds_70 : decode cL_holds 70 = .ok (.aload_n 0, 1) := by decide +kernel
theorem dL_holds_71 : decode cL_holds 71 = .ok (.iload 12, 2) := by decide +kernel
theorem dL_holds_73 : decode cL_holds 73 = .ok (.invokestatic 217, 3) := by decide +kernel
theorem dL_holds_76 : decode cL_holds 76 = .ok (.istore 11, 2) := by decide +kernel
theorem dL_holds_78 : decode cL_holds 78 = .ok (.iload_n 2, 1) := by decide +kernel
theorem dL_holds_79 : decode cL_holds 79 = .ok (.aload_n 0, 1) := by decide +kernel
theorem dL_holds_80 : decode cL_holds 80 = .ok (.iconst 5, 1) := by decide +kernel
theorem dL_holds_81 : decode cL_holds 81 = .ok (.iload 12, 2) := by decide +kernel
theorem dL_holds_83 : decode cL_holds 83 = .ok (.iconst 0, 1) := by decide +kernel
theorem dL_holds_84 : decode cL_holds 84 = .ok (.iconst 0, 1) := by decide +kernel
theorem dL_holds_85 : decode cL_holds 85 = .ok (.invokestatic 196, 3) := by decide +kernel
theorem dL_holds_88 : decode cL_holds 88 = .ok (.iadd, 1) := by decide +kernel
theorem dL_holds_89 : decode cL_holds 89 = .ok (.istore_n 2, 1) := by decide +kernel
theorem dL_holds_90 : decode cL_holds 90 = .ok (.iload_n 3, 1) := by decide +kernel
theorem dL_holds_91 : decode cL_holds 91 = .ok (.aload_n 0, 1) := by decide +kernel
theorem dL_holds_92 : decode cL_holds 92 = .ok (.iconst 5, 1) := by decide +kernel
theorem dL_holds_93 : decode cL_holds 93 = .ok (.iload 12, 2) := by decide +kernel
theorem dL_holds_95 : decode cL_holds 95 = .ok (.iconst 1, 1) := by decide +kernel
theorem dL_holds_96 : decode cL_holds 96 = .ok (.iconst 0, 1) := by decide +kernel
theorem dL_holds_97 : decode cL_holds 97 = .ok (.invokestatic 196, 3) := by decide +kernel
theorem dL_holds_100 : decode cL_holds 100 = .ok (.iadd, 1) := by decide +kernel
theorem dL_holds_101 : decode cL_holds 101 = .ok (.istore_n 3, 1) := by decide +kernel
theorem dL_holds_102 : decode cL_holds 102 = .ok (.aload_n 0, 1) := by decide +kernel
theorem dL_holds_103 : decode cL_holds 103 = .ok (.iconst 5, 1) := by decide +kernel
theorem dL_holds_104 : decode cL_holds 104 = .ok (.iload 12, 2) := by decide +kernel
theorem dL_holds_106 : decode cL_holds 106 = .ok (.iconst 3, 1) := by decide +kernel
theorem dL_holds_107 : decode cL_holds 107 = .ok (.iconst 0, 1) := by decide +kernel
theorem dL_holds_108 : decode cL_holds 108 = .ok (.invokestatic 196, 3) := by decide +kernel
theorem dL_holds_111 : decode cL_holds 111 = .ok (.iload 7, 2) := by decide +kernel
theorem dL_holds_113 : decode cL_holds 113 = .ok (.ishr, 1) := by decide +kernel
theorem dL_holds_114 : decode cL_holds 114 = .ok (.iconst 1, 1) := by decide +kernel
theorem dL_holds_115 : decode cL_holds 115 = .ok (.iand, 1) := by decide +kernel
theorem dL_holds_116 : decode cL_holds 116 = .ok (.iconst 1, 1) := by decide +kernel
theorem dL_holds_117 : decode cL_holds 117 = .ok (.if_icmp .ne 7, 3) := by decide +kernel
theorem dL_holds_120 : decode cL_holds 120 = .ok (.iconst 1, 1) := by decide +kernel
theorem dL_holds_121 : decode cL_holds 121 = .ok (.goto 4, 3) := by decide +kernel
theorem dL_holds_124 : decode cL_holds 124 = .ok (.iconst 0, 1) := by decide +kernel
theorem dL_holds_125 : decode cL_holds 125 = .ok (.istore 13, 2) := by decide +kernel
theorem dL_holds_127 : decode cL_holds 127 = .ok (.iload 10, 2) := by decide +kernel
theorem dL_holds_129 : decode cL_holds 129 = .ok (.iload 13, 2) := by decide +kernel
theorem dL_holds_131 : decode cL_holds 131 = .ok (.ifCond .eq 7, 3) := by decide +kernel
theorem dL_holds_134 : decode cL_holds 134 = .ok (.iconst 1, 1) := by decide +kernel
theorem dL_holds_135 : decode cL_holds 135 = .ok (.goto 4, 3) := by decide +kernel
theorem dL_holds_138 : decode cL_holds 138 = .ok (.iconst 0, 1) := by decide +kernel
theorem dL_holds_139 : decode cL_holds 139 = .ok (.iadd, 1) := by decide +kernel
theorem dL_holds_140 : decode cL_holds 140 = .ok (.istore 10, 2) := by decide +kernel
theorem dL_holds_142 : decode cL_holds 142 = .ok (.iload 13, 2) := by decide +kernel
theorem dL_holds_144 : decode cL_holds 144 = .ok (.ifCond .eq 14, 3) := by decide +kernel
theorem dL_holds_147 : decode cL_holds 147 = .ok (.iload 8, 2) := by decide +kernel
theorem dL_holds_149 : decode cL_holds 149 = .ok (.iconst (-1), 1) := by decide +kernel
theorem dL_holds_150 : decode cL_holds 150 = .ok (.if_icmp .ne 8, 3) := by decide +kernel
theorem dL_holds_153 : decode cL_holds 153 = .ok (.iload 12, 2) := by decide +kernel
theorem dL_holds_155 : decode cL_holds 155 = .ok (.goto 5, 3) := by decide +kernel
theorem dL_holds_158 : decode cL_holds 158 = .ok (.iload 8, 2) := by decide +kernel
theorem dL_holds_160 : decode cL_holds 160 = .ok (.istore 8, 2) := by decide +kernel
theorem dL_holds_162 : decode cL_holds 162 = .ok (.iload 13, 2) := by decide +kernel
theorem dL_holds_164 : decode cL_holds 164 = .ok (.ifCond .eq 8, 3) := by decide +kernel
theorem dL_holds_167 : decode cL_holds 167 = .ok (.iload 12, 2) := by decide +kernel
theorem dL_holds_169 : decode cL_holds 169 = .ok (.goto 5, 3) := by decide +kernel
theorem dL_holds_172 : decode cL_holds 172 = .ok (.iload 9, 2) := by decide +kernel
theorem dL_holds_174 : decode cL_holds 174 = .ok (.istore 9, 2) := by decide +kernel
theorem dL_holds_176 : decode cL_holds 176 = .ok (.iinc 12 1, 3) := by decide +kernel
theorem dL_holds_179 : decode cL_holds 179 = .ok (.goto (-121), 3) := by decide +kernel
theorem dL_holds_182 : decode cL_holds 182 = .ok (.iconst 0, 1) := by decide +kernel
theorem dL_holds_183 : decode cL_holds 183 = .ok (.istore 12, 2) := by decide +kernel
theorem dL_holds_185 : decode cL_holds 185 = .ok (.iload 12, 2) := by decide +kernel
theorem dL_holds_187 : decode cL_holds 187 = .ok (.iload 6, 2) := by decide +kernel
theorem dL_holds_189 : decode cL_holds 189 = .ok (.if_icmp .ge 114, 3) := by decide +kernel
theorem dL_holds_192 : decode cL_holds 192 = .ok (.iload 11, 2) := by decide +kernel
theorem dL_holds_194 : decode cL_holds 194 = .ok (.ifCond .eq 109, 3) := by decide +kernel
theorem dL_holds_197 : decode cL_holds 197 = .ok (.aload_n 0, 1) := by decide +kernel
theorem dL_holds_198 : decode cL_holds 198 = .ok (.bipush 8, 2) := by decide +kernel
theorem dL_holds_200 : decode cL_holds 200 = .ok (.iload 12, 2) := by decide +kernel
theorem dL_holds_202 : decode cL_holds 202 = .ok (.iconst 4, 1) := by decide +kernel
theorem dL_holds_203 : decode cL_holds 203 = .ok (.iconst 0, 1) := by decide +kernel
theorem dL_holds_204 : decode cL_holds 204 = .ok (.invokestatic 196, 3) := by decide +kernel
theorem dL_holds_207 : decode cL_holds 207 = .ok (.istore 13, 2) := by decide +kernel
theorem dL_holds_209 : decode cL_holds 209 = .ok (.iload 5, 2) := by decide +kernel
theorem dL_holds_211 : decode cL_holds 211 = .ok (.iload 13, 2) := by decide +kernel
theorem dL_holds_213 : decode cL_holds 213 = .ok (.iadd, 1) := by decide +kernel
theorem dL_holds_214 : decode cL_holds 214 = .ok (.istore 5, 2) := by decide +kernel
theorem dL_holds_216 : decode cL_holds 216 = .ok (.iload 13, 2) := by decide +kernel
theorem dL_holds_218 : decode cL_holds 218 = .ok (.ifCond .eq 72, 3) := by decide +kernel
theorem dL_holds_221 : decode cL_holds 221 = .ok (.aload_n 0, 1) := by decide +kernel
theorem dL_holds_222 : decode cL_holds 222 = .ok (.iconst 4, 1) := by decide +kernel
theorem dL_holds_223 : decode cL_holds 223 = .ok (.aload_n 0, 1) := by decide +kernel
theorem dL_holds_224 : decode cL_holds 224 = .ok (.bipush 8, 2) := by decide +kernel
theorem dL_holds_226 : decode cL_holds 226 = .ok (.iload 12, 2) := by decide +kernel
theorem dL_holds_228 : decode cL_holds 228 = .ok (.iconst 0, 1) := by decide +kernel
theorem dL_holds_229 : decode cL_holds 229 = .ok (.iconst 0, 1) := by decide +kernel
theorem dL_holds_230 : decode cL_holds 230 = .ok (.invokestatic 196, 3) := by decide +kernel
theorem dL_holds_233 : decode cL_holds 233 = .ok (.aload_n 0, 1) := by decide +kernel
theorem dL_holds_234 : decode cL_holds 234 = .ok (.bipush 8, 2) := by decide +kernel
theorem dL_holds_236 : decode cL_holds 236 = .ok (.iload 12, 2) := by decide +kernel
theorem dL_holds_238 : decode cL_holds 238 = .ok (.iconst 1, 1) := by decide +kernel
theorem dL_holds_239 : decode cL_holds 239 = .ok (.iconst 0, 1) := by decide +kernel
theorem dL_holds_240 : decode cL_holds 240 = .ok (.invokestatic 196, 3) := by decide +kernel
theorem dL_holds_243 : decode cL_holds 243 = .ok (.iconst 1, 1) := by decide +kernel
theorem dL_holds_244 : decode cL_holds 244 = .ok (.invokestatic 196, 3) := by decide +kernel
theorem dL_holds_247 : decode cL_holds 247 = .ok (.aload_n 0, 1) := by decide +kernel
theorem dL_holds_248 : decode cL_holds 248 = .ok (.bipush 8, 2) := by decide +kernel
theorem dL_holds_250 : decode cL_holds 250 = .ok (.iload 12, 2) := by decide +kernel
theorem dL_holds_252 : decode cL_holds 252 = .ok (.iconst 2, 1) := by decide +kernel
theorem dL_holds_253 : decode cL_holds 253 = .ok (.iconst 0, 1) := by decide +kernel
theorem dL_holds_254 : decode cL_holds 254 = .ok (.invokestatic 196, 3) := by decide +kernel
theorem dL_holds_257 : decode cL_holds 257 = .ok (.if_icmp .ne 37, 3) := by decide +kernel
theorem dL_holds_260 : decode cL_holds 260 = .ok (.aload_n 0, 1) := by decide +kernel
theorem dL_holds_261 : decode cL_holds 261 = .ok (.iconst 4, 1) := by decide +kernel
theorem dL_holds_262 : decode cL_holds 262 = .ok (.aload_n 0, 1) := by decide +kernel
theorem dL_holds_263 : decode cL_holds 263 = .ok (.bipush 8, 2) := by decide +kernel
theorem dL_holds_265 : decode cL_holds 265 = .ok (.iload 12, 2) := by decide +kernel
theorem dL_holds_267 : decode cL_holds 267 = .ok (.iconst 0, 1) := by decide +kernel
theorem dL_holds_268 : decode cL_holds 268 = .ok (.iconst 0, 1) := by decide +kernel
theorem dL_holds_269 : decode cL_holds 269 = .ok (.invokestatic 196, 3) := by decide +kernel
theorem dL_holds_272 : decode cL_holds 272 = .ok (.aload_n 0, 1) := by decide +kernel
theorem dL_holds_273 : decode cL_holds 273 = .ok (.bipush 8, 2) := by decide +kernel
theorem dL_holds_275 : decode cL_holds 275 = .ok (.iload 12, 2) := by decide +kernel
theorem dL_holds_277 : decode cL_holds 277 = .ok (.iconst 1, 1) := by decide +kernel
theorem dL_holds_278 : decode cL_holds 278 = .ok (.iconst 0, 1) := by decide +kernel
theorem dL_holds_279 : decode cL_holds 279 = .ok (.invokestatic 196, 3) := by decide +kernel
theorem dL_holds_282 : decode cL_holds 282 = .ok (.iconst 2, 1) := by decide +kernel
theorem dL_holds_283 : decode cL_holds 283 = .ok (.invokestatic 196, 3) := by decide +kernel
theorem dL_holds_286 : decode cL_holds 286 = .ok (.iconst 1, 1) := by decide +kernel
theorem dL_holds_287 : decode cL_holds 287 = .ok (.if_icmp .ne 7, 3) := by decide +kernel
theorem dL_holds_290 : decode cL_holds 290 = .ok (.iconst 1, 1) := by decide +kernel
theorem dL_holds_291 : decode cL_holds 291 = .ok (.goto 4, 3) := by decide +kernel
theorem dL_holds_294 : decode cL_holds 294 = .ok (.iconst 0, 1) := by decide +kernel
theorem dL_holds_295 : decode cL_holds 295 = .ok (.istore 11, 2) := by decide +kernel
theorem dL_holds_297 : decode cL_holds 297 = .ok (.iinc 12 1, 3) := by decide +kernel
theorem dL_holds_300 : decode cL_holds 300 = .ok (.goto (-115), 3) := by decide +kernel
theorem dL_holds_303 : decode cL_holds 303 = .ok (.aload_n 0, 1) := by decide +kernel
theorem dL_holds_304 : decode cL_holds 304 = .ok (.iconst 2, 1) := by decide +kernel
theorem dL_holds_305 : decode cL_holds 305 = .ok (.iconst 0, 1) := by decide +kernel
theorem dL_holds_306 : decode cL_holds 306 = .ok (.iconst 0, 1) := by decide +kernel
theorem dL_holds_307 : decode cL_holds 307 = .ok (.iconst 0, 1) := by decide +kernel
theorem dL_holds_308 : decode cL_holds 308 = .ok (.invokestatic 196, 3) := by decide +kernel
theorem dL_holds_311 : decode cL_holds 311 = .ok (.istore 12, 2) := by decide +kernel
theorem dL_holds_313 : decode cL_holds 313 = .ok (.iconst 0, 1) := by decide +kernel
theorem dL_holds_314 : decode cL_holds 314 = .ok (.istore 13, 2) := by decide +kernel
theorem dL_holds_316 : decode cL_holds 316 = .ok (.iload 13, 2) := by decide +kernel
theorem dL_holds_318 : decode cL_holds 318 = .ok (.iload 12, 2) := by decide +kernel
theorem dL_holds_320 : decode cL_holds 320 = .ok (.if_icmp .ge 163, 3) := by decide +kernel
theorem dL_holds_323 : decode cL_holds 323 = .ok (.iload 11, 2) := by decide +kernel
theorem dL_holds_325 : decode cL_holds 325 = .ok (.ifCond .eq 158, 3) := by decide +kernel
theorem dL_holds_328 : decode cL_holds 328 = .ok (.iconst 0, 1) := by decide +kernel
theorem dL_holds_329 : decode cL_holds 329 = .ok (.istore 14, 2) := by decide +kernel
theorem dL_holds_331 : decode cL_holds 331 = .ok (.iconst (-1), 1) := by decide +kernel
theorem dL_holds_332 : decode cL_holds 332 = .ok (.istore 15, 2) := by decide +kernel
theorem dL_holds_334 : decode cL_holds 334 = .ok (.aload_n 0, 1) := by decide +kernel
theorem dL_holds_335 : decode cL_holds 335 = .ok (.bipush 20, 2) := by decide +kernel
theorem dL_holds_337 : decode cL_holds 337 = .ok (.iload 13, 2) := by decide +kernel
theorem dL_holds_339 : decode cL_holds 339 = .ok (.iload 7, 2) := by decide +kernel
theorem dL_holds_341 : decode cL_holds 341 = .ok (.iconst 0, 1) := by decide +kernel
theorem dL_holds_342 : decode cL_holds 342 = .ok (.invokestatic 196, 3) := by decide +kernel
theorem dL_holds_345 : decode cL_holds 345 = .ok (.istore 16, 2) := by decide +kernel
theorem dL_holds_347 : decode cL_holds 347 = .ok (.iload 11, 2) := by decide +kernel
theorem dL_holds_349 : decode cL_holds 349 = .ok (.ifCond .eq 79, 3) := by decide +kernel
theorem dL_holds_352 : decode cL_holds 352 = .ok (.aload_n 0, 1) := by decide +kernel
theorem dL_holds_353 : decode cL_holds 353 = .ok (.bipush 18, 2) := by decide +kernel
theorem dL_holds_355 : decode cL_holds 355 = .ok (.iload 13, 2) := by decide +kernel
theorem dL_holds_357 : decode cL_holds 357 = .ok (.iload 7, 2) := by decide +kernel
theorem dL_holds_359 : decode cL_holds 359 = .ok (.iload 14, 2) := by decide +kernel
theorem dL_holds_361 : decode cL_holds 361 = .ok (.invokestatic 196, 3) := by decide +kernel
theorem dL_holds_364 : decode cL_holds 364 = .ok (.iconst (-1), 1) := by decide +kernel
theorem dL_holds_365 : decode cL_holds 365 = .ok (.if_icmp .eq 63, 3) := by decide +kernel
theorem dL_holds_368 : decode cL_holds 368 = .ok (.aload_n 0, 1) := by decide +kernel
theorem dL_holds_369 : decode cL_holds 369 = .ok (.bipush 18, 2) := by decide +kernel
theorem dL_holds_371 : decode cL_holds 371 = .ok (.iload 13, 2) := by decide +kernel
theorem dL_holds_373 : decode cL_holds 373 = .ok (.iload 7, 2) := by decide +kernel
theorem dL_holds_375 : decode cL_holds 375 = .ok (.iload 14, 2) := by decide +kernel
theorem dL_holds_377 : decode cL_holds 377 = .ok (.invokestatic 196, 3) := by decide +kernel
theorem dL_holds_380 : decode cL_holds 380 = .ok (.istore 17, 2) := by decide +kernel
theorem dL_holds_382 : decode cL_holds 382 = .ok (.iload 17, 2) := by decide +kernel
theorem dL_holds_384 : decode cL_holds 384 = .ok (.iload 15, 2) := by decide +kernel

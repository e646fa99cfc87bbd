theorem dL_refuses_45 : decode cL_refuses 45 = .ok (.irem, 1) := by decide +kernel
theorem dL_refuses_46 : decode cL_refuses 46 = .ok (.ifCond .ne 12, 3) := by decide +kernel
theorem dL_refuses_49 : decode cL_refuses 49 = .ok (.iconst (-1), 1) := by decide +kernel
theorem dL_refuses_50 : decode cL_refuses 50 = .ok (.iload_n 1, 1) := by decide +kernel
theorem dL_refuses_51 : decode cL_refuses 51 = .ok (.bipush 99, 2) := by decide +kernel
theorem dL_refuses_53 : decode cL_refuses 53 = .ok (.irem, 1) := by decide +kernel
theorem dL_refuses_54 : decode cL_refuses 54 = .ok (.isub, 1) := by decide +kernel
theorem dL_refuses_55 : decode cL_refuses 55 = .ok (.goto 10, 3) := by decide +kernel
theorem dL_refuses_58 : decode cL_refuses 58 = .ok (.bipush 20, 2) := by decide +kernel
theorem dL_refuses_60 : decode cL_refuses 60 = .ok (.iload_n 1, 1) := by decide +kernel
theorem dL_refuses_61 : decode cL_refuses 61 = .ok (.bipush 99, 2) := by decide +kernel
theorem dL_refuses_63 : decode cL_refuses 63 = .ok (.irem, 1) := by decide +kernel
theorem dL_refuses_64 : decode cL_refuses 64 = .ok (.iadd, 1) := by decide +kernel
theorem dL_refuses_65 : decode cL_refuses 65 = .ok (.istore 5, 2) := by decide +kernel
theorem dL_refuses_67 : decode cL_refuses 67 = .ok (.aload_n 0, 1) := by decide +kernel
theorem dL_refuses_68 : decode cL_refuses 68 = .ok (.iconst 0, 1) := by decide +kernel
theorem dL_refuses_69 : decode cL_refuses 69 = .ok (.iload_n 1, 1) := by decide +kernel
theorem dL_refuses_70 : decode cL_refuses 70 = .ok (.iconst 2, 1) := by decide +kernel
theorem dL_refuses_71 : decode cL_refuses 71 = .ok (.irem, 1) := by decide +kernel
theorem dL_refuses_72 : decode cL_refuses 72 = .ok (.ifCond .ne 12, 3) := by decide +kernel
theorem dL_refuses_75 : decode cL_refuses 75 = .ok (.iconst (-1), 1) := by decide +kernel
theorem dL_refuses_76 : decode cL_refuses 76 = .ok (.iload_n 1, 1) := by decide +kernel
theorem dL_refuses_77 : decode cL_refuses 77 = .ok (.bipush 9, 2) := by decide +kernel
theorem dL_refuses_79 : decode cL_refuses 79 = .ok (.irem, 1) := by decide +kernel
theorem dL_refuses_80 : decode cL_refuses 80 = .ok (.isub, 1) := by decide +kernel
theorem dL_refuses_81 : decode cL_refuses 81 = .ok (.goto 11, 3) := by decide +kernel
theorem dL_refuses_84 : decode cL_refuses 84 = .ok (.sipush 256, 3) := by decide +kernel
theorem dL_refuses_87 : decode cL_refuses 87 = .ok (.iload_n 1, 1) := by decide +kernel
theorem dL_refuses_88 : decode cL_refuses 88 = .ok (.bipush 9, 2) := by decide +kernel
theorem dL_refuses_90 : decode cL_refuses 90 = .ok (.irem, 1) := by decide +kernel
theorem dL_refuses_91 : decode cL_refuses 91 = .ok (.iadd, 1) := by decide +kernel
theorem dL_refuses_92 : decode cL_refuses 92 = .ok (.iconst 0, 1) := by decide +kernel
theorem dL_refuses_93 : decode cL_refuses 93 = .ok (.iconst 0, 1) := by decide +kernel
theorem dL_refuses_94 : decode cL_refuses 94 = .ok (.invokestatic 196, 3) := by decide +kernel
theorem dL_refuses_97 : decode cL_refuses 97 = .ok (.ldc 22, 2) := by decide +kernel
theorem dL_refuses_99 : decode cL_refuses 99 = .ok (.if_icmp .ne 645, 3) := by decide +kernel
theorem dL_refuses_102 : decode cL_refuses 102 = .ok (.aload_n 0, 1) := by decide +kernel
theorem dL_refuses_103 : decode cL_refuses 103 = .ok (.iconst 2, 1) := by decide +kernel
theorem dL_refuses_104 : decode cL_refuses 104 = .ok (.bipush 7, 2) := by decide +kernel
theorem dL_refuses_106 : decode cL_refuses 106 = .ok (.iload_n 1, 1) := by decide +kernel
theorem dL_refuses_107 : decode cL_refuses 107 = .ok (.bipush 50, 2) := by decide +kernel
theorem dL_refuses_109 : decode cL_refuses 109 = .ok (.irem, 1) := by decide +kernel
theorem dL_refuses_110 : decode cL_refuses 110 = .ok (.iadd, 1) := by decide +kernel
theorem dL_refuses_111 : decode cL_refuses 111 = .ok (.iconst 0, 1) := by decide +kernel
theorem dL_refuses_112 : decode cL_refuses 112 = .ok (.iconst 0, 1) := by decide +kernel
theorem dL_refuses_113 : decode cL_refuses 113 = .ok (.invokestatic 196, 3) := by decide +kernel
theorem dL_refuses_116 : decode cL_refuses 116 = .ok (.ldc 22, 2) := by decide +kernel
theorem dL_refuses_118 : decode cL_refuses 118 = .ok (.if_icmp .ne 626, 3) := by decide +kernel
theorem dL_refuses_121 : decode cL_refuses 121 = .ok (.aload_n 0, 1) := by decide +kernel
theorem dL_refuses_122 : decode cL_refuses 122 = .ok (.iconst 3, 1) := by decide +kernel
theorem dL_refuses_123 : decode cL_refuses 123 = .ok (.iload 5, 2) := by decide +kernel
theorem dL_refuses_125 : decode cL_refuses 125 = .ok (.iconst 0, 1) := by decide +kernel
theorem dL_refuses_126 : decode cL_refuses 126 = .ok (.iconst 0, 1) := by decide +kernel
theorem dL_refuses_127 : decode cL_refuses 127 = .ok (.invokestatic 196, 3) := by decide +kernel
theorem dL_refuses_130 : decode cL_refuses 130 = .ok (.ldc 15, 2) := by decide +kernel
theorem dL_refuses_132 : decode cL_refuses 132 = .ok (.if_icmp .ne 612, 3) := by decide +kernel
theorem dL_refuses_135 : decode cL_refuses 135 = .ok (.aload_n 0, 1) := by decide +kernel
theorem dL_refuses_136 : decode cL_refuses 136 = .ok (.iconst 3, 1) := by decide +kernel
theorem dL_refuses_137 : decode cL_refuses 137 = .ok (.iload_n 1, 1) := by decide +kernel
theorem dL_refuses_138 : decode cL_refuses 138 = .ok (.bipush 20, 2) := by decide +kernel
theorem dL_refuses_140 : decode cL_refuses 140 = .ok (.irem, 1) := by decide +kernel
theorem dL_refuses_141 : decode cL_refuses 141 = .ok (.iload_n 2, 1) := by decide +kernel
theorem dL_refuses_142 : decode cL_refuses 142 = .ok (.iconst 0, 1) := by decide +kernel
theorem dL_refuses_143 : decode cL_refuses 143 = .ok (.invokestatic 196, 3) := by decide +kernel
theorem dL_refuses_146 : decode cL_refuses 146 = .ok (.ldc 15, 2) := by decide +kernel
theorem dL_refuses_148 : decode cL_refuses 148 = .ok (.if_icmp .ne 596, 3) := by decide +kernel
theorem dL_refuses_151 : decode cL_refuses 151 = .ok (.aload_n 0, 1) := by decide +kernel
theorem dL_refuses_152 : decode cL_refuses 152 = .ok (.iconst 4, 1) := by decide +kernel
theorem dL_refuses_153 : decode cL_refuses 153 = .ok (.iload 5, 2) := by decide +kernel
theorem dL_refuses_155 : decode cL_refuses 155 = .ok (.iconst 0, 1) := by decide +kernel
theorem dL_refuses_156 : decode cL_refuses 156 = .ok (.bipush 9, 2) := by decide +kernel
theorem dL_refuses_158 : decode cL_refuses 158 = .ok (.invokestatic 196, 3) := by decide +kernel
theorem dL_refuses_161 : decode cL_refuses 161 = .ok (.ldc 15, 2) := by decide +kernel
theorem dL_refuses_163 : decode cL_refuses 163 = .ok (.if_icmp .ne 581, 3) := by decide +kernel
theorem dL_refuses_166 : decode cL_refuses 166 = .ok (.aload_n 0, 1) := by decide +kernel
theorem dL_refuses_167 : decode cL_refuses 167 = .ok (.iconst 4, 1) := by decide +kernel
theorem dL_refuses_168 : decode cL_refuses 168 = .ok (.iload_n 1, 1) := by decide +kernel
theorem dL_refuses_169 : decode cL_refuses 169 = .ok (.bipush 20, 2) := by decide +kernel
theorem dL_refuses_171 : decode cL_refuses 171 = .ok (.irem, 1) := by decide +kernel
theorem dL_refuses_172 : decode cL_refuses 172 = .ok (.iconst 0, 1) := by decide +kernel
theorem dL_refuses_173 : decode cL_refuses 173 = .ok (.iconst 4, 1) := by decide +kernel
theorem dL_refuses_174 : decode cL_refuses 174 = .ok (.iload_n 1, 1) := by decide +kernel
theorem dL_refuses_175 : decode cL_refuses 175 = .ok (.bipush 9, 2) := by decide +kernel
theorem dL_refuses_177 : decode cL_refuses 177 = .ok (.irem, 1) := by decide +kernel
theorem dL_refuses_178 : decode cL_refuses 178 = .ok (.iadd, 1) := by decide +kernel
theorem dL_refuses_179 : decode cL_refuses 179 = .ok (.invokestatic 196, 3) := by decide +kernel
theorem dL_refuses_182 : decode cL_refuses 182 = .ok (.ldc 22, 2) := by decide +kernel
theorem dL_refuses_184 : decode cL_refuses 184 = .ok (.if_icmp .ne 560, 3) := by decide +kernel
theorem dL_refuses_187 : decode cL_refuses 187 = .ok (.aload_n 0, 1) := by decide +kernel
theorem dL_refuses_188 : decode cL_refuses 188 = .ok (.iconst 5, 1) := by decide +kernel
theorem dL_refuses_189 : decode cL_refuses 189 = .ok (.iload 5, 2) := by decide +kernel
theorem dL_refuses_191 : decode cL_refuses 191 = .ok (.bipush 9, 2) := by decide +kernel
theorem dL_refuses_193 : decode cL_refuses 193 = .ok (.iconst 0, 1) := by decide +kernel
theorem dL_refuses_194 : decode cL_refuses 194 = .ok (.invokestatic 196, 3) := by decide +kernel
theorem dL_refuses_197 : decode cL_refuses 197 = .ok (.ldc 15, 2) := by decide +kernel
theorem dL_refuses_199 : decode cL_refuses 199 = .ok (.if_icmp .ne 545, 3) := by decide +kernel
theorem dL_refuses_202 : decode cL_refuses 202 = .ok (.aload_n 0, 1) := by decide +kernel
theorem dL_refuses_203 : decode cL_refuses 203 = .ok (.iconst 5, 1) := by decide +kernel
theorem dL_refuses_204 : decode cL_refuses 204 = .ok (.iload_n 1, 1) := by decide +kernel
theorem dL_refuses_205 : decode cL_refuses 205 = .ok (.bipush 20, 2) := by decide +kernel
theorem dL_refuses_207 : decode cL_refuses 207 = .ok (.irem, 1) := by decide +kernel
theorem dL_refuses_208 : decode cL_refuses 208 = .ok (.iconst 5, 1) := by decide +kernel
theorem dL_refuses_209 : decode cL_refuses 209 = .ok (.iload_n 1, 1) := by decide +kernel
theorem dL_refuses_210 : decode cL_refuses 210 = .ok (.bipush 9, 2) := by decide +kernel
theorem dL_refuses_212 : decode cL_refuses 212 = .ok (.irem, 1) := by decide +kernel
theorem dL_refuses_213 : decode cL_refuses 213 = .ok (.iadd, 1) := by decide +kernel
theorem dL_refuses_214 : decode cL_refuses 214 = .ok (.iconst 0, 1) := by decide +kernel
theorem dL_refuses_215 : decode cL_refuses 215 = .ok (.invokestatic 196, 3) := by decide +kernel
theorem dL_refuses_218 : decode cL_refuses 218 = .ok (.ldc 22, 2) := by decide +kernel
theorem dL_refuses_220 : decode cL_refuses 220 = .ok (.if_icmp .ne 524, 3) := by decide +kernel
theorem dL_refuses_223 : decode cL_refuses 223 = .ok (.aload_n 0, 1) := by decide +kernel
theorem dL_refuses_224 : decode cL_refuses 224 = .ok (.bipush 6, 2) := by decide +kernel
theorem dL_refuses_226 : decode cL_refuses 226 = .ok (.iload_n 3, 1) := by decide +kernel
theorem dL_refuses_227 : decode cL_refuses 227 = .ok (.bipush 9, 2) := by decide +kernel
theorem dL_refuses_229 : decode cL_refuses 229 = .ok (.iconst 0, 1) := by decide +kernel
theorem dL_refuses_230 : decode cL_refuses 230 = .ok (.invokestatic 196, 3) := by decide +kernel
theorem dL_refuses_233 : decode cL_refuses 233 = .ok (.ldc 15, 2) := by decide +kernel
theorem dL_refuses_235 : decode cL_refuses 235 = .ok (.if_icmp .ne 509, 3) := by decide +kernel
theorem dL_refuses_238 : decode cL_refuses 238 = .ok (.aload_n 0, 1) := by decide +kernel
theorem dL_refuses_239 : decode cL_refuses 239 = .ok (.bipush 6, 2) := by decide +kernel
theorem dL_refuses_241 : decode cL_refuses 241 = .ok (.iconst 0, 1) := by decide +kernel
theorem dL_refuses_242 : decode cL_refuses 242 = .ok (.bipush 6, 2) := by decide +kernel
theorem dL_refuses_244 : decode cL_refuses 244 = .ok (.iload_n 1, 1) := by decide +kernel
theorem dL_refuses_245 : decode cL_refuses 245 = .ok (.bipush 9, 2) := by decide +kernel
theorem dL_refuses_247 : decode cL_refuses 247 = .ok (.irem, 1) := by decide +kernel
theorem dL_refuses_248 : decode cL_refuses 248 = .ok (.iadd, 1) := by decide +kernel
theorem dL_refuses_249 : decode cL_refuses 249 = .ok (.iconst 0, 1) := by decide +kernel
theorem dL_refuses_250 : decode cL_refuses 250 = .ok (.invokestatic 196, 3) := by decide +kernel
theorem dL_refuses_253 : decode cL_refuses 253 = .ok (.ldc 22, 2) := by decide +kernel
theorem dL_refuses_255 : decode cL_refuses 255 = .ok (.if_icmp .ne 489, 3) := by decide +kernel
theorem dL_refuses_258 : decode cL_refuses 258 = .ok (.aload_n 0, 1) := by decide +kernel
theorem dL_refuses_259 : decode cL_refuses 259 = .ok (.bipush 7, 2) := by decide +kernel
theorem dL_refuses_261 : decode cL_refuses 261 = .ok (.iload_n 2, 1) := by decide +kernel
theorem dL_refuses_262 : decode cL_refuses 262 = .ok (.iconst (-1), 1) := by decide +kernel
theorem dL_refuses_263 : decode cL_refuses 263 = .ok (.iconst 0, 1) := by decide +kernel
theorem dL_refuses_264 : decode cL_refuses 264 = .ok (.invokestatic 196, 3) := by decide +kernel
theorem dL_refuses_267 : decode cL_refuses 267 = .ok (.ldc 15, 2) := by decide +kernel
theorem dL_refuses_269 : decode cL_refuses 269 = .ok (.if_icmp .ne 475, 3) := by decide +kernel
theorem dL_refuses_272 : decode cL_refuses 272 = .ok (.aload_n 0, 1) := by decide +kernel
theorem dL_refuses_273 : decode cL_refuses 273 = .ok (.bipush 7, 2) := by decide +kernel
theorem dL_refuses_275 : decode cL_refuses 275 = .ok (.iconst 0, 1) := by decide +kernel
theorem dL_refuses_276 : decode cL_refuses 276 = .ok (.iconst (-1), 1) := by decide +kernel
theorem dL_refuses_277 : decode cL_refuses 277 = .ok (.iload_n 1, 1) := by decide +kernel
theorem dL_refuses_278 : decode cL_refuses 278 = .ok (.bipush 9, 2) := by decide +kernel
theorem dL_refuses_280 : decode cL_refuses 280 = .ok (.irem, 1) := by decide +kernel
theorem dL_refuses_281 : decode cL_refuses 281 = .ok (.isub, 1) := by decide +kernel
theorem dL_refuses_282 : decode cL_refuses 282 = .ok (.iconst 0, 1) := by decide +kernel
theorem dL_refuses_283 : decode cL_refuses 283 = .ok (.invokestatic 196, 3) := by decide +kernel
theorem dL_refuses_286 : decode cL_refuses 286 = .ok (.ldc 22, 2) := by decide +kernel
theorem dL_refuses_288 : decode cL_refuses 288 = .ok (.if_icmp .ne 456, 3) := by decide +kernel
theorem dL_refuses_291 : decode cL_refuses 291 = .ok (.aload_n 0, 1) := by decide +kernel
theorem dL_refuses_292 : decode cL_refuses 292 = .ok (.bipush 8, 2) := by decide +kernel
theorem dL_refuses_294 : decode cL_refuses 294 = .ok (.iload 4, 2) := by decide +kernel
theorem dL_refuses_296 : decode cL_refuses 296 = .ok (.bipush 9, 2) := by decide +kernel
theorem dL_refuses_298 : decode cL_refuses 298 = .ok (.iconst 0, 1) := by decide +kernel
theorem dL_refuses_299 : decode cL_refuses 299 = .ok (.invokestatic 196, 3) := by decide +kernel
theorem dL_refuses_302 : decode cL_refuses 302 = .ok (.ldc 15, 2) := by decide +kernel
theorem dL_refuses_304 : decode cL_refuses 304 = .ok (.if_icmp .ne 440, 3) := by decide +kernel
theorem dL_refuses_307 : decode cL_refuses 307 = .ok (.aload_n 0, 1) := by decide +kernel
theorem dL_refuses_308 : decode cL_refuses 308 = .ok (.bipush 9, 2) := by decide +kernel
theorem dL_refuses_310 : decode cL_refuses 310 = .ok (.iconst 2, 1) := by decide +kernel
theorem dL_refuses_311 : decode cL_refuses 311 = .ok (.iload_n 1, 1) := by decide +kernel
theorem dL_refuses_312 : decode cL_refuses 312 = .ok (.bipush 9, 2) := by decide +kernel
theorem dL_refuses_314 : decode cL_refuses 314 = .ok (.irem, 1) := by decide +kernel
theorem dL_refuses_315 : decode cL_refuses 315 = .ok (.iadd, 1) := by decide +kernel
theorem dL_refuses_316 : decode cL_refuses 316 = .ok (.iconst 0, 1) := by decide +kernel
theorem dL_refuses_317 : decode cL_refuses 317 = .ok (.iconst 0, 1) := by decide +kernel
theorem dL_refuses_318 : decode cL_refuses 318 = .ok (.invokestatic 196, 3) := by decide +kernel
theorem dL_refuses_321 : decode cL_refuses 321 = .ok (.ldc 22, 2) := by decide +kernel
theorem dL_refuses_323 : decode cL_refuses 323 = .ok (.if_icmp .ne 421, 3) := by decide +kernel
theorem dL_refuses_326 : decode cL_refuses 326 = .ok (.aload_n 0, 1) := by decide +kernel
theorem dL_refuses_327 : decode cL_refuses 327 = .ok (.bipush 10, 2) := by decide +kernel
theorem dL_refuses_329 : decode cL_refuses 329 = .ok (.iload_n 1, 1) := by decide +kernel
theorem dL_refuses_330 : decode cL_refuses 330 = .ok (.iconst 2, 1) := by decide +kernel
theorem dL_refuses_331 : decode cL_refuses 331 = .ok (.irem, 1) := by decide +kernel
theorem dL_refuses_332 : decode cL_refuses 332 = .ok (.ifCond .ne 7, 3) := by decide +kernel
theorem dL_refuses_335 : decode cL_refuses 335 = .ok (.iconst (-1), 1) := by decide +kernel
theorem dL_refuses_336 : decode cL_refuses 336 = .ok (.goto 10, 3) := by decide +kernel
theorem dL_refuses_339 : decode cL_refuses 339 = .ok (.bipush 10, 2) := by decide +kernel
theorem dL_refuses_341 : decode cL_refuses 341 = .ok (.iload_n 1, 1) := by decide +kernel
theorem dL_refuses_342 : decode cL_refuses 342 = .ok (.bipush 9, 2) := by decide +kernel
theorem dL_refuses_344 : decode cL_refuses 344 = .ok (.irem, 1) := by decide +kernel
theorem dL_refuses_345 : decode cL_refuses 345 = .ok (.iadd, 1) := by decide +kernel
theorem dL_refuses_346 : decode cL_refuses 346 = .ok (.iconst 0, 1) := by decide +kernel
theorem dL_refuses_347 : decode cL_refuses 347 = .ok (.iconst 0, 1) := by decide +kernel
theorem dL_refuses_348 : decode cL_refuses 348 = .ok (.invokestatic 196, 3) := by decide +kernel
theorem dL_refuses_351 : decode cL_refuses 351 = .ok (.ldc 22, 2) := by decide +kernel
theorem dL_refuses_353 : decode cL_refuses 353 = .ok (.if_icmp .ne 391, 3) := by decide +kernel
theorem dL_refuses_356 : decode cL_refuses 356 = .ok (.aload_n 0, 1) := by decide +kernel
theorem dL_refuses_357 : decode cL_refuses 357 = .ok (.bipush 12, 2) := by decide +kernel
theorem dL_refuses_359 : decode cL_refuses 359 = .ok (.iload_n 2, 1) := by decide +kernel
theorem dL_refuses_360 : decode cL_refuses 360 = .ok (.iconst (-1), 1) := by decide +kernel
theorem dL_refuses_361 : decode cL_refuses 361 = .ok (.iconst 0, 1) := by decide +kernel
theorem dL_refuses_362 : decode cL_refuses 362 = .ok (.invokestatic 196, 3) := by decide +kernel
theorem dL_refuses_365 : decode cL_refuses 365 = .ok (.ldc 15, 2) := by decide +kernel
theorem dL_refuses_367 : decode cL_refuses 367 = .ok (.if_icmp .ne 377, 3) := by decide +kernel
theorem dL_refuses_370 : decode cL_refuses 370 = .ok (.aload_n 0, 1) := by decide +kernel
theorem dL_refuses_371 : decode cL_refuses 371 = .ok (.bipush 12, 2) := by decide +kernel
theorem dL_refuses_373 : decode cL_refuses 373 = .ok (.iconst 0, 1) := by decide +kernel
theorem dL_refuses_374 : decode cL_refuses 374 = .ok (.iload_n 3, 1) := by decide +kernel
theorem dL_refuses_375 : decode cL_refuses 375 = .ok (.iconst 0, 1) := by decide +kernel
theorem dL_refuses_376 : decode cL_refuses 376 = .ok (.invokestatic 196, 3) := by decide +kernel
theorem dL_refuses_379 : decode cL_refuses 379 = .ok (.ldc 15, 2) := by decide +kernel
theorem dL_refuses_381 : decode cL_refuses 381 = .ok (.if_icmp .ne 363, 3) := by decide +kernel
theorem dL_refuses_384 : decode cL_refuses 384 = .ok (.aload_n 0, 1) := by decide +kernel
theorem dL_refuses_385 : decode cL_refuses 385 = .ok (.bipush 12, 2) := by decide +kernel
theorem dL_refuses_387 : decode cL_refuses 387 = .ok (.iconst 0, 1) := by decide +kernel
theorem dL_refuses_388 : decode cL_refuses 388 = .ok (.iconst (-1), 1) := by decide +kernel
theorem dL_refuses_389 : decode cL_refuses 389 = .ok (.iload 5, 2) := by decide +kernel
theorem dL_refuses_391 : decode cL_refuses 391 = .ok (.invokestatic 196, 3) := by decide +kernel
theorem dL_refuses_394 : decode cL_refuses 394 = .ok (.ldc 15, 2) := by decide +kernel
theorem dL_refuses_396 : decode cL_refuses 396 = .ok (.if_icmp .ne 348, 3) := by decide +kernel
theorem dL_refuses_399 : decode cL_refuses 399 = .ok (.aload_n 0, 1) := by decide +kernel
theorem dL_refuses_400 : decode cL_refuses 400 = .ok (.bipush 13, 2) := by decide +kernel
theorem dL_refuses_402 : decode cL_refuses 402 = .ok (.iconst 0, 1) := by decide +kernel
theorem dL_refuses_403 : decode cL_refuses 403 = .ok (.iload_n 3, 1) := by decide +kernel
theorem dL_refuses_404 : decode cL_refuses 404 = .ok (.iconst 0, 1) := by decide +kernel
theorem dL_refuses_405 : decode cL_refuses 405 = .ok (.invokestatic 196, 3) := by decide +kernel
theorem dL_refuses_408 : decode cL_refuses 408 = .ok (.ldc 15, 2) := by decide +kernel
theorem dL_refuses_410 : decode cL_refuses 410 = .ok (.if_icmp .ne 334, 3) := by decide +kernel
theorem dL_refuses_413 : decode cL_refuses 413 = .ok (.aload_n 0, 1) := by decide +kernel
theorem dL_refuses_414 : decode cL_refuses 414 = .ok (.bipush 14, 2) := by decide +kernel
theorem dL_refuses_416 : decode cL_refuses 416 = .ok (.iload_n 2, 1) := by decide +kernel
theorem dL_refuses_417 : decode cL_refuses 417 = .ok (.iconst 0, 1) := by decide +kernel
theorem dL_refuses_418 : decode cL_refuses 418 = .ok (.iconst 0, 1) := by decide +kernel
theorem dL_refuses_419 : decode cL_refuses 419 = .ok (.invokestatic 196, 3) := by decide +kernel
theorem dL_refuses_422 : decode cL_refuses 422 = .ok (.ldc 15, 2) := by decide +kernel
theorem dL_refuses_424 : decode cL_refuses 424 = .ok (.if_icmp .ne 320, 3) := by decide +kernel
theorem dL_refuses_427 : decode cL_refuses 427 = .ok (.aload_n 0, 1) := by decide +kernel
theorem dL_refuses_428 : decode cL_refuses 428 = .ok (.iconst 0, 1) := by decide +kernel
theorem dL_refuses_429 : decode cL_refuses 429 = .ok (.iload 5, 2) := by decide +kernel
theorem dL_refuses_431 : decode cL_refuses 431 = .ok (.iconst 1, 1) := by decide +kernel
theorem dL_refuses_432 : decode cL_refuses 432 = .ok (.invokestatic 200, 3) := by decide +kernel
theorem dL_refuses_435 : decode cL_refuses 435 = .ok (.ldc 15, 2) := by decide +kernel
theorem dL_refuses_437 : decode cL_refuses 437 = .ok (.if_icmp .ne 307, 3) := by decide +kernel
theorem dL_refuses_440 : decode cL_refuses 440 = .ok (.aload_n 0, 1) := by decide +kernel
theorem dL_refuses_441 : decode cL_refuses 441 = .ok (.iload_n 3, 1) := by decide +kernel
theorem dL_refuses_442 : decode cL_refuses 442 = .ok (.iconst 0, 1) := by decide +kernel
theorem dL_refuses_443 : decode cL_refuses 443 = .ok (.iconst 1, 1) := by decide +kernel
theorem dL_refuses_444 : decode cL_refuses 444 = .ok (.invokestatic 200, 3) := by decide +kernel
theorem dL_refuses_447 : decode cL_refuses 447 = .ok (.ldc 15, 2) := by decide +kernel
theorem dL_refuses_449 : decode cL_refuses 449 = .ok (.if_icmp .ne 295, 3) := by decide +kernel
theorem dL_refuses_452 : decode cL_refuses 452 = .ok (.aload_n 0, 1) := by decide +kernel
theorem dL_refuses_453 : decode cL_refuses 453 = .ok (.iload 5, 2) := by decide +kernel
theorem dL_refuses_455 : decode cL_refuses 455 = .ok (.iconst 0, 1) := by decide +kernel
theorem dL_refuses_456 : decode cL_refuses 456 = .ok (.iconst 0, 1) := by decide +kernel
theorem dL_refuses_457 : decode cL_refuses 457 = .ok (.bipush 24, 2) := by decide +kernel
theorem dL_refuses_459 : decode cL_refuses 459 = .ok (.invokestatic 204, 3) := by decide +kernel
theorem dL_refuses_462 : decode cL_refuses 462 = .ok (.ldc 15, 2) := by decide +kernel
theorem dL_refuses_464 : decode cL_refuses 464 = .ok (.if_icmp .ne 280, 3) := by decide +kernel
theorem dL_refuses_467 : decode cL_refuses 467 = .ok (.aload_n 0, 1) := by decide +kernel
theorem dL_refuses_468 : decode cL_refuses 468 = .ok (.iload_n 1, 1) := by decide +kernel
theorem dL_refuses_469 : decode cL_refuses 469 = .ok (.bipush 20, 2) := by decide +kernel
theorem dL_refuses_471 : decode cL_refuses 471 = .ok (.irem, 1) := by decide +kernel
theorem dL_refuses_472 : decode cL_refuses 472 = .ok (.iconst 0, 1) := by decide +kernel
theorem dL_refuses_473 : decode cL_refuses 473 = .ok (.iconst 0, 1) := by decide +kernel
theorem dL_refuses_474 : decode cL_refuses 474 = .ok (.bipush 24, 2) := by decide +kernel
theorem dL_refuses_476 : decode cL_refuses 476 = .ok (.iload_n 1, 1) := by decide +kernel
theorem dL_refuses_477 : decode cL_refuses 477 = .ok (.bipush 9, 2) := by decide +kernel
theorem dL_refuses_479 : decode cL_refuses 479 = .ok (.irem, 1) := by decide +kernel
theorem dL_refuses_480 : decode cL_refuses 480 = .ok (.iadd, 1) := by decide +kernel
theorem dL_refuses_481 : decode cL_refuses 481 = .ok (.invokestatic 204, 3) := by decide +kernel
theorem dL_refuses_484 : decode cL_refuses 484 = .ok (.ldc 22, 2) := by decide +kernel
theorem dL_refuses_486 : decode cL_refuses 486 = .ok (.if_icmp .ne 258, 3) := by decide +kernel
theorem dL_refuses_489 : decode cL_refuses 489 = .ok (.aload_n 0, 1) := by decide +kernel
theorem dL_refuses_490 : decode cL_refuses 490 = .ok (.bipush 15, 2) := by decide +kernel
theorem dL_refuses_492 : decode cL_refuses 492 = .ok (.iload 4, 2) := by decide +kernel
theorem dL_refuses_494 : decode cL_refuses 494 = .ok (.iconst 0, 1) := by decide +kernel
theorem dL_refuses_495 : decode cL_refuses 495 = .ok (.iconst 0, 1) := by decide +kernel
theorem dL_refuses_496 : decode cL_refuses 496 = .ok (.invokestatic 196, 3) := by decide +kernel
theorem dL_refuses_499 : decode cL_refuses 499 = .ok (.ldc 15, 2) := by decide +kernel
theorem dL_refuses_501 : decode cL_refuses 501 = .ok (.if_icmp .ne 243, 3) := by decide +kernel
theorem dL_refuses_504 : decode cL_refuses 504 = .ok (.aload_n 0, 1) := by decide +kernel
theorem dL_refuses_505 : decode cL_refuses 505 = .ok (.bipush 16, 2) := by decide +kernel
theorem dL_refuses_507 : decode cL_refuses 507 = .ok (.iload_n 1, 1) := by decide +kernel
theorem dL_refuses_508 : decode cL_refuses 508 = .ok (.iconst 2, 1) := by decide +kernel
theorem dL_refuses_509 : decode cL_refuses 509 = .ok (.irem, 1) := by decide +kernel
theorem dL_refuses_510 : decode cL_refuses 510 = .ok (.bipush 100, 2) := by decide +kernel
theorem dL_refuses_512 : decode cL_refuses 512 = .ok (.iload_n 1, 1) := by decide +kernel
theorem dL_refuses_513 : decode cL_refuses 513 = .ok (.bipush 9, 2) := by decide +kernel
theorem dL_refuses_515 : decode cL_refuses 515 = .ok (.irem, 1) := by decide +kernel
theorem dL_refuses_516 : decode cL_refuses 516 = .ok (.iadd, 1) := by decide +kernel
theorem dL_refuses_517 : decode cL_refuses 517 = .ok (.iconst 0, 1) := by decide +kernel
theorem dL_refuses_518 : decode cL_refuses 518 = .ok (.invokestatic 196, 3) := by decide +kernel
theorem dL_refuses_521 : decode cL_refuses 521 = .ok (.ldc 22, 2) := by decide +kernel
theorem dL_refuses_523 : decode cL_refuses 523 = .ok (.if_icmp .ne 221, 3) := by decide +kernel
theorem dL_refuses_526 : decode cL_refuses 526 = .ok (.aload_n 0, 1) := by decide +kernel
theorem dL_refuses_527 : decode cL_refuses 527 = .ok (.bipush 16, 2) := by decide +kernel
theorem dL_refuses_529 : decode cL_refuses 529 = .ok (.iconst 2, 1) := by decide +kernel
theorem dL_refuses_530 : decode cL_refuses 530 = .ok (.iload_n 1, 1) := by decide +kernel
theorem dL_refuses_531 : decode cL_refuses 531 = .ok (.bipush 9, 2) := by decide +kernel
theorem dL_refuses_533 : decode cL_refuses 533 = .ok (.irem, 1) := by decide +kernel
theorem dL_refuses_534 : decode cL_refuses 534 = .ok (.iadd, 1) := by decide +kernel
theorem dL_refuses_535 : decode cL_refuses 535 = .ok (.iconst 1, 1) := by decide +kernel
theorem dL_refuses_536 : decode cL_refuses 536 = .ok (.iconst 0, 1) := by decide +kernel
theorem dL_refuses_537 : decode cL_refuses 537 = .ok (.invokestatic 196, 3) := by decide +kernel
theorem dL_refuses_540 : decode cL_refuses 540 = .ok (.ldc 22, 2) := by decide +kernel
theorem dL_refuses_542 : decode cL_refuses 542 = .ok (.if_icmp .ne 202, 3) := by decide +kernel
theorem dL_refuses_545 : decode cL_refuses 545 = .ok (.aload_n 0, 1) := by decide +kernel
theorem dL_refuses_546 : decode cL_refuses 546 = .ok (.bipush 18, 2) := by decide +kernel
theorem dL_refuses_548 : decode cL_refuses 548 = .ok (.iconst 0, 1) := by decide +kernel
theorem dL_refuses_549 : decode cL_refuses 549 = .ok (.iload_n 3, 1) := by decide +kernel
theorem dL_refuses_550 : decode cL_refuses 550 = .ok (.iconst 0, 1) := by decide +kernel
theorem dL_refuses_551 : decode cL_refuses 551 = .ok (.invokestatic 196, 3) := by decide +kernel
theorem dL_refuses_554 : decode cL_refuses 554 = .ok (.ldc 15, 2) := by decide +kernel
theorem dL_refuses_556 : decode cL_refuses 556 = .ok (.if_icmp .ne 188, 3) := by decide +kernel
theorem dL_refuses_559 : decode cL_refuses 559 = .ok (.aload_n 0, 1) := by decide +kernel
theorem dL_refuses_560 : decode cL_refuses 560 = .ok (.bipush 18, 2) := by decide +kernel
theorem dL_refuses_562 : decode cL_refuses 562 = .ok (.iconst 0, 1) := by decide +kernel
theorem dL_refuses_563 : decode cL_refuses 563 = .ok (.iconst 0, 1) := by decide +kernel
theorem dL_refuses_564 : decode cL_refuses 564 = .ok (.iconst (-1), 1) := by decide +kernel
theorem dL_refuses_565 : decode cL_refuses 565 = .ok (.iload_n 1, 1) := by decide +kernel
theorem dL_refuses_566 : decode cL_refuses 566 = .ok (.bipush 9, 2) := by decide +kernel
theorem dL_refuses_568 : decode cL_refuses 568 = .ok (.irem, 1) := by decide +kernel
theorem dL_refuses_569 : decode cL_refuses 569 = .ok (.isub, 1) := by decide +kernel
theorem dL_refuses_570 : decode cL_refuses 570 = .ok (.invokestatic 196, 3) := by decide +kernel
theorem dL_refuses_573 : decode cL_refuses 573 = .ok (.ldc 22, 2) := by decide +kernel
theorem dL_refuses_575 : decode cL_refuses 575 = .ok (.if_icmp .ne 169, 3) := by decide +kernel
theorem dL_refuses_578 : decode cL_refuses 578 = .ok (.aload_n 0, 1) := by decide +kernel
theorem dL_refuses_579 : decode cL_refuses 579 = .ok (.bipush 19, 2) := by decide +kernel
theorem dL_refuses_581 : decode cL_refuses 581 = .ok (.iconst 0, 1) := by decide +kernel
theorem dL_refuses_582 : decode cL_refuses 582 = .ok (.iload_n 3, 1) := by decide +kernel
theorem dL_refuses_583 : decode cL_refuses 583 = .ok (.iconst 0, 1) := by decide +kernel
theorem dL_refuses_584 : decode cL_refuses 584 = .ok (.invokestatic 196, 3) := by decide +kernel
theorem dL_refuses_587 : decode cL_refuses 587 = .ok (.ldc 15, 2) := by decide +kernel
theorem dL_refuses_589 : decode cL_refuses 589 = .ok (.if_icmp .ne 155, 3) := by decide +kernel
theorem dL_refuses_592 : decode cL_refuses 592 = .ok (.aload_n 0, 1) := by decide +kernel
theorem dL_refuses_593 : decode cL_refuses 593 = .ok (.bipush 20, 2) := by decide +kernel
theorem dL_refuses_595 : decode cL_refuses 595 = .ok (.iload_n 2, 1) := by decide +kernel
theorem dL_refuses_596 : decode cL_refuses 596 = .ok (.iconst 0, 1) := by decide +kernel
theorem dL_refuses_597 : decode cL_refuses 597 = .ok (.iconst 0, 1) := by decide +kernel
theorem dL_refuses_598 : decode cL_refuses 598 = .ok (.invokestatic 196, 3) := by decide +kernel
theorem dL_refuses_601 : decode cL_refuses 601 = .ok (.ldc 15, 2) := by decide +kernel
theorem dL_refuses_603 : decode cL_refuses 603 = .ok (.if_icmp .ne 141, 3) := by decide +kernel
theorem dL_refuses_606 : decode cL_refuses 606 = .ok (.aload_n 0, 1) := by decide +kernel
theorem dL_refuses_607 : decode cL_refuses 607 = .ok (.bipush 21, 2) := by decide +kernel
theorem dL_refuses_609 : decode cL_refuses 609 = .ok (.iconst 0, 1) := by decide +kernel
theorem dL_refuses_610 : decode cL_refuses 610 = .ok (.iload 5, 2) := by decide +kernel
theorem dL_refuses_612 : decode cL_refuses 612 = .ok (.iconst 0, 1) := by decide +kernel
theorem dL_refuses_613 : decode cL_refuses 613 = .ok (.invokestatic 196, 3) := by decide +kernel
theorem dL_refuses_616 : decode cL_refuses 616 = .ok (.ldc 15, 2) := by decide +kernel
theorem dL_refuses_618 : decode cL_refuses 618 = .ok (.if_icmp .ne 126, 3) := by decide +kernel
theorem dL_refuses_621 : decode cL_refuses 621 = .ok (.aload_n 0, 1) := by decide +kernel
theorem dL_refuses_622 : decode cL_refuses 622 = .ok (.bipush 21, 2) := by decide +kernel
theorem dL_refuses_624 : decode cL_refuses 624 = .ok (.iconst 0, 1) := by decide +kernel
theorem dL_refuses_625 : decode cL_refuses 625 = .ok (.iload_n 1, 1) := by decide +kernel
theorem dL_refuses_626 : decode cL_refuses 626 = .ok (.bipush 20, 2) := by decide +kernel
theorem dL_refuses_628 : decode cL_refuses 628 = .ok (.irem, 1) := by decide +kernel
theorem dL_refuses_629 : decode cL_refuses 629 = .ok (.iconst 2, 1) := by decide +kernel
theorem dL_refuses_630 : decode cL_refuses 630 = .ok (.iload_n 1, 1) := by decide +kernel
theorem dL_refuses_631 : decode cL_refuses 631 = .ok (.bipush 9, 2) := by decide +kernel
theorem dL_refuses_633 : decode cL_refuses 633 = .ok (.irem, 1) := by decide +kernel
theorem dL_refuses_634 : decode cL_refuses 634 = .ok (.iadd, 1) := by decide +kernel
theorem dL_refuses_635 : decode cL_refuses 635 = .ok (.invokestatic 196, 3) := by decide +kernel
theorem dL_refuses_638 : decode cL_refuses 638 = .ok (.ldc 22, 2) := by decide +kernel
theorem dL_refuses_640 : decode cL_refuses 640 = .ok (.if_icmp .ne 104, 3) := by decide +kernel
theorem dL_refuses_643 : decode cL_refuses 643 = .ok (.aload_n 0, 1) := by decide +kernel
theorem dL_refuses_644 : decode cL_refuses 644 = .ok (.bipush 22, 2) := by decide +kernel
theorem dL_refuses_646 : decode cL_refuses 646 = .ok (.iload_n 2, 1) := by decide +kernel
theorem dL_refuses_647 : decode cL_refuses 647 = .ok (.iconst 0, 1) := by decide +kernel
theorem dL_refuses_648 : decode cL_refuses 648 = .ok (.iconst 0, 1) := by decide +kernel
theorem dL_refuses_649 : decode cL_refuses 649 = .ok (.invokestatic 196, 3) := by decide +kernel
theorem dL_refuses_652 : decode cL_refuses 652 = .ok (.ldc 15, 2) := by decide +kernel
theorem dL_refuses_654 : decode cL_refuses 654 = .ok (.if_icmp .ne 90, 3) := by decide +kernel
theorem dL_refuses_657 : decode cL_refuses 657 = .ok (.aload_n 0, 1) := by decide +kernel
theorem dL_refuses_658 : decode cL_refuses 658 = .ok (.bipush 23, 2) := by decide +kernel
theorem dL_refuses_660 : decode cL_refuses 660 = .ok (.iconst 2, 1) := by decide +kernel
theorem dL_refuses_661 : decode cL_refuses 661 = .ok (.iload_n 1, 1) := by decide +kernel
theorem dL_refuses_662 : decode cL_refuses 662 = .ok (.bipush 50, 2) := by decide +kernel
theorem dL_refuses_664 : decode cL_refuses 664 = .ok (.irem, 1) := by decide +kernel
theorem dL_refuses_665 : decode cL_refuses 665 = .ok (.iadd, 1) := by decide +kernel
theorem dL_refuses_666 : decode cL_refuses 666 = .ok (.iconst 0, 1) := by decide +kernel
theorem dL_refuses_667 : decode cL_refuses 667 = .ok (.iconst 0, 1) := by decide +kernel
theorem dL_refuses_668 : decode cL_refuses 668 = .ok (.invokestatic 196, 3) := by decide +kernel
theorem dL_refuses_671 : decode cL_refuses 671 = .ok (.ldc 15, 2) := by decide +kernel
theorem dL_refuses_673 : decode cL_refuses 673 = .ok (.if_icmp .ne 71, 3) := by decide +kernel
theorem dL_refuses_676 : decode cL_refuses 676 = .ok (.aload_n 0, 1) := by decide +kernel
theorem dL_refuses_677 : decode cL_refuses 677 = .ok (.bipush 24, 2) := by decide +kernel
theorem dL_refuses_679 : decode cL_refuses 679 = .ok (.iconst (-1), 1) := by decide +kernel
theorem dL_refuses_680 : decode cL_refuses 680 = .ok (.iload_n 1, 1) := by decide +kernel
theorem dL_refuses_681 : decode cL_refuses 681 = .ok (.bipush 9, 2) := by decide +kernel
theorem dL_refuses_683 : decode cL_refuses 683 = .ok (.irem, 1) := by decide +kernel
theorem dL_refuses_684 : decode cL_refuses 684 = .ok (.isub, 1) := by decide +kernel
theorem dL_refuses_685 : decode cL_refuses 685 = .ok (.iconst 0, 1) := by decide +kernel
theorem dL_refuses_686 : decode cL_refuses 686 = .ok (.iconst 0, 1) := by decide +kernel
theorem dL_refuses_687 : decode cL_refuses 687 = .ok (.invokestatic 196, 3) := by decide +kernel
theorem dL_refuses_690 : decode cL_refuses 690 = .ok (.ldc 15, 2) := by decide +kernel
theorem dL_refuses_692 : decode cL_refuses 692 = .ok (.if_icmp .ne 52, 3) := by decide +kernel
theorem dL_refuses_695 : decode cL_refuses 695 = .ok (.aload_n 0, 1) := by decide +kernel
theorem dL_refuses_696 : decode cL_refuses 696 = .ok (.iconst 0, 1) := by decide +kernel
theorem dL_refuses_697 : decode cL_refuses 697 = .ok (.lconst 0, 1) := by decide +kernel
theorem dL_refuses_698 : decode cL_refuses 698 = .ok (.invokestatic 207, 3) := by decide +kernel
theorem dL_refuses_701 : decode cL_refuses 701 = .ok (.ldc 22, 2) := by decide +kernel
theorem dL_refuses_703 : decode cL_refuses 703 = .ok (.if_icmp .ne 41, 3) := by decide +kernel
theorem dL_refuses_706 : decode cL_refuses 706 = .ok (.aload_n 0, 1) := by decide +kernel
theorem dL_refuses_707 : decode cL_refuses 707 = .ok (.iconst 1, 1) := by decide +kernel
theorem dL_refuses_708 : decode cL_refuses 708 = .ok (.ldc2_w 211, 3) := by decide +kernel
theorem dL_refuses_711 : decode cL_refuses 711 = .ok (.iload_n 1, 1) := by decide +kernel
theorem dL_refuses_712 : decode cL_refuses 712 = .ok (.i2l, 1) := by decide +kernel
theorem dL_refuses_713 : decode cL_refuses 713 = .ok (.ladd, 1) := by decide +kernel
theorem dL_refuses_714 : decode cL_refuses 714 = .ok (.invokestatic 207, 3) := by decide +kernel
theorem dL_refuses_717 : decode cL_refuses 717 = .ok (.ldc 22, 2) := by decide +kernel
theorem dL_refuses_719 : decode cL_refuses 719 = .ok (.if_icmp .ne 25, 3) := by decide +kernel
theorem dL_refuses_722 : decode cL_refuses 722 = .ok (.aload_n 0, 1) := by decide +kernel
theorem dL_refuses_723 : decode cL_refuses 723 = .ok (.iload_n 1, 1) := by decide +kernel
theorem dL_refuses_724 : decode cL_refuses 724 = .ok (.i2l, 1) := by decide +kernel
theorem dL_refuses_725 : decode cL_refuses 725 = .ok (.bipush 61, 2) := by decide +kernel
theorem dL_refuses_727 : decode cL_refuses 727 = .ok (.iload_n 1, 1) := by decide +kernel
theorem dL_refuses_728 : decode cL_refuses 728 = .ok (.bipush 9, 2) := by decide +kernel
theorem dL_refuses_730 : decode cL_refuses 730 = .ok (.irem, 1) := by decide +kernel
theorem dL_refuses_731 : decode cL_refuses 731 = .ok (.iadd, 1) := by decide +kernel
theorem dL_refuses_732 : decode cL_refuses 732 = .ok (.invokestatic 213, 3) := by decide +kernel
theorem dL_refuses_735 : decode cL_refuses 735 = .ok (.ldc 22, 2) := by decide +kernel
theorem dL_refuses_737 : decode cL_refuses 737 = .ok (.if_icmp .ne 7, 3) := by decide +kernel
theorem dL_refuses_740 : decode cL_refuses 740 = .ok (.iconst 1, 1) := by decide +kernel
theorem dL_refuses_741 : decode cL_refuses 741 = .ok (.goto 4, 3) := by decide +kernel
theorem dL_refuses_744 : decode cL_refuses 744 = .ok (.iconst 0, 1) := by decide +kernel
theorem dL_refuses_745 : decode cL_refuses 745 = .ok (.ireturn, 1) := by decide +kernel
theorem dL_night_0 : decode cL_night 0 = .ok (.aload_n 0, 1) := by decide +kernel
theorem dL_night_1 : decode cL_night 1 = .ok (.iconst 2, 1) := by decide +kernel
theorem dL_night_2 : decode cL_night 2 = .ok (.iconst 0, 1) := by decide +kernel
theorem dL_night_3 : decode cL_night 3 = .ok (.iconst 0, 1) := by decide +kernel
theorem dL_night_4 : decode cL_night 4 = .ok (.iconst 0, 1) := by decide +kernel
theorem dL_night_5 : decode cL_night 5 = .ok (.invokestatic 196, 3) := by decide +kernel
theorem dL_night_8 : decode cL_night 8 = .ok (.istore_n 2, 1) := by decide +kernel
theorem dL_night_9 : decode cL_night 9 = .ok (.aload_n 0, 1) := by decide +kernel
theorem dL_night_10 : decode cL_night 10 = .ok (.iconst 5, 1) := by decide +kernel
theorem dL_night_11 : decode cL_night 11 = .ok (.iload_n 1, 1) := by decide +kernel
theorem dL_night_12 : decode cL_night 12 = .ok (.iconst 0, 1) := by decide +kernel
theorem dL_night_13 : decode cL_night 13 = .ok (.iconst 0, 1) := by decide +kernel
theorem dL_night_14 : decode cL_night 14 = .ok (.invokestatic 196, 3) := by decide +kernel
theorem dL_night_17 : decode cL_night 17 = .ok (.istore_n 3, 1) := by decide +kernel
theorem dL_night_18 : decode cL_night 18 = .ok (.aload_n 0, 1) := by decide +kernel
theorem dL_night_19 : decode cL_night 19 = .ok (.iconst 5, 1) := by decide +kernel
theorem dL_night_20 : decode cL_night 20 = .ok (.iload_n 1, 1) := by decide +kernel
theorem dL_night_21 : decode cL_night 21 = .ok (.iconst 2, 1) := by decide +kernel
theorem dL_night_22 : decode cL_night 22 = .ok (.iconst 0, 1) := by decide +kernel
theorem dL_night_23 : decode cL_night 23 = .ok (.invokestatic 196, 3) := by decide +kernel
theorem dL_night_26 : decode cL_night 26 = .ok (.istore 4, 2) := by decide +kernel
theorem dL_night_28 : decode cL_night 28 = .ok (.iconst 0, 1) := by decide +kernel
theorem dL_night_29 : decode cL_night 29 = .ok (.istore 5, 2) := by decide +kernel
theorem dL_night_31 : decode cL_night 31 = .ok (.iconst 0, 1) := by decide +kernel
theorem dL_night_32 : decode cL_night 32 = .ok (.istore 6, 2) := by decide +kernel
theorem dL_night_34 : decode cL_night 34 = .ok (.iconst 0, 1) := by decide +kernel
theorem dL_night_35 : decode cL_night 35 = .ok (.istore 7, 2) := by decide +kernel
theorem dL_night_37 : decode cL_night 37 = .ok (.iload_n 2, 1) := by decide +kernel
theorem dL_night_38 : decode cL_night 38 = .ok (.ifCond .ne 7, 3) := by decide +kernel
theorem dL_night_41 : decode cL_night 41 = .ok (.iconst 1, 1) := by decide +kernel
theorem dL_night_42 : decode cL_night 42 = .ok (.goto 4, 3) := by decide +kernel
theorem dL_night_45 : decode cL_night 45 = .ok (.iconst 0, 1) := by decide +kernel

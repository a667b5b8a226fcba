theorem dL_tells_30 : decode cL_tells 30 = .ok (.iaload, 1) := by decide +kernel
theorem dL_tells_31 : decode cL_tells 31 = .ok (.if_icmp .ge 7, 3) := by decide +kernel
theorem dL_tells_34 : decode cL_tells 34 = .ok (.iconst 1, 1) := by decide +kernel
theorem dL_tells_35 : decode cL_tells 35 = .ok (.goto 4, 3) := by decide +kernel
theorem dL_tells_38 : decode cL_tells 38 = .ok (.iconst 0, 1) := by decide +kernel
theorem dL_tells_39 : decode cL_tells 39 = .ok (.istore 14, 2) := by decide +kernel
theorem dL_tells_41 : decode cL_tells 41 = .ok (.iload 14, 2) := by decide +kernel
theorem dL_tells_43 : decode cL_tells 43 = .ok (.ifCond .eq 18, 3) := by decide +kernel
theorem dL_tells_46 : decode cL_tells 46 = .ok (.aload_n 2, 1) := by decide +kernel
theorem dL_tells_47 : decode cL_tells 47 = .ok (.aload 6, 2) := by decide +kernel
theorem dL_tells_49 : decode cL_tells 49 = .ok (.aload 8, 2) := by decide +kernel
theorem dL_tells_51 : decode cL_tells 51 = .ok (.iload 13, 2) := by decide +kernel
theorem dL_tells_53 : decode cL_tells 53 = .ok (.aload 9, 2) := by decide +kernel
theorem dL_tells_55 : decode cL_tells 55 = .ok (.invokestatic 22, 3) := by decide +kernel
theorem dL_tells_58 : decode cL_tells 58 = .ok (.goto 5, 3) := by decide +kernel
theorem dL_tells_61 : decode cL_tells 61 = .ok (.bipush (-101), 2) := by decide +kernel
theorem dL_tells_63 : decode cL_tells 63 = .ok (.istore 15, 2) := by decide +kernel
theorem dL_tells_65 : decode cL_tells 65 = .ok (.aload_n 0, 1) := by decide +kernel
theorem dL_tells_66 : decode cL_tells 66 = .ok (.iconst 0, 1) := by decide +kernel
theorem dL_tells_67 : decode cL_tells 67 = .ok (.iload 13, 2) := by decide +kernel
theorem dL_tells_69 : decode cL_tells 69 = .ok (.iconst 0, 1) := by decide +kernel
theorem dL_tells_70 : decode cL_tells 70 = .ok (.invokestatic 155, 3) := by decide +kernel
theorem dL_tells_73 : decode cL_tells 73 = .ok (.iload 14, 2) := by decide +kernel
theorem dL_tells_75 : decode cL_tells 75 = .ok (.ifCond .ne 8, 3) := by decide +kernel
theorem dL_tells_78 : decode cL_tells 78 = .ok (.bipush (-101), 2) := by decide +kernel
theorem dL_tells_80 : decode cL_tells 80 = .ok (.goto 32, 3) := by decide +kernel
theorem dL_tells_83 : decode cL_tells 83 = .ok (.aload_n 3, 1) := by decide +kernel
theorem dL_tells_84 : decode cL_tells 84 = .ok (.bipush 12, 2) := by decide +kernel
theorem dL_tells_86 : decode cL_tells 86 = .ok (.iload 13, 2) := by decide +kernel
theorem dL_tells_88 : decode cL_tells 88 = .ok (.iadd, 1) := by decide +kernel
theorem dL_tells_89 : decode cL_tells 89 = .ok (.iaload, 1) := by decide +kernel
theorem dL_tells_90 : decode cL_tells 90 = .ok (.ifCond .ge 13, 3) := by decide +kernel
theorem dL_tells_93 : decode cL_tells 93 = .ok (.aload_n 3, 1) := by decide +kernel
theorem dL_tells_94 : decode cL_tells 94 = .ok (.bipush 8, 2) := by decide +kernel
theorem dL_tells_96 : decode cL_tells 96 = .ok (.iload 13, 2) := by decide +kernel
theorem dL_tells_98 : decode cL_tells 98 = .ok (.iadd, 1) := by decide +kernel
theorem dL_tells_99 : decode cL_tells 99 = .ok (.iaload, 1) := by decide +kernel
theorem dL_tells_100 : decode cL_tells 100 = .ok (.goto 12, 3) := by decide +kernel
theorem dL_tells_103 : decode cL_tells 103 = .ok (.iconst (-1), 1) := by decide +kernel
theorem dL_tells_104 : decode cL_tells 104 = .ok (.aload_n 3, 1) := by decide +kernel
theorem dL_tells_105 : decode cL_tells 105 = .ok (.bipush 12, 2) := by decide +kernel
theorem dL_tells_107 : decode cL_tells 107 = .ok (.iload 13, 2) := by decide +kernel
theorem dL_tells_109 : decode cL_tells 109 = .ok (.iadd, 1) := by decide +kernel
theorem dL_tells_110 : decode cL_tells 110 = .ok (.iaload, 1) := by decide +kernel
theorem dL_tells_111 : decode cL_tells 111 = .ok (.isub, 1) := by decide +kernel
theorem dL_tells_112 : decode cL_tells 112 = .ok (.if_icmp .ne 44, 3) := by decide +kernel
theorem dL_tells_115 : decode cL_tells 115 = .ok (.aload_n 0, 1) := by decide +kernel
theorem dL_tells_116 : decode cL_tells 116 = .ok (.iconst 1, 1) := by decide +kernel
theorem dL_tells_117 : decode cL_tells 117 = .ok (.iload 13, 2) := by decide +kernel
theorem dL_tells_119 : decode cL_tells 119 = .ok (.iconst 0, 1) := by decide +kernel
theorem dL_tells_120 : decode cL_tells 120 = .ok (.invokestatic 155, 3) := by decide +kernel
theorem dL_tells_123 : decode cL_tells 123 = .ok (.iload 14, 2) := by decide +kernel
theorem dL_tells_125 : decode cL_tells 125 = .ok (.ifCond .eq 13, 3) := by decide +kernel
theorem dL_tells_128 : decode cL_tells 128 = .ok (.aload_n 3, 1) := by decide +kernel
theorem dL_tells_129 : decode cL_tells 129 = .ok (.bipush 20, 2) := by decide +kernel
theorem dL_tells_131 : decode cL_tells 131 = .ok (.iload 13, 2) := by decide +kernel
theorem dL_tells_133 : decode cL_tells 133 = .ok (.iadd, 1) := by decide +kernel
theorem dL_tells_134 : decode cL_tells 134 = .ok (.iaload, 1) := by decide +kernel
theorem dL_tells_135 : decode cL_tells 135 = .ok (.goto 5, 3) := by decide +kernel
theorem dL_tells_138 : decode cL_tells 138 = .ok (.bipush (-101), 2) := by decide +kernel
theorem dL_tells_140 : decode cL_tells 140 = .ok (.if_icmp .ne 16, 3) := by decide +kernel
theorem dL_tells_143 : decode cL_tells 143 = .ok (.aload_n 0, 1) := by decide +kernel
theorem dL_tells_144 : decode cL_tells 144 = .ok (.iconst 4, 1) := by decide +kernel
theorem dL_tells_145 : decode cL_tells 145 = .ok (.iload 13, 2) := by decide +kernel
theorem dL_tells_147 : decode cL_tells 147 = .ok (.iconst 0, 1) := by decide +kernel
theorem dL_tells_148 : decode cL_tells 148 = .ok (.invokestatic 155, 3) := by decide +kernel
theorem dL_tells_151 : decode cL_tells 151 = .ok (.iload 15, 2) := by decide +kernel
theorem dL_tells_153 : decode cL_tells 153 = .ok (.if_icmp .eq 5, 3) := by decide +kernel
theorem dL_tells_156 : decode cL_tells 156 = .ok (.iconst 0, 1) := by decide +kernel
theorem dL_tells_157 : decode cL_tells 157 = .ok (.ireturn, 1) := by decide +kernel
theorem dL_tells_158 : decode cL_tells 158 = .ok (.iload_n 1, 1) := by decide +kernel
theorem dL_tells_159 : decode cL_tells 159 = .ok (.iconst 3, 1) := by decide +kernel
theorem dL_tells_160 : decode cL_tells 160 = .ok (.ishr, 1) := by decide +kernel
theorem dL_tells_161 : decode cL_tells 161 = .ok (.bipush 7, 2) := by decide +kernel
theorem dL_tells_163 : decode cL_tells 163 = .ok (.invokestatic 106, 3) := by decide +kernel
theorem dL_tells_166 : decode cL_tells 166 = .ok (.istore 16, 2) := by decide +kernel
theorem dL_tells_168 : decode cL_tells 168 = .ok (.iload_n 1, 1) := by decide +kernel
theorem dL_tells_169 : decode cL_tells 169 = .ok (.iconst 5, 1) := by decide +kernel
theorem dL_tells_170 : decode cL_tells 170 = .ok (.ishr, 1) := by decide +kernel
theorem dL_tells_171 : decode cL_tells 171 = .ok (.bipush 50, 2) := by decide +kernel
theorem dL_tells_173 : decode cL_tells 173 = .ok (.invokestatic 106, 3) := by decide +kernel
theorem dL_tells_176 : decode cL_tells 176 = .ok (.iconst 1, 1) := by decide +kernel
theorem dL_tells_177 : decode cL_tells 177 = .ok (.isub, 1) := by decide +kernel
theorem dL_tells_178 : decode cL_tells 178 = .ok (.istore 17, 2) := by decide +kernel
theorem dL_tells_180 : decode cL_tells 180 = .ok (.iload 14, 2) := by decide +kernel
theorem dL_tells_182 : decode cL_tells 182 = .ok (.ifCond .eq 28, 3) := by decide +kernel
theorem dL_tells_185 : decode cL_tells 185 = .ok (.iload 17, 2) := by decide +kernel
theorem dL_tells_187 : decode cL_tells 187 = .ok (.ifCond .lt 23, 3) := by decide +kernel
theorem dL_tells_190 : decode cL_tells 190 = .ok (.iload 17, 2) := by decide +kernel
theorem dL_tells_192 : decode cL_tells 192 = .ok (.aload_n 3, 1) := by decide +kernel
theorem dL_tells_193 : decode cL_tells 193 = .ok (.iload 13, 2) := by decide +kernel
theorem dL_tells_195 : decode cL_tells 195 = .ok (.iaload, 1) := by decide +kernel
theorem dL_tells_196 : decode cL_tells 196 = .ok (.aload_n 3, 1) := by decide +kernel
theorem dL_tells_197 : decode cL_tells 197 = .ok (.iconst 4, 1) := by decide +kernel
theorem dL_tells_198 : decode cL_tells 198 = .ok (.iload 13, 2) := by decide +kernel
theorem dL_tells_200 : decode cL_tells 200 = .ok (.iadd, 1) := by decide +kernel
theorem dL_tells_201 : decode cL_tells 201 = .ok (.iaload, 1) := by decide +kernel
theorem dL_tells_202 : decode cL_tells 202 = .ok (.imul, 1) := by decide +kernel
theorem dL_tells_203 : decode cL_tells 203 = .ok (.if_icmp .ge 7, 3) := by decide +kernel
theorem dL_tells_206 : decode cL_tells 206 = .ok (.iconst 1, 1) := by decide +kernel
theorem dL_tells_207 : decode cL_tells 207 = .ok (.goto 4, 3) := by decide +kernel
theorem dL_tells_210 : decode cL_tells 210 = .ok (.iconst 0, 1) := by decide +kernel
theorem dL_tells_211 : decode cL_tells 211 = .ok (.istore 18, 2) := by decide +kernel
theorem dL_tells_213 : decode cL_tells 213 = .ok (.aload_n 0, 1) := by decide +kernel
theorem dL_tells_214 : decode cL_tells 214 = .ok (.iconst 2, 1) := by decide +kernel
theorem dL_tells_215 : decode cL_tells 215 = .ok (.iload 13, 2) := by decide +kernel
theorem dL_tells_217 : decode cL_tells 217 = .ok (.iload 16, 2) := by decide +kernel
theorem dL_tells_219 : decode cL_tells 219 = .ok (.invokestatic 155, 3) := by decide +kernel
theorem dL_tells_222 : decode cL_tells 222 = .ok (.iload 14, 2) := by decide +kernel
theorem dL_tells_224 : decode cL_tells 224 = .ok (.ifCond .eq 27, 3) := by decide +kernel
theorem dL_tells_227 : decode cL_tells 227 = .ok (.iload 16, 2) := by decide +kernel
theorem dL_tells_229 : decode cL_tells 229 = .ok (.aload_n 3, 1) := by decide +kernel
theorem dL_tells_230 : decode cL_tells 230 = .ok (.bipush 20, 2) := by decide +kernel
theorem dL_tells_232 : decode cL_tells 232 = .ok (.iload 13, 2) := by decide +kernel
theorem dL_tells_234 : decode cL_tells 234 = .ok (.iadd, 1) := by decide +kernel
theorem dL_tells_235 : decode cL_tells 235 = .ok (.iaload, 1) := by decide +kernel
theorem dL_tells_236 : decode cL_tells 236 = .ok (.if_icmp .ge 15, 3) := by decide +kernel
theorem dL_tells_239 : decode cL_tells 239 = .ok (.aload 4, 2) := by decide +kernel
theorem dL_tells_241 : decode cL_tells 241 = .ok (.iload 13, 2) := by decide +kernel
theorem dL_tells_243 : decode cL_tells 243 = .ok (.iload 16, 2) := by decide +kernel
theorem dL_tells_245 : decode cL_tells 245 = .ok (.invokestatic 15, 3) := by decide +kernel
theorem dL_tells_248 : decode cL_tells 248 = .ok (.goto 5, 3) := by decide +kernel
theorem dL_tells_251 : decode cL_tells 251 = .ok (.bipush (-101), 2) := by decide +kernel
theorem dL_tells_253 : decode cL_tells 253 = .ok (.if_icmp .ne 37, 3) := by decide +kernel
theorem dL_tells_256 : decode cL_tells 256 = .ok (.aload_n 0, 1) := by decide +kernel
theorem dL_tells_257 : decode cL_tells 257 = .ok (.iconst 3, 1) := by decide +kernel
theorem dL_tells_258 : decode cL_tells 258 = .ok (.iload 13, 2) := by decide +kernel
theorem dL_tells_260 : decode cL_tells 260 = .ok (.iload 17, 2) := by decide +kernel
theorem dL_tells_262 : decode cL_tells 262 = .ok (.invokestatic 155, 3) := by decide +kernel
theorem dL_tells_265 : decode cL_tells 265 = .ok (.iload 18, 2) := by decide +kernel
theorem dL_tells_267 : decode cL_tells 267 = .ok (.ifCond .eq 18, 3) := by decide +kernel
theorem dL_tells_270 : decode cL_tells 270 = .ok (.aload_n 3, 1) := by decide +kernel
theorem dL_tells_271 : decode cL_tells 271 = .ok (.iload 13, 2) := by decide +kernel
theorem dL_tells_273 : decode cL_tells 273 = .ok (.iload 17, 2) := by decide +kernel
theorem dL_tells_275 : decode cL_tells 275 = .ok (.invokestatic 9, 3) := by decide +kernel
theorem dL_tells_278 : decode cL_tells 278 = .ok (.sipush 1000, 3) := by decide +kernel
theorem dL_tells_281 : decode cL_tells 281 = .ok (.irem, 1) := by decide +kernel
theorem dL_tells_282 : decode cL_tells 282 = .ok (.goto 5, 3) := by decide +kernel
theorem dL_tells_285 : decode cL_tells 285 = .ok (.bipush (-101), 2) := by decide +kernel
theorem dL_tells_287 : decode cL_tells 287 = .ok (.if_icmp .eq 5, 3) := by decide +kernel
theorem dL_tells_290 : decode cL_tells 290 = .ok (.iconst 0, 1) := by decide +kernel
theorem dL_tells_291 : decode cL_tells 291 = .ok (.ireturn, 1) := by decide +kernel
theorem dL_tells_292 : decode cL_tells 292 = .ok (.iload 14, 2) := by decide +kernel
theorem dL_tells_294 : decode cL_tells 294 = .ok (.ifCond .eq 114, 3) := by decide +kernel
theorem dL_tells_297 : decode cL_tells 297 = .ok (.iload 15, 2) := by decide +kernel
theorem dL_tells_299 : decode cL_tells 299 = .ok (.ifCond .le 109, 3) := by decide +kernel
theorem dL_tells_302 : decode cL_tells 302 = .ok (.aload_n 3, 1) := by decide +kernel
theorem dL_tells_303 : decode cL_tells 303 = .ok (.bipush 12, 2) := by decide +kernel
theorem dL_tells_305 : decode cL_tells 305 = .ok (.iload 13, 2) := by decide +kernel
theorem dL_tells_307 : decode cL_tells 307 = .ok (.iadd, 1) := by decide +kernel
theorem dL_tells_308 : decode cL_tells 308 = .ok (.iaload, 1) := by decide +kernel
theorem dL_tells_309 : decode cL_tells 309 = .ok (.ifCond .ge 99, 3) := by decide +kernel
theorem dL_tells_312 : decode cL_tells 312 = .ok (.aload_n 3, 1) := by decide +kernel
theorem dL_tells_313 : decode cL_tells 313 = .ok (.bipush 16, 2) := by decide +kernel
theorem dL_tells_315 : decode cL_tells 315 = .ok (.iload 13, 2) := by decide +kernel
theorem dL_tells_317 : decode cL_tells 317 = .ok (.iadd, 1) := by decide +kernel
theorem dL_tells_318 : decode cL_tells 318 = .ok (.iaload, 1) := by decide +kernel
theorem dL_tells_319 : decode cL_tells 319 = .ok (.ifCond .ne 89, 3) := by decide +kernel
theorem dL_tells_322 : decode cL_tells 322 = .ok (.ldc 146, 2) := by decide +kernel
theorem dL_tells_324 : decode cL_tells 324 = .ok (.istore 19, 2) := by decide +kernel
theorem dL_tells_326 : decode cL_tells 326 = .ok (.iconst 0, 1) := by decide +kernel
theorem dL_tells_327 : decode cL_tells 327 = .ok (.istore 20, 2) := by decide +kernel
theorem dL_tells_329 : decode cL_tells 329 = .ok (.iload 20, 2) := by decide +kernel
theorem dL_tells_331 : decode cL_tells 331 = .ok (.iload 15, 2) := by decide +kernel
theorem dL_tells_333 : decode cL_tells 333 = .ok (.if_icmp .ge 37, 3) := by decide +kernel
theorem dL_tells_336 : decode cL_tells 336 = .ok (.aload 7, 2) := by decide +kernel
theorem dL_tells_338 : decode cL_tells 338 = .ok (.aload 9, 2) := by decide +kernel
theorem dL_tells_340 : decode cL_tells 340 = .ok (.iload 20, 2) := by decide +kernel
theorem dL_tells_342 : decode cL_tells 342 = .ok (.iaload, 1) := by decide +kernel
theorem dL_tells_343 : decode cL_tells 343 = .ok (.iaload, 1) := by decide +kernel
theorem dL_tells_344 : decode cL_tells 344 = .ok (.iload 19, 2) := by decide +kernel
theorem dL_tells_346 : decode cL_tells 346 = .ok (.if_icmp .ge 14, 3) := by decide +kernel
theorem dL_tells_349 : decode cL_tells 349 = .ok (.aload 7, 2) := by decide +kernel
theorem dL_tells_351 : decode cL_tells 351 = .ok (.aload 9, 2) := by decide +kernel
theorem dL_tells_353 : decode cL_tells 353 = .ok (.iload 20, 2) := by decide +kernel
theorem dL_tells_355 : decode cL_tells 355 = .ok (.iaload, 1) := by decide +kernel
theorem dL_tells_356 : decode cL_tells 356 = .ok (.iaload, 1) := by decide +kernel
theorem dL_tells_357 : decode cL_tells 357 = .ok (.goto 5, 3) := by decide +kernel
theorem dL_tells_360 : decode cL_tells 360 = .ok (.iload 19, 2) := by decide +kernel
theorem dL_tells_362 : decode cL_tells 362 = .ok (.istore 19, 2) := by decide +kernel
theorem dL_tells_364 : decode cL_tells 364 = .ok (.iinc 20 1, 3) := by decide +kernel
theorem dL_tells_367 : decode cL_tells 367 = .ok (.goto (-38), 3) := by decide +kernel
theorem dL_tells_370 : decode cL_tells 370 = .ok (.iload 10, 2) := by decide +kernel
theorem dL_tells_372 : decode cL_tells 372 = .ok (.ifCond .lt 24, 3) := by decide +kernel
theorem dL_tells_375 : decode cL_tells 375 = .ok (.iload 19, 2) := by decide +kernel
theorem dL_tells_377 : decode cL_tells 377 = .ok (.iload 11, 2) := by decide +kernel
theorem dL_tells_379 : decode cL_tells 379 = .ok (.if_icmp .lt 17, 3) := by decide +kernel
theorem dL_tells_382 : decode cL_tells 382 = .ok (.iload 19, 2) := by decide +kernel
theorem dL_tells_384 : decode cL_tells 384 = .ok (.iload 11, 2) := by decide +kernel
theorem dL_tells_386 : decode cL_tells 386 = .ok (.if_icmp .ne 22, 3) := by decide +kernel
theorem dL_tells_389 : decode cL_tells 389 = .ok (.iload 15, 2) := by decide +kernel
theorem dL_tells_391 : decode cL_tells 391 = .ok (.iload 12, 2) := by decide +kernel
theorem dL_tells_393 : decode cL_tells 393 = .ok (.if_icmp .le 15, 3) := by decide +kernel
theorem dL_tells_396 : decode cL_tells 396 = .ok (.iload 13, 2) := by decide +kernel
theorem dL_tells_398 : decode cL_tells 398 = .ok (.istore 10, 2) := by decide +kernel
theorem dL_tells_400 : decode cL_tells 400 = .ok (.iload 19, 2) := by decide +kernel
theorem dL_tells_402 : decode cL_tells 402 = .ok (.istore 11, 2) := by decide +kernel
theorem dL_tells_404 : decode cL_tells 404 = .ok (.iload 15, 2) := by decide +kernel
theorem dL_tells_406 : decode cL_tells 406 = .ok (.istore 12, 2) := by decide +kernel
theorem dL_tells_408 : decode cL_tells 408 = .ok (.iinc 13 1, 3) := by decide +kernel
theorem dL_tells_411 : decode cL_tells 411 = .ok (.goto (-393), 3) := by decide +kernel
theorem dL_tells_414 : decode cL_tells 414 = .ok (.iconst 0, 1) := by decide +kernel
theorem dL_tells_415 : decode cL_tells 415 = .ok (.istore 13, 2) := by decide +kernel
theorem dL_tells_417 : decode cL_tells 417 = .ok (.iload 13, 2) := by decide +kernel
theorem dL_tells_419 : decode cL_tells 419 = .ok (.aload_n 2, 1) := by decide +kernel
theorem dL_tells_420 : decode cL_tells 420 = .ok (.iconst 1, 1) := by decide +kernel
theorem dL_tells_421 : decode cL_tells 421 = .ok (.iaload, 1) := by decide +kernel
theorem dL_tells_422 : decode cL_tells 422 = .ok (.if_icmp .gt 99, 3) := by decide +kernel
theorem dL_tells_425 : decode cL_tells 425 = .ok (.iload 13, 2) := by decide +kernel
theorem dL_tells_427 : decode cL_tells 427 = .ok (.aload_n 2, 1) := by decide +kernel
theorem dL_tells_428 : decode cL_tells 428 = .ok (.iconst 1, 1) := by decide +kernel
theorem dL_tells_429 : decode cL_tells 429 = .ok (.iaload, 1) := by decide +kernel
theorem dL_tells_430 : decode cL_tells 430 = .ok (.if_icmp .ge 7, 3) := by decide +kernel
theorem dL_tells_433 : decode cL_tells 433 = .ok (.iconst 1, 1) := by decide +kernel
theorem dL_tells_434 : decode cL_tells 434 = .ok (.goto 4, 3) := by decide +kernel
theorem dL_tells_437 : decode cL_tells 437 = .ok (.iconst 0, 1) := by decide +kernel
theorem dL_tells_438 : decode cL_tells 438 = .ok (.istore 14, 2) := by decide +kernel
theorem dL_tells_440 : decode cL_tells 440 = .ok (.aload_n 0, 1) := by decide +kernel
theorem dL_tells_441 : decode cL_tells 441 = .ok (.iconst 5, 1) := by decide +kernel
theorem dL_tells_442 : decode cL_tells 442 = .ok (.iload 13, 2) := by decide +kernel
theorem dL_tells_444 : decode cL_tells 444 = .ok (.iconst 0, 1) := by decide +kernel
theorem dL_tells_445 : decode cL_tells 445 = .ok (.invokestatic 155, 3) := by decide +kernel
theorem dL_tells_448 : decode cL_tells 448 = .ok (.iload 14, 2) := by decide +kernel
theorem dL_tells_450 : decode cL_tells 450 = .ok (.ifCond .eq 13, 3) := by decide +kernel
theorem dL_tells_453 : decode cL_tells 453 = .ok (.aload 5, 2) := by decide +kernel
theorem dL_tells_455 : decode cL_tells 455 = .ok (.iconst 2, 1) := by decide +kernel
theorem dL_tells_456 : decode cL_tells 456 = .ok (.iload 13, 2) := by decide +kernel
theorem dL_tells_458 : decode cL_tells 458 = .ok (.iadd, 1) := by decide +kernel
theorem dL_tells_459 : decode cL_tells 459 = .ok (.iaload, 1) := by decide +kernel
theorem dL_tells_460 : decode cL_tells 460 = .ok (.goto 5, 3) := by decide +kernel
theorem dL_tells_463 : decode cL_tells 463 = .ok (.bipush (-101), 2) := by decide +kernel
theorem dL_tells_465 : decode cL_tells 465 = .ok (.if_icmp .ne 48, 3) := by decide +kernel
theorem dL_tells_468 : decode cL_tells 468 = .ok (.aload_n 0, 1) := by decide +kernel
theorem dL_tells_469 : decode cL_tells 469 = .ok (.bipush 6, 2) := by decide +kernel
theorem dL_tells_471 : decode cL_tells 471 = .ok (.iload 13, 2) := by decide +kernel
theorem dL_tells_473 : decode cL_tells 473 = .ok (.iconst 0, 1) := by decide +kernel
theorem dL_tells_474 : decode cL_tells 474 = .ok (.invokestatic 155, 3) := by decide +kernel
theorem dL_tells_477 : decode cL_tells 477 = .ok (.iload 14, 2) := by decide +kernel
theorem dL_tells_479 : decode cL_tells 479 = .ok (.ifCond .ne 8, 3) := by decide +kernel
theorem dL_tells_482 : decode cL_tells 482 = .ok (.bipush (-101), 2) := by decide +kernel
theorem dL_tells_484 : decode cL_tells 484 = .ok (.goto 26, 3) := by decide +kernel
theorem dL_tells_487 : decode cL_tells 487 = .ok (.aload 5, 2) := by decide +kernel
theorem dL_tells_489 : decode cL_tells 489 = .ok (.bipush 6, 2) := by decide +kernel
theorem dL_tells_491 : decode cL_tells 491 = .ok (.iload 13, 2) := by decide +kernel
theorem dL_tells_493 : decode cL_tells 493 = .ok (.iadd, 1) := by decide +kernel
theorem dL_tells_494 : decode cL_tells 494 = .ok (.iaload, 1) := by decide +kernel
theorem dL_tells_495 : decode cL_tells 495 = .ok (.ifCond .ge 7, 3) := by decide +kernel
theorem dL_tells_498 : decode cL_tells 498 = .ok (.iconst (-1), 1) := by decide +kernel
theorem dL_tells_499 : decode cL_tells 499 = .ok (.goto 11, 3) := by decide +kernel
theorem dL_tells_502 : decode cL_tells 502 = .ok (.aload 5, 2) := by decide +kernel
theorem dL_tells_504 : decode cL_tells 504 = .ok (.bipush 8, 2) := by decide +kernel
theorem dL_tells_506 : decode cL_tells 506 = .ok (.iload 13, 2) := by decide +kernel
theorem dL_tells_508 : decode cL_tells 508 = .ok (.iadd, 1) := by decide +kernel
theorem dL_tells_509 : decode cL_tells 509 = .ok (.iaload, 1) := by decide +kernel
theorem dL_tells_510 : decode cL_tells 510 = .ok (.if_icmp .eq 5, 3) := by decide +kernel
theorem dL_tells_513 : decode cL_tells 513 = .ok (.iconst 0, 1) := by decide +kernel
theorem dL_tells_514 : decode cL_tells 514 = .ok (.ireturn, 1) := by decide +kernel
theorem dL_tells_515 : decode cL_tells 515 = .ok (.iinc 13 1, 3) := by decide +kernel
theorem dL_tells_518 : decode cL_tells 518 = .ok (.goto (-101), 3) := by decide +kernel
theorem dL_tells_521 : decode cL_tells 521 = .ok (.aload_n 0, 1) := by decide +kernel
theorem dL_tells_522 : decode cL_tells 522 = .ok (.invokevirtual 158, 3) := by decide +kernel
theorem dL_tells_525 : decode cL_tells 525 = .ok (.iload 10, 2) := by decide +kernel
theorem dL_tells_527 : decode cL_tells 527 = .ok (.if_icmp .ne 41, 3) := by decide +kernel
theorem dL_tells_530 : decode cL_tells 530 = .ok (.aload_n 0, 1) := by decide +kernel
theorem dL_tells_531 : decode cL_tells 531 = .ok (.invokevirtual 161, 3) := by decide +kernel
theorem dL_tells_534 : decode cL_tells 534 = .ok (.aload_n 2, 1) := by decide +kernel
theorem dL_tells_535 : decode cL_tells 535 = .ok (.iconst 3, 1) := by decide +kernel
theorem dL_tells_536 : decode cL_tells 536 = .ok (.iaload, 1) := by decide +kernel
theorem dL_tells_537 : decode cL_tells 537 = .ok (.if_icmp .ne 31, 3) := by decide +kernel
theorem dL_tells_540 : decode cL_tells 540 = .ok (.aload_n 0, 1) := by decide +kernel
theorem dL_tells_541 : decode cL_tells 541 = .ok (.iconst 0, 1) := by decide +kernel
theorem dL_tells_542 : decode cL_tells 542 = .ok (.iconst (-1), 1) := by decide +kernel
theorem dL_tells_543 : decode cL_tells 543 = .ok (.iconst 0, 1) := by decide +kernel
theorem dL_tells_544 : decode cL_tells 544 = .ok (.invokestatic 155, 3) := by decide +kernel
theorem dL_tells_547 : decode cL_tells 547 = .ok (.bipush (-101), 2) := by decide +kernel
theorem dL_tells_549 : decode cL_tells 549 = .ok (.if_icmp .ne 19, 3) := by decide +kernel
theorem dL_tells_552 : decode cL_tells 552 = .ok (.aload_n 0, 1) := by decide +kernel
theorem dL_tells_553 : decode cL_tells 553 = .ok (.iconst 2, 1) := by decide +kernel
theorem dL_tells_554 : decode cL_tells 554 = .ok (.iconst 0, 1) := by decide +kernel
theorem dL_tells_555 : decode cL_tells 555 = .ok (.iconst (-1), 1) := by decide +kernel
theorem dL_tells_556 : decode cL_tells 556 = .ok (.invokestatic 155, 3) := by decide +kernel
theorem dL_tells_559 : decode cL_tells 559 = .ok (.bipush (-101), 2) := by decide +kernel
theorem dL_tells_561 : decode cL_tells 561 = .ok (.if_icmp .ne 7, 3) := by decide +kernel
theorem dL_tells_564 : decode cL_tells 564 = .ok (.iconst 1, 1) := by decide +kernel
theorem dL_tells_565 : decode cL_tells 565 = .ok (.goto 4, 3) := by decide +kernel
theorem dL_tells_568 : decode cL_tells 568 = .ok (.iconst 0, 1) := by decide +kernel
theorem dL_tells_569 : decode cL_tells 569 = .ok (.ireturn, 1) := by decide +kernel
set_option maxRecDepth 20000 in
theorem ggL_orders_L_best : GoodIn wsL_orders wsL_best := goodIn_r _ [5, 1, 6, 7, 4, 8, 9, 10, 11, 12, 13, 14, 15, 16, 17, 18, 19, 20] (by decide +kernel) (by decide +kernel)
set_option maxRecDepth 20000 in
theorem gL_orders_L_best : GoodIn wsL_orders (va_wsS RL 151 yL_best wsL_best) := goodIn_app (goodIn_of _ (by decide +kernel)) ggL_orders_L_best
set_option maxRecDepth 20000 in
theorem ggL_orders_L_listed : GoodIn wsL_orders wsL_listed := goodIn_r _ [8] (by decide +kernel) (by decide +kernel)
set_option maxRecDepth 20000 in
theorem gL_orders_L_listed : GoodIn wsL_orders (va_wsS RL 22 yL_listed wsL_listed) := goodIn_app (goodIn_of _ (by decide +kernel)) ggL_orders_L_listed
set_option maxRecDepth 20000 in
theorem ggL_orders_L_one : GoodIn wsL_orders wsL_one := goodIn_ca (goodIn_ca (goodIn_r _ [23, 24, 25, 26, 27, 28, 29, 30, 31, 32, 33, 34, 35, 36, 37, 38, 39, 40, 41, 42, 43, 44, 45, 46, 47, 48, 49, 50, 51, 52, 53, 54, 55, 56, 57, 58, 59, 60, 61, 62, 63, 64, 65, 66, 67, 68, 69, 70, 71, 72, 73, 74, 75, 76, 77, 78, 79, 80, 81, 82, 83, 84, 85, 86, 87, 88, 89, 90, 91, 92, 93, 94, 95, 96, 97, 98, 99, 100, 101, 102, 103, 104, 105, 106, 107, 108, 109, 110, 111, 112, 113, 114, 115, 116, 117, 118, 119, 120, 121, 122, 123, 124, 125, 126, 127, 128, 129, 130, 131, 132, 133, 134, 135, 136, 137, 138, 139, 140, 141, 142, 143, 144, 145, 146, 147, 148, 149, 150, 151, 152, 153, 154, 155, 156, 157, 158, 159, 160, 161, 162, 163, 164, 165, 166, 167, 168, 169, 170, 171, 172, 173, 174, 175, 176, 177, 178, 179, 180, 181, 182, 183, 184, 185, 186, 187, 188, 189, 190, 191, 192, 193, 194, 195, 196, 197, 198, 199, 200, 201, 202, 203, 204, 205, 206, 207, 208, 209, 210, 211, 212, 213, 214, 215, 216, 217, 218, 248, 249, 250, 251, 252, 253, 254, 255, 256, 257, 258, 259, 260, 261, 262, 263, 264, 265, 266, 267, 268, 269, 270, 271, 272, 273, 274, 275, 276, 277, 278, 279] (by decide +kernel) (by decide +kernel)) (goodIn_sub (fun _ h => List.mem_cons_of_mem _ (List.mem_append_left _ (List.mem_append_right _ h))) (by decide +kernel))) (goodIn_sub (fun _ h => List.mem_cons_of_mem _ (List.mem_append_right _ h)) (by decide +kernel))
set_option maxRecDepth 20000 in
theorem gL_orders_L_one : GoodIn wsL_orders (va_wsS RL 128 yL_one wsL_one) := goodIn_app (goodIn_of _ (by decide +kernel)) ggL_orders_L_one
set_option maxRecDepth 20000 in
theorem ggL_orders_L_inserted : GoodIn wsL_orders wsL_inserted := goodIn_r _ [221, 1, 6, 7, 4, 8, 9, 10, 11, 12, 13, 14, 15, 16, 17, 18, 19, 20] (by decide +kernel) (by decide +kernel)
set_option maxRecDepth 20000 in
theorem gL_orders_L_inserted : GoodIn wsL_orders (va_wsS RL 164 yL_inserted wsL_inserted) := goodIn_app (goodIn_of _ (by decide +kernel)) ggL_orders_L_inserted
set_option maxRecDepth 20000 in
theorem ggL_orders_L_two : GoodIn wsL_orders wsL_two := goodIn_ca (goodIn_ca (goodIn_r _ [224, 24, 25, 225, 226, 227, 29, 228, 35, 36, 41, 42, 206, 207, 208, 209, 210, 211, 54, 212, 213, 214, 229, 230, 231, 232, 233, 234, 235, 236, 31, 32, 33, 34, 37, 66, 44, 67, 68, 69, 47, 48, 49, 50, 70, 71, 72, 73, 237, 238, 239, 240, 38, 39, 40, 241, 242, 243, 84, 85, 86, 87, 88, 89, 90, 152, 153, 154, 155, 156, 117, 118, 119, 120, 121, 122, 123, 109, 110, 124, 43, 45, 46, 51, 52, 53, 55, 56, 57, 58, 59, 60, 61, 62, 63, 64, 65, 125, 126, 127, 157, 244, 245, 246, 247, 82, 91, 92, 93, 94, 83, 95, 96, 97, 98, 99, 100, 101, 102, 103, 104, 105, 106, 107, 108, 111, 112, 113, 114, 115, 116, 128, 129, 130, 131, 132, 133, 134, 135, 136, 137, 138, 139, 140, 141, 142, 143, 144, 145, 146, 147, 148, 149, 150, 151, 255, 256, 257, 258, 259, 260, 261, 262, 263, 264, 265, 266, 267, 268, 248, 249, 250, 251, 252, 253, 254, 269, 270, 271, 272, 273, 274, 275, 276, 277, 278, 279] (by decide +kernel) (by decide +kernel)) (goodIn_sub (fun _ h => List.mem_cons_of_mem _ (List.mem_append_left _ (List.mem_append_right _ h))) (by decide +kernel))) (goodIn_sub (fun _ h => List.mem_cons_of_mem _ (List.mem_append_right _ h)) (by decide +kernel))
set_option maxRecDepth 20000 in
theorem gL_orders_L_two : GoodIn wsL_orders (va_wsS RL 121 yL_two wsL_two) := goodIn_app (goodIn_of _ (by decide +kernel)) ggL_orders_L_two
theorem dL_orders_0 : decode cL_orders 0 = .ok (.bipush 8, 2) := by decide +kernel
theorem dL_orders_2 : decode cL_orders 2 = .ok (.newarray .int, 2) := by decide +kernel
theorem dL_orders_4 : decode cL_orders 4 = .ok (.astore 7, 2) := by decide +kernel
theorem dL_orders_6 : decode cL_orders 6 = .ok (.bipush 20, 2) := by decide +kernel
theorem dL_orders_8 : decode cL_orders 8 = .ok (.newarray .int, 2) := by decide +kernel
theorem dL_orders_10 : decode cL_orders 10 = .ok (.astore 8, 2) := by decide +kernel
theorem dL_orders_12 : decode cL_orders 12 = .ok (.iconst 0, 1) := by decide +kernel
theorem dL_orders_13 : decode cL_orders 13 = .ok (.istore 9, 2) := by decide +kernel
theorem dL_orders_15 : decode cL_orders 15 = .ok (.iload 9, 2) := by decide +kernel
theorem dL_orders_17 : decode cL_orders 17 = .ok (.aload_n 1, 1) := by decide +kernel
theorem dL_orders_18 : decode cL_orders 18 = .ok (.iconst 1, 1) := by decide +kernel
theorem dL_orders_19 : decode cL_orders 19 = .ok (.iaload, 1) := by decide +kernel
theorem dL_orders_20 : decode cL_orders 20 = .ok (.if_icmp .gt 240, 3) := by decide +kernel
theorem dL_orders_23 : decode cL_orders 23 = .ok (.iload 9, 2) := by decide +kernel
theorem dL_orders_25 : decode cL_orders 25 = .ok (.aload_n 1, 1) := by decide +kernel
theorem dL_orders_26 : decode cL_orders 26 = .ok (.iconst 1, 1) := by decide +kernel
theorem dL_orders_27 : decode cL_orders 27 = .ok (.iaload, 1) := by decide +kernel
theorem dL_orders_28 : decode cL_orders 28 = .ok (.if_icmp .ge 7, 3) := by decide +kernel
theorem dL_orders_31 : decode cL_orders 31 = .ok (.iconst 1, 1) := by decide +kernel
theorem dL_orders_32 : decode cL_orders 32 = .ok (.goto 4, 3) := by decide +kernel
theorem dL_orders_35 : decode cL_orders 35 = .ok (.iconst 0, 1) := by decide +kernel
theorem dL_orders_36 : decode cL_orders 36 = .ok (.istore 10, 2) := by decide +kernel
theorem dL_orders_38 : decode cL_orders 38 = .ok (.iload 10, 2) := by decide +kernel
theorem dL_orders_40 : decode cL_orders 40 = .ok (.ifCond .eq 18, 3) := by decide +kernel
theorem dL_orders_43 : decode cL_orders 43 = .ok (.aload 4, 2) := by decide +kernel
theorem dL_orders_45 : decode cL_orders 45 = .ok (.bipush 6, 2) := by decide +kernel
theorem dL_orders_47 : decode cL_orders 47 = .ok (.iload 9, 2) := by decide +kernel
theorem dL_orders_49 : decode cL_orders 49 = .ok (.iadd, 1) := by decide +kernel
theorem dL_orders_50 : decode cL_orders 50 = .ok (.iaload, 1) := by decide +kernel
theorem dL_orders_51 : decode cL_orders 51 = .ok (.ifCond .lt 7, 3) := by decide +kernel
theorem dL_orders_54 : decode cL_orders 54 = .ok (.iconst 1, 1) := by decide +kernel
theorem dL_orders_55 : decode cL_orders 55 = .ok (.goto 4, 3) := by decide +kernel
theorem dL_orders_58 : decode cL_orders 58 = .ok (.iconst 0, 1) := by decide +kernel
theorem dL_orders_59 : decode cL_orders 59 = .ok (.istore 11, 2) := by decide +kernel
theorem dL_orders_61 : decode cL_orders 61 = .ok (.iload 10, 2) := by decide +kernel
theorem dL_orders_63 : decode cL_orders 63 = .ok (.ifCond .eq 8, 3) := by decide +kernel
theorem dL_orders_66 : decode cL_orders 66 = .ok (.bipush (-102), 2) := by decide +kernel
theorem dL_orders_68 : decode cL_orders 68 = .ok (.goto 5, 3) := by decide +kernel
theorem dL_orders_71 : decode cL_orders 71 = .ok (.bipush (-101), 2) := by decide +kernel
theorem dL_orders_73 : decode cL_orders 73 = .ok (.istore 12, 2) := by decide +kernel
theorem dL_orders_75 : decode cL_orders 75 = .ok (.iload 11, 2) := by decide +kernel
theorem dL_orders_77 : decode cL_orders 77 = .ok (.ifCond .eq 22, 3) := by decide +kernel
theorem dL_orders_80 : decode cL_orders 80 = .ok (.aload_n 1, 1) := by decide +kernel
theorem dL_orders_81 : decode cL_orders 81 = .ok (.aload_n 2, 1) := by decide +kernel
theorem dL_orders_82 : decode cL_orders 82 = .ok (.aload_n 3, 1) := by decide +kernel
theorem dL_orders_83 : decode cL_orders 83 = .ok (.aload 4, 2) := by decide +kernel
theorem dL_orders_85 : decode cL_orders 85 = .ok (.aload 5, 2) := by decide +kernel
theorem dL_orders_87 : decode cL_orders 87 = .ok (.aload 6, 2) := by decide +kernel
theorem dL_orders_89 : decode cL_orders 89 = .ok (.iload 9, 2) := by decide +kernel
theorem dL_orders_91 : decode cL_orders 91 = .ok (.aload 7, 2) := by decide +kernel
theorem dL_orders_93 : decode cL_orders 93 = .ok (.invokestatic 151, 3) := by decide +kernel
theorem dL_orders_96 : decode cL_orders 96 = .ok (.goto 5, 3) := by decide +kernel
theorem dL_orders_99 : decode cL_orders 99 = .ok (.iload 12, 2) := by decide +kernel
theorem dL_orders_101 : decode cL_orders 101 = .ok (.istore 13, 2) := by decide +kernel
theorem dL_orders_103 : decode cL_orders 103 = .ok (.iload 11, 2) := by decide +kernel
theorem dL_orders_105 : decode cL_orders 105 = .ok (.ifCond .eq 24, 3) := by decide +kernel
theorem dL_orders_108 : decode cL_orders 108 = .ok (.aload_n 1, 1) := by decide +kernel
theorem dL_orders_109 : decode cL_orders 109 = .ok (.aload 5, 2) := by decide +kernel
theorem dL_orders_111 : decode cL_orders 111 = .ok (.aload 6, 2) := by decide +kernel
theorem dL_orders_113 : decode cL_orders 113 = .ok (.aload 4, 2) := by decide +kernel
theorem dL_orders_115 : decode cL_orders 115 = .ok (.bipush 6, 2) := by decide +kernel
theorem dL_orders_117 : decode cL_orders 117 = .ok (.iload 9, 2) := by decide +kernel
theorem dL_orders_119 : decode cL_orders 119 = .ok (.iadd, 1) := by decide +kernel
theorem dL_orders_120 : decode cL_orders 120 = .ok (.iaload, 1) := by decide +kernel
theorem dL_orders_121 : decode cL_orders 121 = .ok (.aload 8, 2) := by decide +kernel
theorem dL_orders_123 : decode cL_orders 123 = .ok (.invokestatic 22, 3) := by decide +kernel
theorem dL_orders_126 : decode cL_orders 126 = .ok (.goto 4, 3) := by decide +kernel
theorem dL_orders_129 : decode cL_orders 129 = .ok (.iconst 0, 1) := by decide +kernel
theorem dL_orders_130 : decode cL_orders 130 = .ok (.istore 14, 2) := by decide +kernel
theorem dL_orders_132 : decode cL_orders 132 = .ok (.aload_n 0, 1) := by decide +kernel
theorem dL_orders_133 : decode cL_orders 133 = .ok (.iconst 3, 1) := by decide +kernel
theorem dL_orders_134 : decode cL_orders 134 = .ok (.iload 9, 2) := by decide +kernel
theorem dL_orders_136 : decode cL_orders 136 = .ok (.invokestatic 128, 3) := by decide +kernel
theorem dL_orders_139 : decode cL_orders 139 = .ok (.iload 13, 2) := by decide +kernel
theorem dL_orders_141 : decode cL_orders 141 = .ok (.if_icmp .ne 49, 3) := by decide +kernel
theorem dL_orders_144 : decode cL_orders 144 = .ok (.aload_n 0, 1) := by decide +kernel
theorem dL_orders_145 : decode cL_orders 145 = .ok (.iconst 5, 1) := by decide +kernel
theorem dL_orders_146 : decode cL_orders 146 = .ok (.iload 9, 2) := by decide +kernel
theorem dL_orders_148 : decode cL_orders 148 = .ok (.invokestatic 128, 3) := by decide +kernel
theorem dL_orders_151 : decode cL_orders 151 = .ok (.iload 13, 2) := by decide +kernel
theorem dL_orders_153 : decode cL_orders 153 = .ok (.if_icmp .ne 37, 3) := by decide +kernel
theorem dL_orders_156 : decode cL_orders 156 = .ok (.aload_n 0, 1) := by decide +kernel
theorem dL_orders_157 : decode cL_orders 157 = .ok (.iconst 4, 1) := by decide +kernel
theorem dL_orders_158 : decode cL_orders 158 = .ok (.iload 9, 2) := by decide +kernel
theorem dL_orders_160 : decode cL_orders 160 = .ok (.invokestatic 128, 3) := by decide +kernel
theorem dL_orders_163 : decode cL_orders 163 = .ok (.iload 11, 2) := by decide +kernel
theorem dL_orders_165 : decode cL_orders 165 = .ok (.ifCond .eq 20, 3) := by decide +kernel
theorem dL_orders_168 : decode cL_orders 168 = .ok (.aload_n 1, 1) := by decide +kernel
theorem dL_orders_169 : decode cL_orders 169 = .ok (.aload_n 2, 1) := by decide +kernel
theorem dL_orders_170 : decode cL_orders 170 = .ok (.aload_n 3, 1) := by decide +kernel
theorem dL_orders_171 : decode cL_orders 171 = .ok (.aload 4, 2) := by decide +kernel
theorem dL_orders_173 : decode cL_orders 173 = .ok (.aload 5, 2) := by decide +kernel
theorem dL_orders_175 : decode cL_orders 175 = .ok (.aload 6, 2) := by decide +kernel
theorem dL_orders_177 : decode cL_orders 177 = .ok (.iload 9, 2) := by decide +kernel
theorem dL_orders_179 : decode cL_orders 179 = .ok (.invokestatic 164, 3) := by decide +kernel
theorem dL_orders_182 : decode cL_orders 182 = .ok (.goto 5, 3) := by decide +kernel
theorem dL_orders_185 : decode cL_orders 185 = .ok (.iload 12, 2) := by decide +kernel
theorem dL_orders_187 : decode cL_orders 187 = .ok (.if_icmp .eq 5, 3) := by decide +kernel
theorem dL_orders_190 : decode cL_orders 190 = .ok (.iconst 0, 1) := by decide +kernel
theorem dL_orders_191 : decode cL_orders 191 = .ok (.ireturn, 1) := by decide +kernel
theorem dL_orders_192 : decode cL_orders 192 = .ok (.iconst (-1), 1) := by decide +kernel
theorem dL_orders_193 : decode cL_orders 193 = .ok (.istore 15, 2) := by decide +kernel
theorem dL_orders_195 : decode cL_orders 195 = .ok (.iload 15, 2) := by decide +kernel
theorem dL_orders_197 : decode cL_orders 197 = .ok (.iload 14, 2) := by decide +kernel
theorem dL_orders_199 : decode cL_orders 199 = .ok (.if_icmp .gt 55, 3) := by decide +kernel
theorem dL_orders_202 : decode cL_orders 202 = .ok (.aload_n 0, 1) := by decide +kernel
theorem dL_orders_203 : decode cL_orders 203 = .ok (.iconst 3, 1) := by decide +kernel
theorem dL_orders_204 : decode cL_orders 204 = .ok (.iload 9, 2) := by decide +kernel
theorem dL_orders_206 : decode cL_orders 206 = .ok (.iload 15, 2) := by decide +kernel
theorem dL_orders_208 : decode cL_orders 208 = .ok (.invokestatic 121, 3) := by decide +kernel
theorem dL_orders_211 : decode cL_orders 211 = .ok (.iload 11, 2) := by decide +kernel
theorem dL_orders_213 : decode cL_orders 213 = .ok (.ifCond .ne 8, 3) := by decide +kernel
theorem dL_orders_216 : decode cL_orders 216 = .ok (.iload 12, 2) := by decide +kernel
theorem dL_orders_218 : decode cL_orders 218 = .ok (.goto 25, 3) := by decide +kernel
theorem dL_orders_221 : decode cL_orders 221 = .ok (.iload 15, 2) := by decide +kernel
theorem dL_orders_223 : decode cL_orders 223 = .ok (.ifCond .lt 18, 3) := by decide +kernel
theorem dL_orders_226 : decode cL_orders 226 = .ok (.iload 15, 2) := by decide +kernel
theorem dL_orders_228 : decode cL_orders 228 = .ok (.iload 14, 2) := by decide +kernel
theorem dL_orders_230 : decode cL_orders 230 = .ok (.if_icmp .ge 11, 3) := by decide +kernel
theorem dL_orders_233 : decode cL_orders 233 = .ok (.aload 7, 2) := by decide +kernel
theorem dL_orders_235 : decode cL_orders 235 = .ok (.iload 15, 2) := by decide +kernel
theorem dL_orders_237 : decode cL_orders 237 = .ok (.iaload, 1) := by decide +kernel
theorem dL_orders_238 : decode cL_orders 238 = .ok (.goto 5, 3) := by decide +kernel
theorem dL_orders_241 : decode cL_orders 241 = .ok (.bipush (-101), 2) := by decide +kernel
theorem dL_orders_243 : decode cL_orders 243 = .ok (.if_icmp .eq 5, 3) := by decide +kernel
theorem dL_orders_246 : decode cL_orders 246 = .ok (.iconst 0, 1) := by decide +kernel
theorem dL_orders_247 : decode cL_orders 247 = .ok (.ireturn, 1) := by decide +kernel
theorem dL_orders_248 : decode cL_orders 248 = .ok (.iinc 15 1, 3) := by decide +kernel
theorem dL_orders_251 : decode cL_orders 251 = .ok (.goto (-56), 3) := by decide +kernel
theorem dL_orders_254 : decode cL_orders 254 = .ok (.iinc 9 1, 3) := by decide +kernel
theorem dL_orders_257 : decode cL_orders 257 = .ok (.goto (-242), 3) := by decide +kernel
theorem dL_orders_260 : decode cL_orders 260 = .ok (.iconst 1, 1) := by decide +kernel
theorem dL_orders_261 : decode cL_orders 261 = .ok (.ireturn, 1) := by decide +kernel

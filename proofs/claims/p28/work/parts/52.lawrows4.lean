theorem dL_works_192 : decode cL_works 192 = .ok (.bipush (-101), 2) := by decide +kernel
theorem dL_works_194 : decode cL_works 194 = .ok (.goto 43, 3) := by decide +kernel
theorem dL_works_197 : decode cL_works 197 = .ok (.iload 14, 2) := by decide +kernel
theorem dL_works_199 : decode cL_works 199 = .ok (.bipush 100, 2) := by decide +kernel
theorem dL_works_201 : decode cL_works 201 = .ok (.if_icmp .le 8, 3) := by decide +kernel
theorem dL_works_204 : decode cL_works 204 = .ok (.bipush (-102), 2) := by decide +kernel
theorem dL_works_206 : decode cL_works 206 = .ok (.goto 31, 3) := by decide +kernel
theorem dL_works_209 : decode cL_works 209 = .ok (.iload 12, 2) := by decide +kernel
theorem dL_works_211 : decode cL_works 211 = .ok (.ifCond .eq 24, 3) := by decide +kernel
theorem dL_works_214 : decode cL_works 214 = .ok (.aload 6, 2) := by decide +kernel
theorem dL_works_216 : decode cL_works 216 = .ok (.iconst 4, 1) := by decide +kernel
theorem dL_works_217 : decode cL_works 217 = .ok (.iload 10, 2) := by decide +kernel
theorem dL_works_219 : decode cL_works 219 = .ok (.iadd, 1) := by decide +kernel
theorem dL_works_220 : decode cL_works 220 = .ok (.iaload, 1) := by decide +kernel
theorem dL_works_221 : decode cL_works 221 = .ok (.bipush 12, 2) := by decide +kernel
theorem dL_works_223 : decode cL_works 223 = .ok (.if_icmp .ge 12, 3) := by decide +kernel
theorem dL_works_226 : decode cL_works 226 = .ok (.iload 15, 2) := by decide +kernel
theorem dL_works_228 : decode cL_works 228 = .ok (.ifCond .eq 7, 3) := by decide +kernel
theorem dL_works_231 : decode cL_works 231 = .ok (.iconst 0, 1) := by decide +kernel
theorem dL_works_232 : decode cL_works 232 = .ok (.goto 5, 3) := by decide +kernel
theorem dL_works_235 : decode cL_works 235 = .ok (.bipush (-103), 2) := by decide +kernel
theorem dL_works_237 : decode cL_works 237 = .ok (.istore 16, 2) := by decide +kernel
theorem dL_works_239 : decode cL_works 239 = .ok (.iload 16, 2) := by decide +kernel
theorem dL_works_241 : decode cL_works 241 = .ok (.ifCond .ne 57, 3) := by decide +kernel
theorem dL_works_244 : decode cL_works 244 = .ok (.aload 5, 2) := by decide +kernel
theorem dL_works_246 : decode cL_works 246 = .ok (.bipush 6, 2) := by decide +kernel
theorem dL_works_248 : decode cL_works 248 = .ok (.iload 13, 2) := by decide +kernel
theorem dL_works_250 : decode cL_works 250 = .ok (.imul, 1) := by decide +kernel
theorem dL_works_251 : decode cL_works 251 = .ok (.aload 4, 2) := by decide +kernel
theorem dL_works_253 : decode cL_works 253 = .ok (.bipush 20, 2) := by decide +kernel
theorem dL_works_255 : decode cL_works 255 = .ok (.iload 13, 2) := by decide +kernel
theorem dL_works_257 : decode cL_works 257 = .ok (.iadd, 1) := by decide +kernel
theorem dL_works_258 : decode cL_works 258 = .ok (.iaload, 1) := by decide +kernel
theorem dL_works_259 : decode cL_works 259 = .ok (.iadd, 1) := by decide +kernel
theorem dL_works_260 : decode cL_works 260 = .ok (.iload 14, 2) := by decide +kernel
theorem dL_works_262 : decode cL_works 262 = .ok (.iastore, 1) := by decide +kernel
theorem dL_works_263 : decode cL_works 263 = .ok (.aload 4, 2) := by decide +kernel
theorem dL_works_265 : decode cL_works 265 = .ok (.bipush 20, 2) := by decide +kernel
theorem dL_works_267 : decode cL_works 267 = .ok (.iload 13, 2) := by decide +kernel
theorem dL_works_269 : decode cL_works 269 = .ok (.iadd, 1) := by decide +kernel
theorem dL_works_270 : decode cL_works 270 = .ok (.dup2, 1) := by decide +kernel
theorem dL_works_271 : decode cL_works 271 = .ok (.iaload, 1) := by decide +kernel
theorem dL_works_272 : decode cL_works 272 = .ok (.iconst 1, 1) := by decide +kernel
theorem dL_works_273 : decode cL_works 273 = .ok (.iadd, 1) := by decide +kernel
theorem dL_works_274 : decode cL_works 274 = .ok (.iastore, 1) := by decide +kernel
theorem dL_works_275 : decode cL_works 275 = .ok (.aload 4, 2) := by decide +kernel
theorem dL_works_277 : decode cL_works 277 = .ok (.aload 5, 2) := by decide +kernel
theorem dL_works_279 : decode cL_works 279 = .ok (.aload 6, 2) := by decide +kernel
theorem dL_works_281 : decode cL_works 281 = .ok (.iload 10, 2) := by decide +kernel
theorem dL_works_283 : decode cL_works 283 = .ok (.aload 4, 2) := by decide +kernel
theorem dL_works_285 : decode cL_works 285 = .ok (.bipush 20, 2) := by decide +kernel
theorem dL_works_287 : decode cL_works 287 = .ok (.iload 13, 2) := by decide +kernel
theorem dL_works_289 : decode cL_works 289 = .ok (.iadd, 1) := by decide +kernel
theorem dL_works_290 : decode cL_works 290 = .ok (.iaload, 1) := by decide +kernel
theorem dL_works_291 : decode cL_works 291 = .ok (.iconst 1, 1) := by decide +kernel
theorem dL_works_292 : decode cL_works 292 = .ok (.isub, 1) := by decide +kernel
theorem dL_works_293 : decode cL_works 293 = .ok (.invokestatic 139, 3) := by decide +kernel
theorem dL_works_296 : decode cL_works 296 = .ok (.istore 16, 2) := by decide +kernel
theorem dL_works_298 : decode cL_works 298 = .ok (.aload_n 0, 1) := by decide +kernel
theorem dL_works_299 : decode cL_works 299 = .ok (.iload 10, 2) := by decide +kernel
theorem dL_works_301 : decode cL_works 301 = .ok (.iload 14, 2) := by decide +kernel
theorem dL_works_303 : decode cL_works 303 = .ok (.invokestatic 143, 3) := by decide +kernel
theorem dL_works_306 : decode cL_works 306 = .ok (.iload 16, 2) := by decide +kernel
theorem dL_works_308 : decode cL_works 308 = .ok (.if_icmp .ne 7, 3) := by decide +kernel
theorem dL_works_311 : decode cL_works 311 = .ok (.iconst 1, 1) := by decide +kernel
theorem dL_works_312 : decode cL_works 312 = .ok (.goto 4, 3) := by decide +kernel
theorem dL_works_315 : decode cL_works 315 = .ok (.iconst 0, 1) := by decide +kernel
theorem dL_works_316 : decode cL_works 316 = .ok (.ireturn, 1) := by decide +kernel
theorem dL_works_317 : decode cL_works 317 = .ok (.iload_n 1, 1) := by decide +kernel
theorem dL_works_318 : decode cL_works 318 = .ok (.iconst 3, 1) := by decide +kernel
theorem dL_works_319 : decode cL_works 319 = .ok (.if_icmp .ne 138, 3) := by decide +kernel
theorem dL_works_322 : decode cL_works 322 = .ok (.iload_n 2, 1) := by decide +kernel
theorem dL_works_323 : decode cL_works 323 = .ok (.iconst 5, 1) := by decide +kernel
theorem dL_works_324 : decode cL_works 324 = .ok (.ishr, 1) := by decide +kernel
theorem dL_works_325 : decode cL_works 325 = .ok (.bipush 7, 2) := by decide +kernel
theorem dL_works_327 : decode cL_works 327 = .ok (.invokestatic 106, 3) := by decide +kernel
theorem dL_works_330 : decode cL_works 330 = .ok (.iload_n 2, 1) := by decide +kernel
theorem dL_works_331 : decode cL_works 331 = .ok (.bipush 8, 2) := by decide +kernel
theorem dL_works_333 : decode cL_works 333 = .ok (.ishr, 1) := by decide +kernel
theorem dL_works_334 : decode cL_works 334 = .ok (.bipush 9, 2) := by decide +kernel
theorem dL_works_336 : decode cL_works 336 = .ok (.invokestatic 106, 3) := by decide +kernel
theorem dL_works_339 : decode cL_works 339 = .ok (.ifCond .ne 7, 3) := by decide +kernel
theorem dL_works_342 : decode cL_works 342 = .ok (.iconst 1, 1) := by decide +kernel
theorem dL_works_343 : decode cL_works 343 = .ok (.goto 4, 3) := by decide +kernel
theorem dL_works_346 : decode cL_works 346 = .ok (.iconst 0, 1) := by decide +kernel
theorem dL_works_347 : decode cL_works 347 = .ok (.isub, 1) := by decide +kernel
theorem dL_works_348 : decode cL_works 348 = .ok (.istore 14, 2) := by decide +kernel
theorem dL_works_350 : decode cL_works 350 = .ok (.iload 12, 2) := by decide +kernel
theorem dL_works_352 : decode cL_works 352 = .ok (.ifCond .eq 25, 3) := by decide +kernel
theorem dL_works_355 : decode cL_works 355 = .ok (.iload 14, 2) := by decide +kernel
theorem dL_works_357 : decode cL_works 357 = .ok (.ifCond .lt 20, 3) := by decide +kernel
theorem dL_works_360 : decode cL_works 360 = .ok (.iload 14, 2) := by decide +kernel
theorem dL_works_362 : decode cL_works 362 = .ok (.aload 4, 2) := by decide +kernel
theorem dL_works_364 : decode cL_works 364 = .ok (.bipush 20, 2) := by decide +kernel
theorem dL_works_366 : decode cL_works 366 = .ok (.iload 13, 2) := by decide +kernel
theorem dL_works_368 : decode cL_works 368 = .ok (.iadd, 1) := by decide +kernel
theorem dL_works_369 : decode cL_works 369 = .ok (.iaload, 1) := by decide +kernel
theorem dL_works_370 : decode cL_works 370 = .ok (.if_icmp .ge 7, 3) := by decide +kernel
theorem dL_works_373 : decode cL_works 373 = .ok (.iconst 1, 1) := by decide +kernel
theorem dL_works_374 : decode cL_works 374 = .ok (.goto 4, 3) := by decide +kernel
theorem dL_works_377 : decode cL_works 377 = .ok (.iconst 0, 1) := by decide +kernel
theorem dL_works_378 : decode cL_works 378 = .ok (.istore 15, 2) := by decide +kernel
theorem dL_works_380 : decode cL_works 380 = .ok (.iload 11, 2) := by decide +kernel
theorem dL_works_382 : decode cL_works 382 = .ok (.ifCond .eq 13, 3) := by decide +kernel
theorem dL_works_385 : decode cL_works 385 = .ok (.iload 12, 2) := by decide +kernel
theorem dL_works_387 : decode cL_works 387 = .ok (.ifCond .eq 13, 3) := by decide +kernel
theorem dL_works_390 : decode cL_works 390 = .ok (.iload 15, 2) := by decide +kernel
theorem dL_works_392 : decode cL_works 392 = .ok (.ifCond .ne 8, 3) := by decide +kernel
theorem dL_works_395 : decode cL_works 395 = .ok (.bipush (-101), 2) := by decide +kernel
theorem dL_works_397 : decode cL_works 397 = .ok (.goto 38, 3) := by decide +kernel
theorem dL_works_400 : decode cL_works 400 = .ok (.iload 12, 2) := by decide +kernel
theorem dL_works_402 : decode cL_works 402 = .ok (.ifCond .eq 31, 3) := by decide +kernel
theorem dL_works_405 : decode cL_works 405 = .ok (.aload 6, 2) := by decide +kernel
theorem dL_works_407 : decode cL_works 407 = .ok (.iconst 4, 1) := by decide +kernel
theorem dL_works_408 : decode cL_works 408 = .ok (.iload 10, 2) := by decide +kernel
theorem dL_works_410 : decode cL_works 410 = .ok (.iadd, 1) := by decide +kernel
theorem dL_works_411 : decode cL_works 411 = .ok (.iaload, 1) := by decide +kernel
theorem dL_works_412 : decode cL_works 412 = .ok (.bipush 12, 2) := by decide +kernel
theorem dL_works_414 : decode cL_works 414 = .ok (.if_icmp .ge 19, 3) := by decide +kernel
theorem dL_works_417 : decode cL_works 417 = .ok (.aload 4, 2) := by decide +kernel
theorem dL_works_419 : decode cL_works 419 = .ok (.aload 5, 2) := by decide +kernel
theorem dL_works_421 : decode cL_works 421 = .ok (.aload 6, 2) := by decide +kernel
theorem dL_works_423 : decode cL_works 423 = .ok (.iload 10, 2) := by decide +kernel
theorem dL_works_425 : decode cL_works 425 = .ok (.iload 14, 2) := by decide +kernel
theorem dL_works_427 : decode cL_works 427 = .ok (.invokestatic 139, 3) := by decide +kernel
theorem dL_works_430 : decode cL_works 430 = .ok (.goto 5, 3) := by decide +kernel
theorem dL_works_433 : decode cL_works 433 = .ok (.bipush (-102), 2) := by decide +kernel
theorem dL_works_435 : decode cL_works 435 = .ok (.istore 16, 2) := by decide +kernel
theorem dL_works_437 : decode cL_works 437 = .ok (.aload_n 0, 1) := by decide +kernel
theorem dL_works_438 : decode cL_works 438 = .ok (.iconst 2, 1) := by decide +kernel
theorem dL_works_439 : decode cL_works 439 = .ok (.iload 10, 2) := by decide +kernel
theorem dL_works_441 : decode cL_works 441 = .ok (.iload 14, 2) := by decide +kernel
theorem dL_works_443 : decode cL_works 443 = .ok (.invokestatic 121, 3) := by decide +kernel
theorem dL_works_446 : decode cL_works 446 = .ok (.iload 16, 2) := by decide +kernel
theorem dL_works_448 : decode cL_works 448 = .ok (.if_icmp .ne 7, 3) := by decide +kernel
theorem dL_works_451 : decode cL_works 451 = .ok (.iconst 1, 1) := by decide +kernel
theorem dL_works_452 : decode cL_works 452 = .ok (.goto 4, 3) := by decide +kernel
theorem dL_works_455 : decode cL_works 455 = .ok (.iconst 0, 1) := by decide +kernel
theorem dL_works_456 : decode cL_works 456 = .ok (.ireturn, 1) := by decide +kernel
theorem dL_works_457 : decode cL_works 457 = .ok (.iload_n 1, 1) := by decide +kernel
theorem dL_works_458 : decode cL_works 458 = .ok (.bipush 7, 2) := by decide +kernel
theorem dL_works_460 : decode cL_works 460 = .ok (.if_icmp .ge 263, 3) := by decide +kernel
theorem dL_works_463 : decode cL_works 463 = .ok (.iload_n 2, 1) := by decide +kernel
theorem dL_works_464 : decode cL_works 464 = .ok (.aload_n 3, 1) := by decide +kernel
theorem dL_works_465 : decode cL_works 465 = .ok (.iconst 0, 1) := by decide +kernel
theorem dL_works_466 : decode cL_works 466 = .ok (.iaload, 1) := by decide +kernel
theorem dL_works_467 : decode cL_works 467 = .ok (.iconst 1, 1) := by decide +kernel
theorem dL_works_468 : decode cL_works 468 = .ok (.iadd, 1) := by decide +kernel
theorem dL_works_469 : decode cL_works 469 = .ok (.invokestatic 106, 3) := by decide +kernel
theorem dL_works_472 : decode cL_works 472 = .ok (.istore 14, 2) := by decide +kernel
theorem dL_works_474 : decode cL_works 474 = .ok (.iload 14, 2) := by decide +kernel
theorem dL_works_476 : decode cL_works 476 = .ok (.aload_n 3, 1) := by decide +kernel
theorem dL_works_477 : decode cL_works 477 = .ok (.iconst 0, 1) := by decide +kernel
theorem dL_works_478 : decode cL_works 478 = .ok (.iaload, 1) := by decide +kernel
theorem dL_works_479 : decode cL_works 479 = .ok (.if_icmp .ge 42, 3) := by decide +kernel
theorem dL_works_482 : decode cL_works 482 = .ok (.aload 4, 2) := by decide +kernel
theorem dL_works_484 : decode cL_works 484 = .ok (.bipush 20, 2) := by decide +kernel
theorem dL_works_486 : decode cL_works 486 = .ok (.iload 14, 2) := by decide +kernel
theorem dL_works_488 : decode cL_works 488 = .ok (.iadd, 1) := by decide +kernel
theorem dL_works_489 : decode cL_works 489 = .ok (.iaload, 1) := by decide +kernel
theorem dL_works_490 : decode cL_works 490 = .ok (.ifCond .le 31, 3) := by decide +kernel
theorem dL_works_493 : decode cL_works 493 = .ok (.iload_n 2, 1) := by decide +kernel
theorem dL_works_494 : decode cL_works 494 = .ok (.iconst 4, 1) := by decide +kernel
theorem dL_works_495 : decode cL_works 495 = .ok (.ishr, 1) := by decide +kernel
theorem dL_works_496 : decode cL_works 496 = .ok (.bipush 9, 2) := by decide +kernel
theorem dL_works_498 : decode cL_works 498 = .ok (.invokestatic 106, 3) := by decide +kernel
theorem dL_works_501 : decode cL_works 501 = .ok (.ifCond .le 20, 3) := by decide +kernel
theorem dL_works_504 : decode cL_works 504 = .ok (.iload_n 2, 1) := by decide +kernel
theorem dL_works_505 : decode cL_works 505 = .ok (.iconst 5, 1) := by decide +kernel
theorem dL_works_506 : decode cL_works 506 = .ok (.ishr, 1) := by decide +kernel
theorem dL_works_507 : decode cL_works 507 = .ok (.aload 4, 2) := by decide +kernel
theorem dL_works_509 : decode cL_works 509 = .ok (.bipush 20, 2) := by decide +kernel
theorem dL_works_511 : decode cL_works 511 = .ok (.iload 14, 2) := by decide +kernel
theorem dL_works_513 : decode cL_works 513 = .ok (.iadd, 1) := by decide +kernel
theorem dL_works_514 : decode cL_works 514 = .ok (.iaload, 1) := by decide +kernel
theorem dL_works_515 : decode cL_works 515 = .ok (.invokestatic 106, 3) := by decide +kernel
theorem dL_works_518 : decode cL_works 518 = .ok (.goto 5, 3) := by decide +kernel
theorem dL_works_521 : decode cL_works 521 = .ok (.bipush 6, 2) := by decide +kernel
theorem dL_works_523 : decode cL_works 523 = .ok (.istore 15, 2) := by decide +kernel
theorem dL_works_525 : decode cL_works 525 = .ok (.iload_n 2, 1) := by decide +kernel
theorem dL_works_526 : decode cL_works 526 = .ok (.bipush 6, 2) := by decide +kernel
theorem dL_works_528 : decode cL_works 528 = .ok (.ishr, 1) := by decide +kernel
theorem dL_works_529 : decode cL_works 529 = .ok (.bipush 40, 2) := by decide +kernel
theorem dL_works_531 : decode cL_works 531 = .ok (.invokestatic 106, 3) := by decide +kernel
theorem dL_works_534 : decode cL_works 534 = .ok (.ifCond .ne 8, 3) := by decide +kernel
theorem dL_works_537 : decode cL_works 537 = .ok (.ldc 146, 2) := by decide +kernel
theorem dL_works_539 : decode cL_works 539 = .ok (.goto 13, 3) := by decide +kernel
theorem dL_works_542 : decode cL_works 542 = .ok (.iload_n 2, 1) := by decide +kernel
theorem dL_works_543 : decode cL_works 543 = .ok (.bipush 6, 2) := by decide +kernel
theorem dL_works_545 : decode cL_works 545 = .ok (.ishr, 1) := by decide +kernel
theorem dL_works_546 : decode cL_works 546 = .ok (.sipush 600, 3) := by decide +kernel
theorem dL_works_549 : decode cL_works 549 = .ok (.invokestatic 106, 3) := by decide +kernel
theorem dL_works_552 : decode cL_works 552 = .ok (.istore 16, 2) := by decide +kernel
theorem dL_works_554 : decode cL_works 554 = .ok (.bipush 20, 2) := by decide +kernel
theorem dL_works_556 : decode cL_works 556 = .ok (.newarray .int, 2) := by decide +kernel
theorem dL_works_558 : decode cL_works 558 = .ok (.astore 17, 2) := by decide +kernel
theorem dL_works_560 : decode cL_works 560 = .ok (.iload 14, 2) := by decide +kernel
theorem dL_works_562 : decode cL_works 562 = .ok (.aload_n 3, 1) := by decide +kernel
theorem dL_works_563 : decode cL_works 563 = .ok (.iconst 0, 1) := by decide +kernel
theorem dL_works_564 : decode cL_works 564 = .ok (.iaload, 1) := by decide +kernel
theorem dL_works_565 : decode cL_works 565 = .ok (.if_icmp .ge 20, 3) := by decide +kernel
theorem dL_works_568 : decode cL_works 568 = .ok (.iload 15, 2) := by decide +kernel
theorem dL_works_570 : decode cL_works 570 = .ok (.aload 4, 2) := by decide +kernel
theorem dL_works_572 : decode cL_works 572 = .ok (.bipush 20, 2) := by decide +kernel
theorem dL_works_574 : decode cL_works 574 = .ok (.iload 14, 2) := by decide +kernel
theorem dL_works_576 : decode cL_works 576 = .ok (.iadd, 1) := by decide +kernel
theorem dL_works_577 : decode cL_works 577 = .ok (.iaload, 1) := by decide +kernel
theorem dL_works_578 : decode cL_works 578 = .ok (.if_icmp .ge 7, 3) := by decide +kernel
theorem dL_works_581 : decode cL_works 581 = .ok (.iconst 1, 1) := by decide +kernel
theorem dL_works_582 : decode cL_works 582 = .ok (.goto 4, 3) := by decide +kernel
theorem dL_works_585 : decode cL_works 585 = .ok (.iconst 0, 1) := by decide +kernel
theorem dL_works_586 : decode cL_works 586 = .ok (.istore 18, 2) := by decide +kernel
theorem dL_works_588 : decode cL_works 588 = .ok (.iload 18, 2) := by decide +kernel
theorem dL_works_590 : decode cL_works 590 = .ok (.ifCond .eq 18, 3) := by decide +kernel
theorem dL_works_593 : decode cL_works 593 = .ok (.aload_n 3, 1) := by decide +kernel
theorem dL_works_594 : decode cL_works 594 = .ok (.aload 7, 2) := by decide +kernel
theorem dL_works_596 : decode cL_works 596 = .ok (.aload 9, 2) := by decide +kernel
theorem dL_works_598 : decode cL_works 598 = .ok (.iload 14, 2) := by decide +kernel
theorem dL_works_600 : decode cL_works 600 = .ok (.aload 17, 2) := by decide +kernel
theorem dL_works_602 : decode cL_works 602 = .ok (.invokestatic 22, 3) := by decide +kernel
theorem dL_works_605 : decode cL_works 605 = .ok (.goto 4, 3) := by decide +kernel
theorem dL_works_608 : decode cL_works 608 = .ok (.iconst 0, 1) := by decide +kernel
theorem dL_works_609 : decode cL_works 609 = .ok (.istore 19, 2) := by decide +kernel
theorem dL_works_611 : decode cL_works 611 = .ok (.iload 18, 2) := by decide +kernel
theorem dL_works_613 : decode cL_works 613 = .ok (.ifCond .eq 26, 3) := by decide +kernel
theorem dL_works_616 : decode cL_works 616 = .ok (.iload 16, 2) := by decide +kernel
theorem dL_works_618 : decode cL_works 618 = .ok (.ldc 146, 2) := by decide +kernel
theorem dL_works_620 : decode cL_works 620 = .ok (.if_icmp .ge 19, 3) := by decide +kernel
theorem dL_works_623 : decode cL_works 623 = .ok (.iload 19, 2) := by decide +kernel
theorem dL_works_625 : decode cL_works 625 = .ok (.iconst 5, 1) := by decide +kernel
theorem dL_works_626 : decode cL_works 626 = .ok (.if_icmp .eq 11, 3) := by decide +kernel
theorem dL_works_629 : decode cL_works 629 = .ok (.aload_n 3, 1) := by decide +kernel
theorem dL_works_630 : decode cL_works 630 = .ok (.iconst 2, 1) := by decide +kernel
theorem dL_works_631 : decode cL_works 631 = .ok (.iaload, 1) := by decide +kernel
theorem dL_works_632 : decode cL_works 632 = .ok (.bipush 20, 2) := by decide +kernel
theorem dL_works_634 : decode cL_works 634 = .ok (.if_icmp .ne 5, 3) := by decide +kernel
theorem dL_works_637 : decode cL_works 637 = .ok (.iconst 1, 1) := by decide +kernel
theorem dL_works_638 : decode cL_works 638 = .ok (.ireturn, 1) := by decide +kernel
theorem dL_works_639 : decode cL_works 639 = .ok (.iload 18, 2) := by decide +kernel
theorem dL_works_641 : decode cL_works 641 = .ok (.ifCond .ne 8, 3) := by decide +kernel
theorem dL_works_644 : decode cL_works 644 = .ok (.bipush (-101), 2) := by decide +kernel
theorem dL_works_646 : decode cL_works 646 = .ok (.goto 18, 3) := by decide +kernel
theorem dL_works_649 : decode cL_works 649 = .ok (.iload 16, 2) := by decide +kernel
theorem dL_works_651 : decode cL_works 651 = .ok (.ldc 147, 2) := by decide +kernel
theorem dL_works_653 : decode cL_works 653 = .ok (.if_icmp .le 8, 3) := by decide +kernel
theorem dL_works_656 : decode cL_works 656 = .ok (.bipush (-102), 2) := by decide +kernel
theorem dL_works_658 : decode cL_works 658 = .ok (.goto 6, 3) := by decide +kernel
theorem dL_works_661 : decode cL_works 661 = .ok (.aload_n 3, 1) := by decide +kernel
theorem dL_works_662 : decode cL_works 662 = .ok (.iconst 2, 1) := by decide +kernel
theorem dL_works_663 : decode cL_works 663 = .ok (.iaload, 1) := by decide +kernel
theorem dL_works_664 : decode cL_works 664 = .ok (.istore 20, 2) := by decide +kernel
theorem dL_works_666 : decode cL_works 666 = .ok (.iload 20, 2) := by decide +kernel
theorem dL_works_668 : decode cL_works 668 = .ok (.ifCond .lt 34, 3) := by decide +kernel
theorem dL_works_671 : decode cL_works 671 = .ok (.aload 7, 2) := by decide +kernel
theorem dL_works_673 : decode cL_works 673 = .ok (.iload 20, 2) := by decide +kernel
theorem dL_works_675 : decode cL_works 675 = .ok (.iload 14, 2) := by decide +kernel
theorem dL_works_677 : decode cL_works 677 = .ok (.iastore, 1) := by decide +kernel
theorem dL_works_678 : decode cL_works 678 = .ok (.aload 7, 2) := by decide +kernel
theorem dL_works_680 : decode cL_works 680 = .ok (.bipush 20, 2) := by decide +kernel
theorem dL_works_682 : decode cL_works 682 = .ok (.iload 20, 2) := by decide +kernel
theorem dL_works_684 : decode cL_works 684 = .ok (.iadd, 1) := by decide +kernel
theorem dL_works_685 : decode cL_works 685 = .ok (.iload 15, 2) := by decide +kernel
theorem dL_works_687 : decode cL_works 687 = .ok (.iastore, 1) := by decide +kernel
theorem dL_works_688 : decode cL_works 688 = .ok (.aload 8, 2) := by decide +kernel
theorem dL_works_690 : decode cL_works 690 = .ok (.iload 20, 2) := by decide +kernel
theorem dL_works_692 : decode cL_works 692 = .ok (.iload 16, 2) := by decide +kernel
theorem dL_works_694 : decode cL_works 694 = .ok (.iastore, 1) := by decide +kernel
theorem dL_works_695 : decode cL_works 695 = .ok (.aload_n 3, 1) := by decide +kernel
theorem dL_works_696 : decode cL_works 696 = .ok (.iconst 2, 1) := by decide +kernel
theorem dL_works_697 : decode cL_works 697 = .ok (.dup2, 1) := by decide +kernel
theorem dL_works_698 : decode cL_works 698 = .ok (.iaload, 1) := by decide +kernel
theorem dL_works_699 : decode cL_works 699 = .ok (.iconst 1, 1) := by decide +kernel
theorem dL_works_700 : decode cL_works 700 = .ok (.iadd, 1) := by decide +kernel
theorem dL_works_701 : decode cL_works 701 = .ok (.iastore, 1) := by decide +kernel
theorem dL_works_702 : decode cL_works 702 = .ok (.aload_n 0, 1) := by decide +kernel
theorem dL_works_703 : decode cL_works 703 = .ok (.iload 14, 2) := by decide +kernel
theorem dL_works_705 : decode cL_works 705 = .ok (.iload 15, 2) := by decide +kernel
theorem dL_works_707 : decode cL_works 707 = .ok (.iload 16, 2) := by decide +kernel
theorem dL_works_709 : decode cL_works 709 = .ok (.invokestatic 148, 3) := by decide +kernel
theorem dL_works_712 : decode cL_works 712 = .ok (.iload 20, 2) := by decide +kernel
theorem dL_works_714 : decode cL_works 714 = .ok (.if_icmp .ne 7, 3) := by decide +kernel
theorem dL_works_717 : decode cL_works 717 = .ok (.iconst 1, 1) := by decide +kernel
theorem dL_works_718 : decode cL_works 718 = .ok (.goto 4, 3) := by decide +kernel
theorem dL_works_721 : decode cL_works 721 = .ok (.iconst 0, 1) := by decide +kernel
theorem dL_works_722 : decode cL_works 722 = .ok (.ireturn, 1) := by decide +kernel
theorem dL_works_723 : decode cL_works 723 = .ok (.bipush 8, 2) := by decide +kernel
theorem dL_works_725 : decode cL_works 725 = .ok (.newarray .int, 2) := by decide +kernel
theorem dL_works_727 : decode cL_works 727 = .ok (.astore 14, 2) := by decide +kernel
theorem dL_works_729 : decode cL_works 729 = .ok (.iload 11, 2) := by decide +kernel
theorem dL_works_731 : decode cL_works 731 = .ok (.ifCond .ne 8, 3) := by decide +kernel
theorem dL_works_734 : decode cL_works 734 = .ok (.bipush (-101), 2) := by decide +kernel
theorem dL_works_736 : decode cL_works 736 = .ok (.goto 26, 3) := by decide +kernel
theorem dL_works_739 : decode cL_works 739 = .ok (.iload 12, 2) := by decide +kernel
theorem dL_works_741 : decode cL_works 741 = .ok (.ifCond .eq 19, 3) := by decide +kernel
theorem dL_works_744 : decode cL_works 744 = .ok (.aload 6, 2) := by decide +kernel
theorem dL_works_746 : decode cL_works 746 = .ok (.iconst 4, 1) := by decide +kernel
theorem dL_works_747 : decode cL_works 747 = .ok (.iload 10, 2) := by decide +kernel
theorem dL_works_749 : decode cL_works 749 = .ok (.iadd, 1) := by decide +kernel
theorem dL_works_750 : decode cL_works 750 = .ok (.iaload, 1) := by decide +kernel
theorem dL_works_751 : decode cL_works 751 = .ok (.bipush 12, 2) := by decide +kernel
theorem dL_works_753 : decode cL_works 753 = .ok (.if_icmp .ge 7, 3) := by decide +kernel
theorem dL_works_756 : decode cL_works 756 = .ok (.iconst 0, 1) := by decide +kernel
theorem dL_works_757 : decode cL_works 757 = .ok (.goto 5, 3) := by decide +kernel
theorem dL_works_760 : decode cL_works 760 = .ok (.bipush (-102), 2) := by decide +kernel
theorem dL_works_762 : decode cL_works 762 = .ok (.istore 15, 2) := by decide +kernel
theorem dL_works_764 : decode cL_works 764 = .ok (.iload 15, 2) := by decide +kernel
theorem dL_works_766 : decode cL_works 766 = .ok (.ifCond .ne 137, 3) := by decide +kernel
theorem dL_works_769 : decode cL_works 769 = .ok (.bipush 20, 2) := by decide +kernel
theorem dL_works_771 : decode cL_works 771 = .ok (.newarray .int, 2) := by decide +kernel
theorem dL_works_773 : decode cL_works 773 = .ok (.astore 16, 2) := by decide +kernel
theorem dL_works_775 : decode cL_works 775 = .ok (.aload_n 3, 1) := by decide +kernel
theorem dL_works_776 : decode cL_works 776 = .ok (.aload 7, 2) := by decide +kernel
theorem dL_works_778 : decode cL_works 778 = .ok (.aload 9, 2) := by decide +kernel
theorem dL_works_780 : decode cL_works 780 = .ok (.iload 13, 2) := by decide +kernel
theorem dL_works_782 : decode cL_works 782 = .ok (.aload 16, 2) := by decide +kernel
theorem dL_works_784 : decode cL_works 784 = .ok (.invokestatic 22, 3) := by decide +kernel
theorem dL_works_787 : decode cL_works 787 = .ok (.istore 17, 2) := by decide +kernel
theorem dL_works_789 : decode cL_works 789 = .ok (.aload_n 3, 1) := by decide +kernel
theorem dL_works_790 : decode cL_works 790 = .ok (.aload 4, 2) := by decide +kernel
theorem dL_works_792 : decode cL_works 792 = .ok (.aload 5, 2) := by decide +kernel
theorem dL_works_794 : decode cL_works 794 = .ok (.aload 6, 2) := by decide +kernel
theorem dL_works_796 : decode cL_works 796 = .ok (.aload 7, 2) := by decide +kernel
theorem dL_works_798 : decode cL_works 798 = .ok (.aload 9, 2) := by decide +kernel
theorem dL_works_800 : decode cL_works 800 = .ok (.iload 10, 2) := by decide +kernel
theorem dL_works_802 : decode cL_works 802 = .ok (.aload 14, 2) := by decide +kernel
theorem dL_works_804 : decode cL_works 804 = .ok (.invokestatic 151, 3) := by decide +kernel
theorem dL_works_807 : decode cL_works 807 = .ok (.pop, 1) := by decide +kernel
theorem dL_works_808 : decode cL_works 808 = .ok (.iconst 0, 1) := by decide +kernel
theorem dL_works_809 : decode cL_works 809 = .ok (.istore 18, 2) := by decide +kernel
theorem dL_works_811 : decode cL_works 811 = .ok (.iload 18, 2) := by decide +kernel
theorem dL_works_813 : decode cL_works 813 = .ok (.iload 17, 2) := by decide +kernel
theorem dL_works_815 : decode cL_works 815 = .ok (.if_icmp .ge 88, 3) := by decide +kernel
theorem dL_works_818 : decode cL_works 818 = .ok (.aload 6, 2) := by decide +kernel
theorem dL_works_820 : decode cL_works 820 = .ok (.iconst 4, 1) := by decide +kernel
theorem dL_works_821 : decode cL_works 821 = .ok (.iload 10, 2) := by decide +kernel
theorem dL_works_823 : decode cL_works 823 = .ok (.iadd, 1) := by decide +kernel
theorem dL_works_824 : decode cL_works 824 = .ok (.iaload, 1) := by decide +kernel
theorem dL_works_825 : decode cL_works 825 = .ok (.bipush 12, 2) := by decide +kernel
theorem dL_works_827 : decode cL_works 827 = .ok (.if_icmp .ge 76, 3) := by decide +kernel
theorem dL_works_830 : decode cL_works 830 = .ok (.aload 4, 2) := by decide +kernel
theorem dL_works_832 : decode cL_works 832 = .ok (.aload 5, 2) := by decide +kernel
theorem dL_works_834 : decode cL_works 834 = .ok (.aload 6, 2) := by decide +kernel
theorem dL_works_836 : decode cL_works 836 = .ok (.iload 10, 2) := by decide +kernel
theorem dL_works_838 : decode cL_works 838 = .ok (.aload 7, 2) := by decide +kernel
theorem dL_works_840 : decode cL_works 840 = .ok (.bipush 20, 2) := by decide +kernel
theorem dL_works_842 : decode cL_works 842 = .ok (.aload 14, 2) := by decide +kernel
theorem dL_works_844 : decode cL_works 844 = .ok (.iload 18, 2) := by decide +kernel
theorem dL_works_846 : decode cL_works 846 = .ok (.iaload, 1) := by decide +kernel
theorem dL_works_847 : decode cL_works 847 = .ok (.iadd, 1) := by decide +kernel
theorem dL_works_848 : decode cL_works 848 = .ok (.iaload, 1) := by decide +kernel
theorem dL_works_849 : decode cL_works 849 = .ok (.invokestatic 139, 3) := by decide +kernel
theorem dL_works_852 : decode cL_works 852 = .ok (.pop, 1) := by decide +kernel
theorem dL_works_853 : decode cL_works 853 = .ok (.aload 9, 2) := by decide +kernel
theorem dL_works_855 : decode cL_works 855 = .ok (.aload 14, 2) := by decide +kernel
theorem dL_works_857 : decode cL_works 857 = .ok (.iload 18, 2) := by decide +kernel
theorem dL_works_859 : decode cL_works 859 = .ok (.iaload, 1) := by decide +kernel
theorem dL_works_860 : decode cL_works 860 = .ok (.iconst 1, 1) := by decide +kernel
theorem dL_works_861 : decode cL_works 861 = .ok (.iastore, 1) := by decide +kernel
theorem dL_works_862 : decode cL_works 862 = .ok (.aload_n 3, 1) := by decide +kernel
theorem dL_works_863 : decode cL_works 863 = .ok (.iconst 3, 1) := by decide +kernel
theorem dL_works_864 : decode cL_works 864 = .ok (.dup2, 1) := by decide +kernel
theorem dL_works_865 : decode cL_works 865 = .ok (.iaload, 1) := by decide +kernel
theorem dL_works_866 : decode cL_works 866 = .ok (.iconst 1, 1) := by decide +kernel
theorem dL_works_867 : decode cL_works 867 = .ok (.iadd, 1) := by decide +kernel
theorem dL_works_868 : decode cL_works 868 = .ok (.iastore, 1) := by decide +kernel
theorem dL_works_869 : decode cL_works 869 = .ok (.iload 15, 2) := by decide +kernel
theorem dL_works_871 : decode cL_works 871 = .ok (.aload 6, 2) := by decide +kernel
theorem dL_works_873 : decode cL_works 873 = .ok (.iconst 2, 1) := by decide +kernel
theorem dL_works_874 : decode cL_works 874 = .ok (.iload 10, 2) := by decide +kernel
theorem dL_works_876 : decode cL_works 876 = .ok (.iadd, 1) := by decide +kernel
theorem dL_works_877 : decode cL_works 877 = .ok (.iaload, 1) := by decide +kernel
theorem dL_works_878 : decode cL_works 878 = .ok (.aload 8, 2) := by decide +kernel
theorem dL_works_880 : decode cL_works 880 = .ok (.aload 14, 2) := by decide +kernel
theorem dL_works_882 : decode cL_works 882 = .ok (.iload 18, 2) := by decide +kernel
theorem dL_works_884 : decode cL_works 884 = .ok (.iaload, 1) := by decide +kernel
theorem dL_works_885 : decode cL_works 885 = .ok (.iaload, 1) := by decide +kernel
theorem dL_works_886 : decode cL_works 886 = .ok (.if_icmp .le 7, 3) := by decide +kernel
theorem dL_works_889 : decode cL_works 889 = .ok (.iconst 1, 1) := by decide +kernel
theorem dL_works_890 : decode cL_works 890 = .ok (.goto 4, 3) := by decide +kernel
theorem dL_works_893 : decode cL_works 893 = .ok (.iconst 0, 1) := by decide +kernel
theorem dL_works_894 : decode cL_works 894 = .ok (.iadd, 1) := by decide +kernel
theorem dL_works_895 : decode cL_works 895 = .ok (.istore 15, 2) := by decide +kernel
theorem dL_works_897 : decode cL_works 897 = .ok (.iinc 18 1, 3) := by decide +kernel
theorem dL_works_900 : decode cL_works 900 = .ok (.goto (-89), 3) := by decide +kernel
theorem dL_works_903 : decode cL_works 903 = .ok (.aload_n 0, 1) := by decide +kernel
theorem dL_works_904 : decode cL_works 904 = .ok (.iconst 2, 1) := by decide +kernel
theorem dL_works_905 : decode cL_works 905 = .ok (.iload 10, 2) := by decide +kernel
theorem dL_works_907 : decode cL_works 907 = .ok (.invokestatic 128, 3) := by decide +kernel
theorem dL_works_910 : decode cL_works 910 = .ok (.iload 15, 2) := by decide +kernel
theorem dL_works_912 : decode cL_works 912 = .ok (.if_icmp .ne 7, 3) := by decide +kernel
theorem dL_works_915 : decode cL_works 915 = .ok (.iconst 1, 1) := by decide +kernel
theorem dL_works_916 : decode cL_works 916 = .ok (.goto 4, 3) := by decide +kernel
theorem dL_works_919 : decode cL_works 919 = .ok (.iconst 0, 1) := by decide +kernel
theorem dL_works_920 : decode cL_works 920 = .ok (.ireturn, 1) := by decide +kernel
set_option maxRecDepth 20000 in
theorem ggL_tells_L_listed : GoodIn wsL_tells wsL_listed := goodIn_r _ [6] (by decide +kernel) (by decide +kernel)
set_option maxRecDepth 20000 in
theorem gL_tells_L_listed : GoodIn wsL_tells (va_wsS RL 22 yL_listed wsL_listed) := goodIn_app (goodIn_of _ (by decide +kernel)) ggL_tells_L_listed
set_option maxRecDepth 20000 in
theorem ggL_tells_L_told : GoodIn wsL_tells wsL_told := goodIn_ca (goodIn_r _ [9, 10, 11, 12, 13, 14, 15, 16, 17, 18, 19, 20, 21, 22, 23, 24, 25, 26, 27, 28, 29, 30, 31, 32, 33, 34, 35, 36, 37, 38, 39, 40, 41, 42, 43, 44, 45, 46, 47, 48, 49, 50, 51, 52, 53, 54, 55, 56, 57, 58, 59, 60, 61, 62, 63, 64, 65, 66, 67, 68, 69, 70, 71, 72, 73, 74, 75, 76, 77, 78, 79, 80, 81, 82, 83, 84, 85, 86, 87, 88, 112, 113, 114, 115, 116, 117, 118, 119, 120, 121, 122, 123, 124, 125, 126, 127, 128, 129, 130, 131, 132, 133, 134, 135, 136, 137] (by decide +kernel) (by decide +kernel)) (goodIn_sub (fun _ h => List.mem_cons_of_mem _ (List.mem_append_right _ h)) (by decide +kernel))
set_option maxRecDepth 20000 in
theorem gL_tells_L_told : GoodIn wsL_tells (va_wsS RL 155 yL_told wsL_told) := goodIn_app (goodIn_of _ (by decide +kernel)) ggL_tells_L_told
set_option maxRecDepth 20000 in
theorem ggL_tells_L_some : GoodIn wsL_tells wsL_some := goodIn_r _ [91] (by decide +kernel) (by decide +kernel)
set_option maxRecDepth 20000 in
theorem gL_tells_L_some : GoodIn wsL_tells (va_wsS RL 106 yL_some wsL_some) := goodIn_app (goodIn_of _ (by decide +kernel)) ggL_tells_L_some
set_option maxRecDepth 20000 in
theorem ggL_tells_L_start : GoodIn wsL_tells wsL_start := goodIn_r _ [94] (by decide +kernel) (by decide +kernel)
set_option maxRecDepth 20000 in
theorem gL_tells_L_start : GoodIn wsL_tells (va_wsS RL 15 yL_start wsL_start) := goodIn_app (goodIn_of _ (by decide +kernel)) ggL_tells_L_start
set_option maxRecDepth 20000 in
theorem ggL_tells_L_lies : GoodIn wsL_tells wsL_lies := goodIn_r _ [97] (by decide +kernel) (by decide +kernel)
set_option maxRecDepth 20000 in
theorem gL_tells_L_lies : GoodIn wsL_tells (va_wsS RL 9 yL_lies wsL_lies) := goodIn_app (goodIn_of _ (by decide +kernel)) ggL_tells_L_lies
set_option maxRecDepth 20000 in
theorem ggL_tells_X4_next : GoodIn wsL_tells wsX4_next := goodIn_r _ [101, 22, 69, 23, 24, 25, 26, 27, 70, 71, 72, 73, 74, 75, 43, 14, 44, 102, 103, 104, 105, 106, 107, 58, 59, 60, 120, 121, 122, 123, 124, 125, 112, 113, 114, 115, 116, 117, 118, 119, 126, 127, 128, 129, 130] (by decide +kernel) (by decide +kernel)
set_option maxRecDepth 20000 in
theorem gL_tells_X4_next : GoodIn wsL_tells (wsV RL 158 RX4 yX4_next wsX4_next) := goodIn_app (goodIn_of _ (by decide +kernel)) ggL_tells_X4_next
set_option maxRecDepth 20000 in
theorem ggL_tells_X4_done : GoodIn wsL_tells wsX4_done := goodIn_r _ [111, 69, 120, 121, 122, 123, 124, 125, 126, 127, 128, 129, 130] (by decide +kernel) (by decide +kernel)
set_option maxRecDepth 20000 in
theorem gL_tells_X4_done : GoodIn wsL_tells (wsV RL 161 RX4 yX4_done wsX4_done) := goodIn_app (goodIn_of _ (by decide +kernel)) ggL_tells_X4_done
theorem dL_tells_0 : decode cL_tells 0 = .ok (.bipush 20, 2) := by decide +kernel
theorem dL_tells_2 : decode cL_tells 2 = .ok (.newarray .int, 2) := by decide +kernel
theorem dL_tells_4 : decode cL_tells 4 = .ok (.astore 9, 2) := by decide +kernel
theorem dL_tells_6 : decode cL_tells 6 = .ok (.iconst (-1), 1) := by decide +kernel
theorem dL_tells_7 : decode cL_tells 7 = .ok (.istore 10, 2) := by decide +kernel
theorem dL_tells_9 : decode cL_tells 9 = .ok (.iconst 0, 1) := by decide +kernel
theorem dL_tells_10 : decode cL_tells 10 = .ok (.istore 11, 2) := by decide +kernel
theorem dL_tells_12 : decode cL_tells 12 = .ok (.iconst 0, 1) := by decide +kernel
theorem dL_tells_13 : decode cL_tells 13 = .ok (.istore 12, 2) := by decide +kernel
theorem dL_tells_15 : decode cL_tells 15 = .ok (.iconst 0, 1) := by decide +kernel
theorem dL_tells_16 : decode cL_tells 16 = .ok (.istore 13, 2) := by decide +kernel
theorem dL_tells_18 : decode cL_tells 18 = .ok (.iload 13, 2) := by decide +kernel
theorem dL_tells_20 : decode cL_tells 20 = .ok (.aload_n 2, 1) := by decide +kernel
theorem dL_tells_21 : decode cL_tells 21 = .ok (.iconst 0, 1) := by decide +kernel
theorem dL_tells_22 : decode cL_tells 22 = .ok (.iaload, 1) := by decide +kernel
theorem dL_tells_23 : decode cL_tells 23 = .ok (.if_icmp .gt 391, 3) := by decide +kernel
theorem dL_tells_26 : decode cL_tells 26 = .ok (.iload 13, 2) := by decide +kernel
theorem dL_tells_28 : decode cL_tells 28 = .ok (.aload_n 2, 1) := by decide +kernel
theorem dL_tells_29 : decode cL_tells 29 = .ok (.iconst 0, 1) := by decide +kernel

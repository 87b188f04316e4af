theorem dL_law_87 : decode cL_law 87 = .ok (.invokestatic 220, 3) := by decide +kernel
theorem dL_law_90 : decode cL_law 90 = .ok (.ldc 52, 2) := by decide +kernel
theorem dL_law_92 : decode cL_law 92 = .ok (.if_icmp .ne 116, 3) := by decide +kernel
theorem dL_law_95 : decode cL_law 95 = .ok (.aload_n 3, 1) := by decide +kernel
theorem dL_law_96 : decode cL_law 96 = .ok (.iconst 1, 1) := by decide +kernel
theorem dL_law_97 : decode cL_law 97 = .ok (.invokestatic 222, 3) := by decide +kernel
theorem dL_law_100 : decode cL_law 100 = .ok (.ldc 42, 2) := by decide +kernel
theorem dL_law_102 : decode cL_law 102 = .ok (.if_icmp .ne 106, 3) := by decide +kernel
theorem dL_law_105 : decode cL_law 105 = .ok (.aload_n 3, 1) := by decide +kernel
theorem dL_law_106 : decode cL_law 106 = .ok (.iconst 0, 1) := by decide +kernel
theorem dL_law_107 : decode cL_law 107 = .ok (.invokestatic 222, 3) := by decide +kernel
theorem dL_law_110 : decode cL_law 110 = .ok (.ifCond .ne 98, 3) := by decide +kernel
theorem dL_law_113 : decode cL_law 113 = .ok (.aload_n 3, 1) := by decide +kernel
theorem dL_law_114 : decode cL_law 114 = .ok (.invokevirtual 224, 3) := by decide +kernel
theorem dL_law_117 : decode cL_law 117 = .ok (.ifCond .ne 91, 3) := by decide +kernel
theorem dL_law_120 : decode cL_law 120 = .ok (.aload_n 3, 1) := by decide +kernel
theorem dL_law_121 : decode cL_law 121 = .ok (.iconst 5, 1) := by decide +kernel
theorem dL_law_122 : decode cL_law 122 = .ok (.iconst 0, 1) := by decide +kernel
theorem dL_law_123 : decode cL_law 123 = .ok (.invokestatic 227, 3) := by decide +kernel
theorem dL_law_126 : decode cL_law 126 = .ok (.ldc 42, 2) := by decide +kernel
theorem dL_law_128 : decode cL_law 128 = .ok (.if_icmp .ne 80, 3) := by decide +kernel
theorem dL_law_131 : decode cL_law 131 = .ok (.aload_n 3, 1) := by decide +kernel
theorem dL_law_132 : decode cL_law 132 = .ok (.iconst 1, 1) := by decide +kernel
theorem dL_law_133 : decode cL_law 133 = .ok (.iconst 1, 1) := by decide +kernel
theorem dL_law_134 : decode cL_law 134 = .ok (.iconst 0, 1) := by decide +kernel
theorem dL_law_135 : decode cL_law 135 = .ok (.iconst 0, 1) := by decide +kernel
theorem dL_law_136 : decode cL_law 136 = .ok (.invokestatic 229, 3) := by decide +kernel
theorem dL_law_139 : decode cL_law 139 = .ok (.ldc 42, 2) := by decide +kernel
theorem dL_law_141 : decode cL_law 141 = .ok (.if_icmp .ne 67, 3) := by decide +kernel
theorem dL_law_144 : decode cL_law 144 = .ok (.aload_n 3, 1) := by decide +kernel
theorem dL_law_145 : decode cL_law 145 = .ok (.iconst 0, 1) := by decide +kernel
theorem dL_law_146 : decode cL_law 146 = .ok (.bipush 10, 2) := by decide +kernel
theorem dL_law_148 : decode cL_law 148 = .ok (.iconst 0, 1) := by decide +kernel
theorem dL_law_149 : decode cL_law 149 = .ok (.iconst 0, 1) := by decide +kernel
theorem dL_law_150 : decode cL_law 150 = .ok (.invokestatic 229, 3) := by decide +kernel
theorem dL_law_153 : decode cL_law 153 = .ok (.ldc 42, 2) := by decide +kernel
theorem dL_law_155 : decode cL_law 155 = .ok (.if_icmp .ne 53, 3) := by decide +kernel
theorem dL_law_158 : decode cL_law 158 = .ok (.aload_n 3, 1) := by decide +kernel
theorem dL_law_159 : decode cL_law 159 = .ok (.iconst 0, 1) := by decide +kernel
theorem dL_law_160 : decode cL_law 160 = .ok (.iconst 3, 1) := by decide +kernel
theorem dL_law_161 : decode cL_law 161 = .ok (.bipush 7, 2) := by decide +kernel
theorem dL_law_163 : decode cL_law 163 = .ok (.bipush 9, 2) := by decide +kernel
theorem dL_law_165 : decode cL_law 165 = .ok (.invokestatic 229, 3) := by decide +kernel
theorem dL_law_168 : decode cL_law 168 = .ok (.iconst 1, 1) := by decide +kernel
theorem dL_law_169 : decode cL_law 169 = .ok (.if_icmp .ne 39, 3) := by decide +kernel
theorem dL_law_172 : decode cL_law 172 = .ok (.aload_n 3, 1) := by decide +kernel
theorem dL_law_173 : decode cL_law 173 = .ok (.iconst 4, 1) := by decide +kernel
theorem dL_law_174 : decode cL_law 174 = .ok (.invokestatic 186, 3) := by decide +kernel
theorem dL_law_177 : decode cL_law 177 = .ok (.iconst 1, 1) := by decide +kernel
theorem dL_law_178 : decode cL_law 178 = .ok (.if_icmp .ne 30, 3) := by decide +kernel
theorem dL_law_181 : decode cL_law 181 = .ok (.aload_n 3, 1) := by decide +kernel
theorem dL_law_182 : decode cL_law 182 = .ok (.invokevirtual 215, 3) := by decide +kernel
theorem dL_law_185 : decode cL_law 185 = .ok (.iconst 2, 1) := by decide +kernel
theorem dL_law_186 : decode cL_law 186 = .ok (.if_icmp .ne 22, 3) := by decide +kernel
theorem dL_law_189 : decode cL_law 189 = .ok (.aload_n 3, 1) := by decide +kernel
theorem dL_law_190 : decode cL_law 190 = .ok (.invokevirtual 215, 3) := by decide +kernel
theorem dL_law_193 : decode cL_law 193 = .ok (.iconst 1, 1) := by decide +kernel
theorem dL_law_194 : decode cL_law 194 = .ok (.if_icmp .ne 14, 3) := by decide +kernel
theorem dL_law_197 : decode cL_law 197 = .ok (.aload_n 3, 1) := by decide +kernel
theorem dL_law_198 : decode cL_law 198 = .ok (.invokevirtual 215, 3) := by decide +kernel
theorem dL_law_201 : decode cL_law 201 = .ok (.ifCond .ne 7, 3) := by decide +kernel
theorem dL_law_204 : decode cL_law 204 = .ok (.iconst 1, 1) := by decide +kernel
theorem dL_law_205 : decode cL_law 205 = .ok (.goto 4, 3) := by decide +kernel
theorem dL_law_208 : decode cL_law 208 = .ok (.iconst 0, 1) := by decide +kernel
theorem dL_law_209 : decode cL_law 209 = .ok (.istore_n 1, 1) := by decide +kernel
theorem dL_law_210 : decode cL_law 210 = .ok (.aload_n 3, 1) := by decide +kernel
theorem dL_law_211 : decode cL_law 211 = .ok (.aload 4, 2) := by decide +kernel
theorem dL_law_213 : decode cL_law 213 = .ok (.aload 5, 2) := by decide +kernel
theorem dL_law_215 : decode cL_law 215 = .ok (.invokestatic 232, 3) := by decide +kernel
theorem dL_law_218 : decode cL_law 218 = .ok (.astore 6, 2) := by decide +kernel
theorem dL_law_220 : decode cL_law 220 = .ok (.aload 6, 2) := by decide +kernel
theorem dL_law_222 : decode cL_law 222 = .ok (.ifnonnull 5, 3) := by decide +kernel
theorem dL_law_225 : decode cL_law 225 = .ok (.iconst 0, 1) := by decide +kernel
theorem dL_law_226 : decode cL_law 226 = .ok (.ireturn, 1) := by decide +kernel
theorem dL_law_227 : decode cL_law 227 = .ok (.iload_n 1, 1) := by decide +kernel
theorem dL_law_228 : decode cL_law 228 = .ok (.ifCond .eq 16, 3) := by decide +kernel
theorem dL_law_231 : decode cL_law 231 = .ok (.aload_n 3, 1) := by decide +kernel
theorem dL_law_232 : decode cL_law 232 = .ok (.aload 6, 2) := by decide +kernel
theorem dL_law_234 : decode cL_law 234 = .ok (.invokestatic 208, 3) := by decide +kernel
theorem dL_law_237 : decode cL_law 237 = .ok (.ifCond .eq 7, 3) := by decide +kernel
theorem dL_law_240 : decode cL_law 240 = .ok (.iconst 1, 1) := by decide +kernel
theorem dL_law_241 : decode cL_law 241 = .ok (.goto 4, 3) := by decide +kernel
theorem dL_law_244 : decode cL_law 244 = .ok (.iconst 0, 1) := by decide +kernel
theorem dL_law_245 : decode cL_law 245 = .ok (.istore_n 1, 1) := by decide +kernel
theorem dL_law_246 : decode cL_law 246 = .ok (.bipush 9, 2) := by decide +kernel
theorem dL_law_248 : decode cL_law 248 = .ok (.anewarray 111, 3) := by decide +kernel
theorem dL_law_251 : decode cL_law 251 = .ok (.astore 7, 2) := by decide +kernel
theorem dL_law_253 : decode cL_law 253 = .ok (.iconst 0, 1) := by decide +kernel
theorem dL_law_254 : decode cL_law 254 = .ok (.istore 8, 2) := by decide +kernel
theorem dL_law_256 : decode cL_law 256 = .ok (.iconst 0, 1) := by decide +kernel
theorem dL_law_257 : decode cL_law 257 = .ok (.istore 9, 2) := by decide +kernel
theorem dL_law_259 : decode cL_law 259 = .ok (.iload 9, 2) := by decide +kernel
theorem dL_law_261 : decode cL_law 261 = .ok (.bipush 18, 2) := by decide +kernel
theorem dL_law_263 : decode cL_law 263 = .ok (.if_icmp .ge 854, 3) := by decide +kernel
theorem dL_law_266 : decode cL_law 266 = .ok (.iload_n 1, 1) := by decide +kernel
theorem dL_law_267 : decode cL_law 267 = .ok (.ifCond .eq 850, 3) := by decide +kernel
theorem dL_law_270 : decode cL_law 270 = .ok (.aload 6, 2) := by decide +kernel
theorem dL_law_272 : decode cL_law 272 = .ok (.invokevirtual 236, 3) := by decide +kernel
theorem dL_law_275 : decode cL_law 275 = .ok (.astore 10, 2) := by decide +kernel
theorem dL_law_277 : decode cL_law 277 = .ok (.iconst 1, 1) := by decide +kernel
theorem dL_law_278 : decode cL_law 278 = .ok (.istore 11, 2) := by decide +kernel
theorem dL_law_280 : decode cL_law 280 = .ok (.aload 5, 2) := by decide +kernel
theorem dL_law_282 : decode cL_law 282 = .ok (.aload 6, 2) := by decide +kernel
theorem dL_law_284 : decode cL_law 284 = .ok (.getfield 188, 3) := by decide +kernel
theorem dL_law_287 : decode cL_law 287 = .ok (.arraylength, 1) := by decide +kernel
theorem dL_law_288 : decode cL_law 288 = .ok (.iconst 1, 1) := by decide +kernel
theorem dL_law_289 : decode cL_law 289 = .ok (.iadd, 1) := by decide +kernel
theorem dL_law_290 : decode cL_law 290 = .ok (.invokevirtual 114, 3) := by decide +kernel
theorem dL_law_293 : decode cL_law 293 = .ok (.istore 12, 2) := by decide +kernel
theorem dL_law_295 : decode cL_law 295 = .ok (.iload 12, 2) := by decide +kernel
theorem dL_law_297 : decode cL_law 297 = .ok (.aload 6, 2) := by decide +kernel
theorem dL_law_299 : decode cL_law 299 = .ok (.getfield 188, 3) := by decide +kernel
theorem dL_law_302 : decode cL_law 302 = .ok (.arraylength, 1) := by decide +kernel
theorem dL_law_303 : decode cL_law 303 = .ok (.if_icmp .ge 7, 3) := by decide +kernel
theorem dL_law_306 : decode cL_law 306 = .ok (.iconst 1, 1) := by decide +kernel
theorem dL_law_307 : decode cL_law 307 = .ok (.goto 4, 3) := by decide +kernel
theorem dL_law_310 : decode cL_law 310 = .ok (.iconst 0, 1) := by decide +kernel
theorem dL_law_311 : decode cL_law 311 = .ok (.istore 13, 2) := by decide +kernel
theorem dL_law_313 : decode cL_law 313 = .ok (.aload 5, 2) := by decide +kernel
theorem dL_law_315 : decode cL_law 315 = .ok (.bipush 8, 2) := by decide +kernel
theorem dL_law_317 : decode cL_law 317 = .ok (.invokevirtual 114, 3) := by decide +kernel
theorem dL_law_320 : decode cL_law 320 = .ok (.tableswitch 637 0 6 #[44, 44, 204, 364, 539, 539, 609], 44) := by decide +kernel
theorem dL_law_364 : decode cL_law 364 = .ok (.iload 13, 2) := by decide +kernel
theorem dL_law_366 : decode cL_law 366 = .ok (.ifCond .eq 21, 3) := by decide +kernel
theorem dL_law_369 : decode cL_law 369 = .ok (.aload 6, 2) := by decide +kernel
theorem dL_law_371 : decode cL_law 371 = .ok (.getfield 188, 3) := by decide +kernel
theorem dL_law_374 : decode cL_law 374 = .ok (.iload 12, 2) := by decide +kernel
theorem dL_law_376 : decode cL_law 376 = .ok (.aaload, 1) := by decide +kernel
theorem dL_law_377 : decode cL_law 377 = .ok (.getfield 147, 3) := by decide +kernel
theorem dL_law_380 : decode cL_law 380 = .ok (.ifCond .eq 7, 3) := by decide +kernel
theorem dL_law_383 : decode cL_law 383 = .ok (.iconst 1, 1) := by decide +kernel
theorem dL_law_384 : decode cL_law 384 = .ok (.goto 4, 3) := by decide +kernel
theorem dL_law_387 : decode cL_law 387 = .ok (.iconst 0, 1) := by decide +kernel
theorem dL_law_388 : decode cL_law 388 = .ok (.istore 14, 2) := by decide +kernel
theorem dL_law_390 : decode cL_law 390 = .ok (.iload 13, 2) := by decide +kernel
theorem dL_law_392 : decode cL_law 392 = .ok (.ifCond .eq 35, 3) := by decide +kernel
theorem dL_law_395 : decode cL_law 395 = .ok (.aload 6, 2) := by decide +kernel
theorem dL_law_397 : decode cL_law 397 = .ok (.getfield 188, 3) := by decide +kernel
theorem dL_law_400 : decode cL_law 400 = .ok (.iload 12, 2) := by decide +kernel
theorem dL_law_402 : decode cL_law 402 = .ok (.aaload, 1) := by decide +kernel
theorem dL_law_403 : decode cL_law 403 = .ok (.getfield 151, 3) := by decide +kernel
theorem dL_law_406 : decode cL_law 406 = .ok (.ifCond .eq 21, 3) := by decide +kernel
theorem dL_law_409 : decode cL_law 409 = .ok (.iload 14, 2) := by decide +kernel
theorem dL_law_411 : decode cL_law 411 = .ok (.ifCond .eq 12, 3) := by decide +kernel
theorem dL_law_414 : decode cL_law 414 = .ok (.aload 6, 2) := by decide +kernel
theorem dL_law_416 : decode cL_law 416 = .ok (.invokevirtual 195, 3) := by decide +kernel
theorem dL_law_419 : decode cL_law 419 = .ok (.iconst 4, 1) := by decide +kernel
theorem dL_law_420 : decode cL_law 420 = .ok (.if_icmp .ge 7, 3) := by decide +kernel
theorem dL_law_423 : decode cL_law 423 = .ok (.iconst 1, 1) := by decide +kernel
theorem dL_law_424 : decode cL_law 424 = .ok (.goto 4, 3) := by decide +kernel
theorem dL_law_427 : decode cL_law 427 = .ok (.iconst 0, 1) := by decide +kernel
theorem dL_law_428 : decode cL_law 428 = .ok (.istore 11, 2) := by decide +kernel
theorem dL_law_430 : decode cL_law 430 = .ok (.iload 13, 2) := by decide +kernel
theorem dL_law_432 : decode cL_law 432 = .ok (.ifCond .eq 20, 3) := by decide +kernel
theorem dL_law_435 : decode cL_law 435 = .ok (.iload 14, 2) := by decide +kernel
theorem dL_law_437 : decode cL_law 437 = .ok (.ifCond .eq 15, 3) := by decide +kernel
theorem dL_law_440 : decode cL_law 440 = .ok (.aload 6, 2) := by decide +kernel
theorem dL_law_442 : decode cL_law 442 = .ok (.invokevirtual 195, 3) := by decide +kernel
theorem dL_law_445 : decode cL_law 445 = .ok (.iconst 4, 1) := by decide +kernel
theorem dL_law_446 : decode cL_law 446 = .ok (.if_icmp .lt 6, 3) := by decide +kernel
theorem dL_law_449 : decode cL_law 449 = .ok (.goto 602, 3) := by decide +kernel
theorem dL_law_452 : decode cL_law 452 = .ok (.iload 11, 2) := by decide +kernel
theorem dL_law_454 : decode cL_law 454 = .ok (.ifCond .eq 27, 3) := by decide +kernel
theorem dL_law_457 : decode cL_law 457 = .ok (.aload 6, 2) := by decide +kernel
theorem dL_law_459 : decode cL_law 459 = .ok (.getfield 188, 3) := by decide +kernel
theorem dL_law_462 : decode cL_law 462 = .ok (.iload 12, 2) := by decide +kernel
theorem dL_law_464 : decode cL_law 464 = .ok (.aaload, 1) := by decide +kernel
theorem dL_law_465 : decode cL_law 465 = .ok (.iconst 0, 1) := by decide +kernel
theorem dL_law_466 : decode cL_law 466 = .ok (.putfield 151, 3) := by decide +kernel
theorem dL_law_469 : decode cL_law 469 = .ok (.aload 6, 2) := by decide +kernel
theorem dL_law_471 : decode cL_law 471 = .ok (.getfield 188, 3) := by decide +kernel
theorem dL_law_474 : decode cL_law 474 = .ok (.iload 12, 2) := by decide +kernel
theorem dL_law_476 : decode cL_law 476 = .ok (.aaload, 1) := by decide +kernel
theorem dL_law_477 : decode cL_law 477 = .ok (.iconst 0, 1) := by decide +kernel
theorem dL_law_478 : decode cL_law 478 = .ok (.putfield 240, 3) := by decide +kernel
theorem dL_law_481 : decode cL_law 481 = .ok (.aload_n 3, 1) := by decide +kernel
theorem dL_law_482 : decode cL_law 482 = .ok (.iload 12, 2) := by decide +kernel
theorem dL_law_484 : decode cL_law 484 = .ok (.invokestatic 218, 3) := by decide +kernel
theorem dL_law_487 : decode cL_law 487 = .ok (.iload 11, 2) := by decide +kernel
theorem dL_law_489 : decode cL_law 489 = .ok (.ifCond .eq 11, 3) := by decide +kernel
theorem dL_law_492 : decode cL_law 492 = .ok (.aload 6, 2) := by decide +kernel
theorem dL_law_494 : decode cL_law 494 = .ok (.invokevirtual 195, 3) := by decide +kernel
theorem dL_law_497 : decode cL_law 497 = .ok (.goto 15, 3) := by decide +kernel
theorem dL_law_500 : decode cL_law 500 = .ok (.iload 13, 2) := by decide +kernel
theorem dL_law_502 : decode cL_law 502 = .ok (.ifCond .eq 8, 3) := by decide +kernel
theorem dL_law_505 : decode cL_law 505 = .ok (.ldc 88, 2) := by decide +kernel
theorem dL_law_507 : decode cL_law 507 = .ok (.goto 5, 3) := by decide +kernel
theorem dL_law_510 : decode cL_law 510 = .ok (.ldc 52, 2) := by decide +kernel
theorem dL_law_512 : decode cL_law 512 = .ok (.if_icmp .ne 7, 3) := by decide +kernel
theorem dL_law_515 : decode cL_law 515 = .ok (.iconst 1, 1) := by decide +kernel
theorem dL_law_516 : decode cL_law 516 = .ok (.goto 4, 3) := by decide +kernel
theorem dL_law_519 : decode cL_law 519 = .ok (.iconst 0, 1) := by decide +kernel
theorem dL_law_520 : decode cL_law 520 = .ok (.istore_n 1, 1) := by decide +kernel
theorem dL_law_521 : decode cL_law 521 = .ok (.goto 530, 3) := by decide +kernel
theorem dL_law_524 : decode cL_law 524 = .ok (.iload 13, 2) := by decide +kernel
theorem dL_law_526 : decode cL_law 526 = .ok (.ifCond .eq 21, 3) := by decide +kernel
theorem dL_law_529 : decode cL_law 529 = .ok (.aload 6, 2) := by decide +kernel
theorem dL_law_531 : decode cL_law 531 = .ok (.getfield 188, 3) := by decide +kernel
theorem dL_law_534 : decode cL_law 534 = .ok (.iload 12, 2) := by decide +kernel
theorem dL_law_536 : decode cL_law 536 = .ok (.aaload, 1) := by decide +kernel
theorem dL_law_537 : decode cL_law 537 = .ok (.getfield 147, 3) := by decide +kernel
theorem dL_law_540 : decode cL_law 540 = .ok (.ifCond .ne 7, 3) := by decide +kernel
theorem dL_law_543 : decode cL_law 543 = .ok (.iconst 1, 1) := by decide +kernel
theorem dL_law_544 : decode cL_law 544 = .ok (.goto 4, 3) := by decide +kernel
theorem dL_law_547 : decode cL_law 547 = .ok (.iconst 0, 1) := by decide +kernel
theorem dL_law_548 : decode cL_law 548 = .ok (.istore 15, 2) := by decide +kernel
theorem dL_law_550 : decode cL_law 550 = .ok (.iload 13, 2) := by decide +kernel
theorem dL_law_552 : decode cL_law 552 = .ok (.ifCond .eq 35, 3) := by decide +kernel
theorem dL_law_555 : decode cL_law 555 = .ok (.aload 6, 2) := by decide +kernel
theorem dL_law_557 : decode cL_law 557 = .ok (.getfield 188, 3) := by decide +kernel
theorem dL_law_560 : decode cL_law 560 = .ok (.iload 12, 2) := by decide +kernel
theorem dL_law_562 : decode cL_law 562 = .ok (.aaload, 1) := by decide +kernel
theorem dL_law_563 : decode cL_law 563 = .ok (.getfield 151, 3) := by decide +kernel
theorem dL_law_566 : decode cL_law 566 = .ok (.ifCond .ne 21, 3) := by decide +kernel
theorem dL_law_569 : decode cL_law 569 = .ok (.iload 15, 2) := by decide +kernel
theorem dL_law_571 : decode cL_law 571 = .ok (.ifCond .eq 12, 3) := by decide +kernel
theorem dL_law_574 : decode cL_law 574 = .ok (.aload 6, 2) := by decide +kernel
theorem dL_law_576 : decode cL_law 576 = .ok (.invokevirtual 195, 3) := by decide +kernel
theorem dL_law_579 : decode cL_law 579 = .ok (.iconst 4, 1) := by decide +kernel
theorem dL_law_580 : decode cL_law 580 = .ok (.if_icmp .ge 7, 3) := by decide +kernel
theorem dL_law_583 : decode cL_law 583 = .ok (.iconst 1, 1) := by decide +kernel
theorem dL_law_584 : decode cL_law 584 = .ok (.goto 4, 3) := by decide +kernel
theorem dL_law_587 : decode cL_law 587 = .ok (.iconst 0, 1) := by decide +kernel
theorem dL_law_588 : decode cL_law 588 = .ok (.istore 11, 2) := by decide +kernel
theorem dL_law_590 : decode cL_law 590 = .ok (.iload 13, 2) := by decide +kernel
theorem dL_law_592 : decode cL_law 592 = .ok (.ifCond .eq 20, 3) := by decide +kernel
theorem dL_law_595 : decode cL_law 595 = .ok (.iload 15, 2) := by decide +kernel
theorem dL_law_597 : decode cL_law 597 = .ok (.ifCond .eq 15, 3) := by decide +kernel
theorem dL_law_600 : decode cL_law 600 = .ok (.aload 6, 2) := by decide +kernel
theorem dL_law_602 : decode cL_law 602 = .ok (.invokevirtual 195, 3) := by decide +kernel
theorem dL_law_605 : decode cL_law 605 = .ok (.iconst 4, 1) := by decide +kernel
theorem dL_law_606 : decode cL_law 606 = .ok (.if_icmp .lt 6, 3) := by decide +kernel
theorem dL_law_609 : decode cL_law 609 = .ok (.goto 442, 3) := by decide +kernel
theorem dL_law_612 : decode cL_law 612 = .ok (.iload 11, 2) := by decide +kernel
theorem dL_law_614 : decode cL_law 614 = .ok (.ifCond .eq 27, 3) := by decide +kernel
theorem dL_law_617 : decode cL_law 617 = .ok (.aload 6, 2) := by decide +kernel
theorem dL_law_619 : decode cL_law 619 = .ok (.getfield 188, 3) := by decide +kernel
theorem dL_law_622 : decode cL_law 622 = .ok (.iload 12, 2) := by decide +kernel
theorem dL_law_624 : decode cL_law 624 = .ok (.aaload, 1) := by decide +kernel
theorem dL_law_625 : decode cL_law 625 = .ok (.iconst 1, 1) := by decide +kernel
theorem dL_law_626 : decode cL_law 626 = .ok (.putfield 151, 3) := by decide +kernel
theorem dL_law_629 : decode cL_law 629 = .ok (.aload 6, 2) := by decide +kernel
theorem dL_law_631 : decode cL_law 631 = .ok (.getfield 188, 3) := by decide +kernel
theorem dL_law_634 : decode cL_law 634 = .ok (.iload 12, 2) := by decide +kernel
theorem dL_law_636 : decode cL_law 636 = .ok (.aaload, 1) := by decide +kernel
theorem dL_law_637 : decode cL_law 637 = .ok (.iconst 0, 1) := by decide +kernel
theorem dL_law_638 : decode cL_law 638 = .ok (.putfield 240, 3) := by decide +kernel
theorem dL_law_641 : decode cL_law 641 = .ok (.aload_n 3, 1) := by decide +kernel
theorem dL_law_642 : decode cL_law 642 = .ok (.iload 12, 2) := by decide +kernel
theorem dL_law_644 : decode cL_law 644 = .ok (.invokestatic 220, 3) := by decide +kernel
theorem dL_law_647 : decode cL_law 647 = .ok (.iload 11, 2) := by decide +kernel
theorem dL_law_649 : decode cL_law 649 = .ok (.ifCond .eq 11, 3) := by decide +kernel
theorem dL_law_652 : decode cL_law 652 = .ok (.aload 6, 2) := by decide +kernel
theorem dL_law_654 : decode cL_law 654 = .ok (.invokevirtual 195, 3) := by decide +kernel
theorem dL_law_657 : decode cL_law 657 = .ok (.goto 15, 3) := by decide +kernel
theorem dL_law_660 : decode cL_law 660 = .ok (.iload 13, 2) := by decide +kernel
theorem dL_law_662 : decode cL_law 662 = .ok (.ifCond .eq 8, 3) := by decide +kernel
theorem dL_law_665 : decode cL_law 665 = .ok (.ldc 88, 2) := by decide +kernel
theorem dL_law_667 : decode cL_law 667 = .ok (.goto 5, 3) := by decide +kernel
theorem dL_law_670 : decode cL_law 670 = .ok (.ldc 52, 2) := by decide +kernel
theorem dL_law_672 : decode cL_law 672 = .ok (.if_icmp .ne 7, 3) := by decide +kernel
theorem dL_law_675 : decode cL_law 675 = .ok (.iconst 1, 1) := by decide +kernel
theorem dL_law_676 : decode cL_law 676 = .ok (.goto 4, 3) := by decide +kernel
theorem dL_law_679 : decode cL_law 679 = .ok (.iconst 0, 1) := by decide +kernel
theorem dL_law_680 : decode cL_law 680 = .ok (.istore_n 1, 1) := by decide +kernel
theorem dL_law_681 : decode cL_law 681 = .ok (.goto 370, 3) := by decide +kernel
theorem dL_law_684 : decode cL_law 684 = .ok (.new 131, 3) := by decide +kernel
theorem dL_law_687 : decode cL_law 687 = .ok (.dup, 1) := by decide +kernel
theorem dL_law_688 : decode cL_law 688 = .ok (.invokespecial 133, 3) := by decide +kernel
theorem dL_law_691 : decode cL_law 691 = .ok (.astore 16, 2) := by decide +kernel
theorem dL_law_693 : decode cL_law 693 = .ok (.aload 16, 2) := by decide +kernel
theorem dL_law_695 : decode cL_law 695 = .ok (.iconst 1, 1) := by decide +kernel
theorem dL_law_696 : decode cL_law 696 = .ok (.aload 5, 2) := by decide +kernel
theorem dL_law_698 : decode cL_law 698 = .ok (.iconst 5, 1) := by decide +kernel
theorem dL_law_699 : decode cL_law 699 = .ok (.invokevirtual 114, 3) := by decide +kernel
theorem dL_law_702 : decode cL_law 702 = .ok (.iadd, 1) := by decide +kernel
theorem dL_law_703 : decode cL_law 703 = .ok (.putfield 139, 3) := by decide +kernel
theorem dL_law_706 : decode cL_law 706 = .ok (.aload 16, 2) := by decide +kernel
theorem dL_law_708 : decode cL_law 708 = .ok (.aload 5, 2) := by decide +kernel
theorem dL_law_710 : decode cL_law 710 = .ok (.bipush 60, 2) := by decide +kernel
theorem dL_law_712 : decode cL_law 712 = .ok (.invokevirtual 114, 3) := by decide +kernel
theorem dL_law_715 : decode cL_law 715 = .ok (.putfield 142, 3) := by decide +kernel
theorem dL_law_718 : decode cL_law 718 = .ok (.aload 16, 2) := by decide +kernel
theorem dL_law_720 : decode cL_law 720 = .ok (.aload 5, 2) := by decide +kernel
theorem dL_law_722 : decode cL_law 722 = .ok (.iconst 3, 1) := by decide +kernel
theorem dL_law_723 : decode cL_law 723 = .ok (.invokevirtual 114, 3) := by decide +kernel
theorem dL_law_726 : decode cL_law 726 = .ok (.putfield 145, 3) := by decide +kernel
theorem dL_law_729 : decode cL_law 729 = .ok (.aload 16, 2) := by decide +kernel
theorem dL_law_731 : decode cL_law 731 = .ok (.iconst 1, 1) := by decide +kernel
theorem dL_law_732 : decode cL_law 732 = .ok (.putfield 151, 3) := by decide +kernel
theorem dL_law_735 : decode cL_law 735 = .ok (.aload 16, 2) := by decide +kernel
theorem dL_law_737 : decode cL_law 737 = .ok (.getfield 139, 3) := by decide +kernel
theorem dL_law_740 : decode cL_law 740 = .ok (.aload 6, 2) := by decide +kernel
theorem dL_law_742 : decode cL_law 742 = .ok (.getfield 119, 3) := by decide +kernel
theorem dL_law_745 : decode cL_law 745 = .ok (.if_icmp .gt 27, 3) := by decide +kernel
theorem dL_law_748 : decode cL_law 748 = .ok (.aload 6, 2) := by decide +kernel
theorem dL_law_750 : decode cL_law 750 = .ok (.getfield 188, 3) := by decide +kernel
theorem dL_law_753 : decode cL_law 753 = .ok (.arraylength, 1) := by decide +kernel
theorem dL_law_754 : decode cL_law 754 = .ok (.bipush 10, 2) := by decide +kernel
theorem dL_law_756 : decode cL_law 756 = .ok (.if_icmp .ge 16, 3) := by decide +kernel
theorem dL_law_759 : decode cL_law 759 = .ok (.aload 6, 2) := by decide +kernel
theorem dL_law_761 : decode cL_law 761 = .ok (.invokevirtual 195, 3) := by decide +kernel
theorem dL_law_764 : decode cL_law 764 = .ok (.iconst 4, 1) := by decide +kernel
theorem dL_law_765 : decode cL_law 765 = .ok (.if_icmp .ge 7, 3) := by decide +kernel
theorem dL_law_768 : decode cL_law 768 = .ok (.iconst 1, 1) := by decide +kernel
theorem dL_law_769 : decode cL_law 769 = .ok (.goto 4, 3) := by decide +kernel
theorem dL_law_772 : decode cL_law 772 = .ok (.iconst 0, 1) := by decide +kernel
theorem dL_law_773 : decode cL_law 773 = .ok (.istore 11, 2) := by decide +kernel
theorem dL_law_775 : decode cL_law 775 = .ok (.iload 11, 2) := by decide +kernel
theorem dL_law_777 : decode cL_law 777 = .ok (.ifCond .ne 19, 3) := by decide +kernel
theorem dL_law_780 : decode cL_law 780 = .ok (.aload 16, 2) := by decide +kernel
theorem dL_law_782 : decode cL_law 782 = .ok (.getfield 139, 3) := by decide +kernel
theorem dL_law_785 : decode cL_law 785 = .ok (.aload 6, 2) := by decide +kernel
theorem dL_law_787 : decode cL_law 787 = .ok (.getfield 119, 3) := by decide +kernel
theorem dL_law_790 : decode cL_law 790 = .ok (.if_icmp .gt 6, 3) := by decide +kernel
theorem dL_law_793 : decode cL_law 793 = .ok (.goto 258, 3) := by decide +kernel
theorem dL_law_796 : decode cL_law 796 = .ok (.iload 11, 2) := by decide +kernel
theorem dL_law_798 : decode cL_law 798 = .ok (.ifCond .eq 12, 3) := by decide +kernel
theorem dL_law_801 : decode cL_law 801 = .ok (.aload 6, 2) := by decide +kernel
theorem dL_law_803 : decode cL_law 803 = .ok (.iload 12, 2) := by decide +kernel
theorem dL_law_805 : decode cL_law 805 = .ok (.aload 16, 2) := by decide +kernel
theorem dL_law_807 : decode cL_law 807 = .ok (.invokevirtual 158, 3) := by decide +kernel
theorem dL_law_810 : decode cL_law 810 = .ok (.aload_n 3, 1) := by decide +kernel
theorem dL_law_811 : decode cL_law 811 = .ok (.iload 12, 2) := by decide +kernel
theorem dL_law_813 : decode cL_law 813 = .ok (.aload 16, 2) := by decide +kernel
theorem dL_law_815 : decode cL_law 815 = .ok (.getfield 139, 3) := by decide +kernel
theorem dL_law_818 : decode cL_law 818 = .ok (.aload 16, 2) := by decide +kernel
theorem dL_law_820 : decode cL_law 820 = .ok (.getfield 142, 3) := by decide +kernel
theorem dL_law_823 : decode cL_law 823 = .ok (.aload 16, 2) := by decide +kernel
theorem dL_law_825 : decode cL_law 825 = .ok (.getfield 145, 3) := by decide +kernel
theorem dL_law_828 : decode cL_law 828 = .ok (.invokestatic 229, 3) := by decide +kernel
theorem dL_law_831 : decode cL_law 831 = .ok (.iload 11, 2) := by decide +kernel
theorem dL_law_833 : decode cL_law 833 = .ok (.ifCond .eq 12, 3) := by decide +kernel
theorem dL_law_836 : decode cL_law 836 = .ok (.aload 6, 2) := by decide +kernel
theorem dL_law_838 : decode cL_law 838 = .ok (.getfield 188, 3) := by decide +kernel
theorem dL_law_841 : decode cL_law 841 = .ok (.arraylength, 1) := by decide +kernel
theorem dL_law_842 : decode cL_law 842 = .ok (.goto 5, 3) := by decide +kernel
theorem dL_law_845 : decode cL_law 845 = .ok (.ldc 42, 2) := by decide +kernel
theorem dL_law_847 : decode cL_law 847 = .ok (.if_icmp .ne 7, 3) := by decide +kernel
theorem dL_law_850 : decode cL_law 850 = .ok (.iconst 1, 1) := by decide +kernel
theorem dL_law_851 : decode cL_law 851 = .ok (.goto 4, 3) := by decide +kernel
theorem dL_law_854 : decode cL_law 854 = .ok (.iconst 0, 1) := by decide +kernel
theorem dL_law_855 : decode cL_law 855 = .ok (.istore_n 1, 1) := by decide +kernel
theorem dL_law_856 : decode cL_law 856 = .ok (.goto 195, 3) := by decide +kernel
theorem dL_law_859 : decode cL_law 859 = .ok (.aload 5, 2) := by decide +kernel
theorem dL_law_861 : decode cL_law 861 = .ok (.iconst 1, 1) := by decide +kernel
theorem dL_law_862 : decode cL_law 862 = .ok (.aload 6, 2) := by decide +kernel
theorem dL_law_864 : decode cL_law 864 = .ok (.invokevirtual 195, 3) := by decide +kernel
theorem dL_law_867 : decode cL_law 867 = .ok (.ishl, 1) := by decide +kernel
theorem dL_law_868 : decode cL_law 868 = .ok (.iconst 1, 1) := by decide +kernel
theorem dL_law_869 : decode cL_law 869 = .ok (.iadd, 1) := by decide +kernel
theorem dL_law_870 : decode cL_law 870 = .ok (.invokevirtual 114, 3) := by decide +kernel
theorem dL_law_873 : decode cL_law 873 = .ok (.istore 17, 2) := by decide +kernel
theorem dL_law_875 : decode cL_law 875 = .ok (.iload 17, 2) := by decide +kernel
theorem dL_law_877 : decode cL_law 877 = .ok (.iconst 1, 1) := by decide +kernel
theorem dL_law_878 : decode cL_law 878 = .ok (.aload 6, 2) := by decide +kernel
theorem dL_law_880 : decode cL_law 880 = .ok (.invokevirtual 195, 3) := by decide +kernel
theorem dL_law_883 : decode cL_law 883 = .ok (.ishl, 1) := by decide +kernel
theorem dL_law_884 : decode cL_law 884 = .ok (.if_icmp .ge 7, 3) := by decide +kernel
theorem dL_law_887 : decode cL_law 887 = .ok (.iconst 1, 1) := by decide +kernel
theorem dL_law_888 : decode cL_law 888 = .ok (.goto 4, 3) := by decide +kernel
theorem dL_law_891 : decode cL_law 891 = .ok (.iconst 0, 1) := by decide +kernel
theorem dL_law_892 : decode cL_law 892 = .ok (.istore 11, 2) := by decide +kernel
theorem dL_law_894 : decode cL_law 894 = .ok (.aload_n 3, 1) := by decide +kernel
theorem dL_law_895 : decode cL_law 895 = .ok (.iload 17, 2) := by decide +kernel
theorem dL_law_897 : decode cL_law 897 = .ok (.invokestatic 222, 3) := by decide +kernel
theorem dL_law_900 : decode cL_law 900 = .ok (.iload 11, 2) := by decide +kernel
theorem dL_law_902 : decode cL_law 902 = .ok (.ifCond .eq 13, 3) := by decide +kernel
theorem dL_law_905 : decode cL_law 905 = .ok (.aload 6, 2) := by decide +kernel
theorem dL_law_907 : decode cL_law 907 = .ok (.iload 17, 2) := by decide +kernel
theorem dL_law_909 : decode cL_law 909 = .ok (.invokevirtual 243, 3) := by decide +kernel
theorem dL_law_912 : decode cL_law 912 = .ok (.goto 5, 3) := by decide +kernel
theorem dL_law_915 : decode cL_law 915 = .ok (.ldc 42, 2) := by decide +kernel
theorem dL_law_917 : decode cL_law 917 = .ok (.if_icmp .ne 7, 3) := by decide +kernel
theorem dL_law_920 : decode cL_law 920 = .ok (.iconst 1, 1) := by decide +kernel
theorem dL_law_921 : decode cL_law 921 = .ok (.goto 4, 3) := by decide +kernel
theorem dL_law_924 : decode cL_law 924 = .ok (.iconst 0, 1) := by decide +kernel
theorem dL_law_925 : decode cL_law 925 = .ok (.istore_n 1, 1) := by decide +kernel
theorem dL_law_926 : decode cL_law 926 = .ok (.goto 125, 3) := by decide +kernel
theorem dL_law_929 : decode cL_law 929 = .ok (.aload_n 3, 1) := by decide +kernel
theorem dL_law_930 : decode cL_law 930 = .ok (.invokevirtual 224, 3) := by decide +kernel
theorem dL_law_933 : decode cL_law 933 = .ok (.aload 6, 2) := by decide +kernel
theorem dL_law_935 : decode cL_law 935 = .ok (.aload 6, 2) := by decide +kernel
theorem dL_law_937 : decode cL_law 937 = .ok (.iconst 0, 1) := by decide +kernel
theorem dL_law_938 : decode cL_law 938 = .ok (.iconst (-1), 1) := by decide +kernel
theorem dL_law_939 : decode cL_law 939 = .ok (.invokevirtual 246, 3) := by decide +kernel
theorem dL_law_942 : decode cL_law 942 = .ok (.invokevirtual 243, 3) := by decide +kernel
theorem dL_law_945 : decode cL_law 945 = .ok (.if_icmp .ne 7, 3) := by decide +kernel
theorem dL_law_948 : decode cL_law 948 = .ok (.iconst 1, 1) := by decide +kernel
theorem dL_law_949 : decode cL_law 949 = .ok (.goto 4, 3) := by decide +kernel
theorem dL_law_952 : decode cL_law 952 = .ok (.iconst 0, 1) := by decide +kernel
theorem dL_law_953 : decode cL_law 953 = .ok (.istore_n 1, 1) := by decide +kernel
theorem dL_law_954 : decode cL_law 954 = .ok (.goto 97, 3) := by decide +kernel
theorem dL_law_957 : decode cL_law 957 = .ok (.aload 5, 2) := by decide +kernel
theorem dL_law_959 : decode cL_law 959 = .ok (.bipush 6, 2) := by decide +kernel
theorem dL_law_961 : decode cL_law 961 = .ok (.invokevirtual 114, 3) := by decide +kernel
theorem dL_law_964 : decode cL_law 964 = .ok (.istore 18, 2) := by decide +kernel
theorem dL_law_966 : decode cL_law 966 = .ok (.aload 5, 2) := by decide +kernel
theorem dL_law_968 : decode cL_law 968 = .ok (.bipush 30, 2) := by decide +kernel
theorem dL_law_970 : decode cL_law 970 = .ok (.invokevirtual 114, 3) := by decide +kernel
theorem dL_law_973 : decode cL_law 973 = .ok (.istore 19, 2) := by decide +kernel
theorem dL_law_975 : decode cL_law 975 = .ok (.iload 18, 2) := by decide +kernel
theorem dL_law_977 : decode cL_law 977 = .ok (.iconst 5, 1) := by decide +kernel
theorem dL_law_978 : decode cL_law 978 = .ok (.if_icmp .ge 7, 3) := by decide +kernel
theorem dL_law_981 : decode cL_law 981 = .ok (.iconst 1, 1) := by decide +kernel
theorem dL_law_982 : decode cL_law 982 = .ok (.goto 4, 3) := by decide +kernel
theorem dL_law_985 : decode cL_law 985 = .ok (.iconst 0, 1) := by decide +kernel
theorem dL_law_986 : decode cL_law 986 = .ok (.istore 11, 2) := by decide +kernel
theorem dL_law_988 : decode cL_law 988 = .ok (.iload 11, 2) := by decide +kernel
theorem dL_law_990 : decode cL_law 990 = .ok (.ifCond .eq 14, 3) := by decide +kernel
theorem dL_law_993 : decode cL_law 993 = .ok (.aload 6, 2) := by decide +kernel
theorem dL_law_995 : decode cL_law 995 = .ok (.getfield 167, 3) := by decide +kernel
theorem dL_law_998 : decode cL_law 998 = .ok (.iload 18, 2) := by decide +kernel
theorem dL_law_1000 : decode cL_law 1000 = .ok (.iaload, 1) := by decide +kernel
theorem dL_law_1001 : decode cL_law 1001 = .ok (.goto 4, 3) := by decide +kernel
theorem dL_law_1004 : decode cL_law 1004 = .ok (.iconst 0, 1) := by decide +kernel
theorem dL_law_1005 : decode cL_law 1005 = .ok (.istore 20, 2) := by decide +kernel
theorem dL_law_1007 : decode cL_law 1007 = .ok (.iload 11, 2) := by decide +kernel
theorem dL_law_1009 : decode cL_law 1009 = .ok (.ifCond .eq 13, 3) := by decide +kernel
theorem dL_law_1012 : decode cL_law 1012 = .ok (.aload 6, 2) := by decide +kernel
theorem dL_law_1014 : decode cL_law 1014 = .ok (.getfield 167, 3) := by decide +kernel
theorem dL_law_1017 : decode cL_law 1017 = .ok (.iload 18, 2) := by decide +kernel
theorem dL_law_1019 : decode cL_law 1019 = .ok (.iload 19, 2) := by decide +kernel
theorem dL_law_1021 : decode cL_law 1021 = .ok (.iastore, 1) := by decide +kernel
theorem dL_law_1022 : decode cL_law 1022 = .ok (.aload_n 3, 1) := by decide +kernel
theorem dL_law_1023 : decode cL_law 1023 = .ok (.iload 18, 2) := by decide +kernel
theorem dL_law_1025 : decode cL_law 1025 = .ok (.iload 19, 2) := by decide +kernel
theorem dL_law_1027 : decode cL_law 1027 = .ok (.invokestatic 227, 3) := by decide +kernel
theorem dL_law_1030 : decode cL_law 1030 = .ok (.iload 11, 2) := by decide +kernel
theorem dL_law_1032 : decode cL_law 1032 = .ok (.ifCond .eq 8, 3) := by decide +kernel
theorem dL_law_1035 : decode cL_law 1035 = .ok (.iload 20, 2) := by decide +kernel
theorem dL_law_1037 : decode cL_law 1037 = .ok (.goto 5, 3) := by decide +kernel
theorem dL_law_1040 : decode cL_law 1040 = .ok (.ldc 42, 2) := by decide +kernel
theorem dL_law_1042 : decode cL_law 1042 = .ok (.if_icmp .ne 7, 3) := by decide +kernel
theorem dL_law_1045 : decode cL_law 1045 = .ok (.iconst 1, 1) := by decide +kernel
theorem dL_law_1046 : decode cL_law 1046 = .ok (.goto 4, 3) := by decide +kernel
theorem dL_law_1049 : decode cL_law 1049 = .ok (.iconst 0, 1) := by decide +kernel
theorem dL_law_1050 : decode cL_law 1050 = .ok (.istore_n 1, 1) := by decide +kernel
theorem dL_law_1051 : decode cL_law 1051 = .ok (.iload 11, 2) := by decide +kernel
theorem dL_law_1053 : decode cL_law 1053 = .ok (.ifCond .eq 39, 3) := by decide +kernel
theorem dL_law_1056 : decode cL_law 1056 = .ok (.bipush 8, 2) := by decide +kernel
theorem dL_law_1058 : decode cL_law 1058 = .ok (.istore 14, 2) := by decide +kernel
theorem dL_law_1060 : decode cL_law 1060 = .ok (.iload 14, 2) := by decide +kernel
theorem dL_law_1062 : decode cL_law 1062 = .ok (.ifCond .le 21, 3) := by decide +kernel
theorem dL_law_1065 : decode cL_law 1065 = .ok (.aload 7, 2) := by decide +kernel
theorem dL_law_1067 : decode cL_law 1067 = .ok (.iload 14, 2) := by decide +kernel
theorem dL_law_1069 : decode cL_law 1069 = .ok (.aload 7, 2) := by decide +kernel
theorem dL_law_1071 : decode cL_law 1071 = .ok (.iload 14, 2) := by decide +kernel
theorem dL_law_1073 : decode cL_law 1073 = .ok (.iconst 1, 1) := by decide +kernel
theorem dL_law_1074 : decode cL_law 1074 = .ok (.isub, 1) := by decide +kernel
theorem dL_law_1075 : decode cL_law 1075 = .ok (.aaload, 1) := by decide +kernel
theorem dL_law_1076 : decode cL_law 1076 = .ok (.aastore, 1) := by decide +kernel
theorem dL_law_1077 : decode cL_law 1077 = .ok (.iinc 14 (-1), 3) := by decide +kernel
theorem dL_law_1080 : decode cL_law 1080 = .ok (.goto (-20), 3) := by decide +kernel
theorem dL_law_1083 : decode cL_law 1083 = .ok (.aload 7, 2) := by decide +kernel
theorem dL_law_1085 : decode cL_law 1085 = .ok (.iconst 0, 1) := by decide +kernel
theorem dL_law_1086 : decode cL_law 1086 = .ok (.aload 10, 2) := by decide +kernel
theorem dL_law_1088 : decode cL_law 1088 = .ok (.aastore, 1) := by decide +kernel
theorem dL_law_1089 : decode cL_law 1089 = .ok (.iinc 8 1, 3) := by decide +kernel
theorem dL_law_1092 : decode cL_law 1092 = .ok (.iload_n 1, 1) := by decide +kernel
theorem dL_law_1093 : decode cL_law 1093 = .ok (.ifCond .eq 16, 3) := by decide +kernel
theorem dL_law_1096 : decode cL_law 1096 = .ok (.aload_n 3, 1) := by decide +kernel
theorem dL_law_1097 : decode cL_law 1097 = .ok (.aload 6, 2) := by decide +kernel
theorem dL_law_1099 : decode cL_law 1099 = .ok (.invokestatic 208, 3) := by decide +kernel
theorem dL_law_1102 : decode cL_law 1102 = .ok (.ifCond .eq 7, 3) := by decide +kernel
theorem dL_law_1105 : decode cL_law 1105 = .ok (.iconst 1, 1) := by decide +kernel
theorem dL_law_1106 : decode cL_law 1106 = .ok (.goto 4, 3) := by decide +kernel
theorem dL_law_1109 : decode cL_law 1109 = .ok (.iconst 0, 1) := by decide +kernel
theorem dL_law_1110 : decode cL_law 1110 = .ok (.istore_n 1, 1) := by decide +kernel
theorem dL_law_1111 : decode cL_law 1111 = .ok (.iinc 9 1, 3) := by decide +kernel
theorem dL_law_1114 : decode cL_law 1114 = .ok (.goto (-855), 3) := by decide +kernel
theorem dL_law_1117 : decode cL_law 1117 = .ok (.iconst 0, 1) := by decide +kernel
theorem dL_law_1118 : decode cL_law 1118 = .ok (.istore 9, 2) := by decide +kernel
theorem dL_law_1120 : decode cL_law 1120 = .ok (.iload 9, 2) := by decide +kernel
theorem dL_law_1122 : decode cL_law 1122 = .ok (.bipush 8, 2) := by decide +kernel
theorem dL_law_1124 : decode cL_law 1124 = .ok (.if_icmp .ge 45, 3) := by decide +kernel
theorem dL_law_1127 : decode cL_law 1127 = .ok (.iload 9, 2) := by decide +kernel
theorem dL_law_1129 : decode cL_law 1129 = .ok (.iload 8, 2) := by decide +kernel
theorem dL_law_1131 : decode cL_law 1131 = .ok (.if_icmp .ge 38, 3) := by decide +kernel
theorem dL_law_1134 : decode cL_law 1134 = .ok (.iload_n 1, 1) := by decide +kernel
theorem dL_law_1135 : decode cL_law 1135 = .ok (.ifCond .eq 34, 3) := by decide +kernel
theorem dL_law_1138 : decode cL_law 1138 = .ok (.aload_n 3, 1) := by decide +kernel
theorem dL_law_1139 : decode cL_law 1139 = .ok (.invokevirtual 215, 3) := by decide +kernel
theorem dL_law_1142 : decode cL_law 1142 = .ok (.ifCond .lt 19, 3) := by decide +kernel
theorem dL_law_1145 : decode cL_law 1145 = .ok (.aload_n 3, 1) := by decide +kernel
theorem dL_law_1146 : decode cL_law 1146 = .ok (.aload 7, 2) := by decide +kernel
theorem dL_law_1148 : decode cL_law 1148 = .ok (.iload 9, 2) := by decide +kernel
theorem dL_law_1150 : decode cL_law 1150 = .ok (.aaload, 1) := by decide +kernel
theorem dL_law_1151 : decode cL_law 1151 = .ok (.invokestatic 208, 3) := by decide +kernel
theorem dL_law_1154 : decode cL_law 1154 = .ok (.ifCond .eq 7, 3) := by decide +kernel
theorem dL_law_1157 : decode cL_law 1157 = .ok (.iconst 1, 1) := by decide +kernel
theorem dL_law_1158 : decode cL_law 1158 = .ok (.goto 4, 3) := by decide +kernel
theorem dL_law_1161 : decode cL_law 1161 = .ok (.iconst 0, 1) := by decide +kernel
theorem dL_law_1162 : decode cL_law 1162 = .ok (.istore_n 1, 1) := by decide +kernel
theorem dL_law_1163 : decode cL_law 1163 = .ok (.iinc 9 1, 3) := by decide +kernel
theorem dL_law_1166 : decode cL_law 1166 = .ok (.goto (-46), 3) := by decide +kernel
theorem dL_law_1169 : decode cL_law 1169 = .ok (.iload_n 1, 1) := by decide +kernel
theorem dL_law_1170 : decode cL_law 1170 = .ok (.ifCond .eq 92, 3) := by decide +kernel
theorem dL_law_1173 : decode cL_law 1173 = .ok (.aload_n 3, 1) := by decide +kernel
theorem dL_law_1174 : decode cL_law 1174 = .ok (.iconst 1, 1) := by decide +kernel
theorem dL_law_1175 : decode cL_law 1175 = .ok (.invokestatic 19, 3) := by decide +kernel
theorem dL_law_1178 : decode cL_law 1178 = .ok (.ldc 42, 2) := by decide +kernel
theorem dL_law_1180 : decode cL_law 1180 = .ok (.if_icmp .ne 82, 3) := by decide +kernel
theorem dL_law_1183 : decode cL_law 1183 = .ok (.aload_n 3, 1) := by decide +kernel
theorem dL_law_1184 : decode cL_law 1184 = .ok (.iconst (-1), 1) := by decide +kernel
theorem dL_law_1185 : decode cL_law 1185 = .ok (.iconst 0, 1) := by decide +kernel
theorem dL_law_1186 : decode cL_law 1186 = .ok (.invokestatic 249, 3) := by decide +kernel
theorem dL_law_1189 : decode cL_law 1189 = .ok (.ldc 52, 2) := by decide +kernel
theorem dL_law_1191 : decode cL_law 1191 = .ok (.if_icmp .ne 71, 3) := by decide +kernel
theorem dL_law_1194 : decode cL_law 1194 = .ok (.aload_n 3, 1) := by decide +kernel
theorem dL_law_1195 : decode cL_law 1195 = .ok (.iconst 0, 1) := by decide +kernel
theorem dL_law_1196 : decode cL_law 1196 = .ok (.invokestatic 251, 3) := by decide +kernel
theorem dL_law_1199 : decode cL_law 1199 = .ok (.ldc 64, 2) := by decide +kernel
theorem dL_law_1201 : decode cL_law 1201 = .ok (.if_icmp .ne 61, 3) := by decide +kernel
theorem dL_law_1204 : decode cL_law 1204 = .ok (.aload_n 3, 1) := by decide +kernel
theorem dL_law_1205 : decode cL_law 1205 = .ok (.bipush 24, 2) := by decide +kernel
theorem dL_law_1207 : decode cL_law 1207 = .ok (.invokestatic 253, 3) := by decide +kernel
theorem dL_law_1210 : decode cL_law 1210 = .ok (.ldc 52, 2) := by decide +kernel
theorem dL_law_1212 : decode cL_law 1212 = .ok (.if_icmp .ne 50, 3) := by decide +kernel
theorem dL_law_1215 : decode cL_law 1215 = .ok (.aload_n 3, 1) := by decide +kernel
theorem dL_law_1216 : decode cL_law 1216 = .ok (.iconst (-1), 1) := by decide +kernel
theorem dL_law_1217 : decode cL_law 1217 = .ok (.invokestatic 255, 3) := by decide +kernel
theorem dL_law_1220 : decode cL_law 1220 = .ok (.ldc 64, 2) := by decide +kernel
theorem dL_law_1222 : decode cL_law 1222 = .ok (.if_icmp .ne 40, 3) := by decide +kernel
theorem dL_law_1225 : decode cL_law 1225 = .ok (.aload_n 3, 1) := by decide +kernel
theorem dL_law_1226 : decode cL_law 1226 = .ok (.bipush 10, 2) := by decide +kernel
theorem dL_law_1228 : decode cL_law 1228 = .ok (.iconst 0, 1) := by decide +kernel
theorem dL_law_1229 : decode cL_law 1229 = .ok (.invokestatic 257, 3) := by decide +kernel
theorem dL_law_1232 : decode cL_law 1232 = .ok (.ldc 42, 2) := by decide +kernel
theorem dL_law_1234 : decode cL_law 1234 = .ok (.if_icmp .ne 28, 3) := by decide +kernel
theorem dL_law_1237 : decode cL_law 1237 = .ok (.aload_n 3, 1) := by decide +kernel
theorem dL_law_1238 : decode cL_law 1238 = .ok (.iconst (-1), 1) := by decide +kernel
theorem dL_law_1239 : decode cL_law 1239 = .ok (.invokestatic 259, 3) := by decide +kernel
theorem dL_law_1242 : decode cL_law 1242 = .ok (.ldc 64, 2) := by decide +kernel
theorem dL_law_1244 : decode cL_law 1244 = .ok (.if_icmp .ne 18, 3) := by decide +kernel
theorem dL_law_1247 : decode cL_law 1247 = .ok (.aload_n 3, 1) := by decide +kernel
theorem dL_law_1248 : decode cL_law 1248 = .ok (.iconst (-1), 1) := by decide +kernel
theorem dL_law_1249 : decode cL_law 1249 = .ok (.iconst 0, 1) := by decide +kernel
theorem dL_law_1250 : decode cL_law 1250 = .ok (.invokestatic 261, 3) := by decide +kernel
theorem dL_law_1253 : decode cL_law 1253 = .ok (.ldc 42, 2) := by decide +kernel
theorem dL_law_1255 : decode cL_law 1255 = .ok (.if_icmp .ne 7, 3) := by decide +kernel
theorem dL_law_1258 : decode cL_law 1258 = .ok (.iconst 1, 1) := by decide +kernel
theorem dL_law_1259 : decode cL_law 1259 = .ok (.goto 4, 3) := by decide +kernel
theorem dL_law_1262 : decode cL_law 1262 = .ok (.iconst 0, 1) := by decide +kernel
theorem dL_law_1263 : decode cL_law 1263 = .ok (.istore_n 1, 1) := by decide +kernel
theorem dL_law_1264 : decode cL_law 1264 = .ok (.iinc 2 1, 3) := by decide +kernel
theorem dL_law_1267 : decode cL_law 1267 = .ok (.goto (-1263), 3) := by decide +kernel
theorem dL_law_1270 : decode cL_law 1270 = .ok (.iload_n 1, 1) := by decide +kernel
theorem dL_law_1271 : decode cL_law 1271 = .ok (.ireturn, 1) := by decide +kernel

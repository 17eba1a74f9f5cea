theorem dL_holds_127 : decode cL_holds 127 = .ok (.if_icmp .ge 7, 3) := by decide +kernel
theorem dL_holds_130 : decode cL_holds 130 = .ok (.iconst 1, 1) := by decide +kernel
theorem dL_holds_131 : decode cL_holds 131 = .ok (.goto 4, 3) := by decide +kernel
theorem dL_holds_134 : decode cL_holds 134 = .ok (.iconst 2, 1) := by decide +kernel
theorem dL_holds_135 : decode cL_holds 135 = .ok (.if_icmp .ne 135, 3) := by decide +kernel
theorem dL_holds_138 : decode cL_holds 138 = .ok (.aload_n 0, 1) := by decide +kernel
theorem dL_holds_139 : decode cL_holds 139 = .ok (.iload 8, 2) := by decide +kernel
theorem dL_holds_141 : decode cL_holds 141 = .ok (.iload 7, 2) := by decide +kernel
theorem dL_holds_143 : decode cL_holds 143 = .ok (.invokestatic 114, 3) := by decide +kernel
theorem dL_holds_146 : decode cL_holds 146 = .ok (.aload_n 0, 1) := by decide +kernel
theorem dL_holds_147 : decode cL_holds 147 = .ok (.iload 4, 2) := by decide +kernel
theorem dL_holds_149 : decode cL_holds 149 = .ok (.invokestatic 95, 3) := by decide +kernel
theorem dL_holds_152 : decode cL_holds 152 = .ok (.if_icmp .lt 118, 3) := by decide +kernel
theorem dL_holds_155 : decode cL_holds 155 = .ok (.aload_n 0, 1) := by decide +kernel
theorem dL_holds_156 : decode cL_holds 156 = .ok (.iload 8, 2) := by decide +kernel
theorem dL_holds_158 : decode cL_holds 158 = .ok (.iload 7, 2) := by decide +kernel
theorem dL_holds_160 : decode cL_holds 160 = .ok (.invokestatic 117, 3) := by decide +kernel
theorem dL_holds_163 : decode cL_holds 163 = .ok (.aload_n 0, 1) := by decide +kernel
theorem dL_holds_164 : decode cL_holds 164 = .ok (.iload 8, 2) := by decide +kernel
theorem dL_holds_166 : decode cL_holds 166 = .ok (.iload 7, 2) := by decide +kernel
theorem dL_holds_168 : decode cL_holds 168 = .ok (.invokestatic 114, 3) := by decide +kernel
theorem dL_holds_171 : decode cL_holds 171 = .ok (.if_icmp .ne 99, 3) := by decide +kernel
theorem dL_holds_174 : decode cL_holds 174 = .ok (.aload_n 0, 1) := by decide +kernel
theorem dL_holds_175 : decode cL_holds 175 = .ok (.iload 4, 2) := by decide +kernel
theorem dL_holds_177 : decode cL_holds 177 = .ok (.invokestatic 108, 3) := by decide +kernel
theorem dL_holds_180 : decode cL_holds 180 = .ok (.ifCond .lt 90, 3) := by decide +kernel
theorem dL_holds_183 : decode cL_holds 183 = .ok (.iload 9, 2) := by decide +kernel
theorem dL_holds_185 : decode cL_holds 185 = .ok (.ifCond .ne 15, 3) := by decide +kernel
theorem dL_holds_188 : decode cL_holds 188 = .ok (.aload_n 0, 1) := by decide +kernel
theorem dL_holds_189 : decode cL_holds 189 = .ok (.iload 4, 2) := by decide +kernel
theorem dL_holds_191 : decode cL_holds 191 = .ok (.invokestatic 108, 3) := by decide +kernel
theorem dL_holds_194 : decode cL_holds 194 = .ok (.ifCond .ne 76, 3) := by decide +kernel
theorem dL_holds_197 : decode cL_holds 197 = .ok (.goto 69, 3) := by decide +kernel
theorem dL_holds_200 : decode cL_holds 200 = .ok (.iload 4, 2) := by decide +kernel
theorem dL_holds_202 : decode cL_holds 202 = .ok (.ifCond .le 68, 3) := by decide +kernel
theorem dL_holds_205 : decode cL_holds 205 = .ok (.aload_n 0, 1) := by decide +kernel
theorem dL_holds_206 : decode cL_holds 206 = .ok (.iload 4, 2) := by decide +kernel
theorem dL_holds_208 : decode cL_holds 208 = .ok (.invokestatic 104, 3) := by decide +kernel
theorem dL_holds_211 : decode cL_holds 211 = .ok (.aload_n 0, 1) := by decide +kernel
theorem dL_holds_212 : decode cL_holds 212 = .ok (.iload 4, 2) := by decide +kernel
theorem dL_holds_214 : decode cL_holds 214 = .ok (.iconst 1, 1) := by decide +kernel
theorem dL_holds_215 : decode cL_holds 215 = .ok (.isub, 1) := by decide +kernel
theorem dL_holds_216 : decode cL_holds 216 = .ok (.invokestatic 104, 3) := by decide +kernel
theorem dL_holds_219 : decode cL_holds 219 = .ok (.iadd, 1) := by decide +kernel
theorem dL_holds_220 : decode cL_holds 220 = .ok (.iconst 3, 1) := by decide +kernel
theorem dL_holds_221 : decode cL_holds 221 = .ok (.if_icmp .ne 49, 3) := by decide +kernel
theorem dL_holds_224 : decode cL_holds 224 = .ok (.iload 9, 2) := by decide +kernel
theorem dL_holds_226 : decode cL_holds 226 = .ok (.iconst 1, 1) := by decide +kernel
theorem dL_holds_227 : decode cL_holds 227 = .ok (.if_icmp .ne 7, 3) := by decide +kernel
theorem dL_holds_230 : decode cL_holds 230 = .ok (.iconst 1, 1) := by decide +kernel
theorem dL_holds_231 : decode cL_holds 231 = .ok (.goto 4, 3) := by decide +kernel
theorem dL_holds_234 : decode cL_holds 234 = .ok (.iconst 0, 1) := by decide +kernel
theorem dL_holds_235 : decode cL_holds 235 = .ok (.iload 6, 2) := by decide +kernel
theorem dL_holds_237 : decode cL_holds 237 = .ok (.invokestatic 134, 3) := by decide +kernel
theorem dL_holds_240 : decode cL_holds 240 = .ok (.aload_n 0, 1) := by decide +kernel
theorem dL_holds_241 : decode cL_holds 241 = .ok (.iload 4, 2) := by decide +kernel
theorem dL_holds_243 : decode cL_holds 243 = .ok (.iconst 1, 1) := by decide +kernel
theorem dL_holds_244 : decode cL_holds 244 = .ok (.isub, 1) := by decide +kernel
theorem dL_holds_245 : decode cL_holds 245 = .ok (.invokestatic 100, 3) := by decide +kernel
theorem dL_holds_248 : decode cL_holds 248 = .ok (.invokestatic 134, 3) := by decide +kernel
theorem dL_holds_251 : decode cL_holds 251 = .ok (.iadd, 1) := by decide +kernel
theorem dL_holds_252 : decode cL_holds 252 = .ok (.sipush 180, 3) := by decide +kernel
theorem dL_holds_255 : decode cL_holds 255 = .ok (.if_icmp .ge 7, 3) := by decide +kernel
theorem dL_holds_258 : decode cL_holds 258 = .ok (.iconst 1, 1) := by decide +kernel
theorem dL_holds_259 : decode cL_holds 259 = .ok (.goto 4, 3) := by decide +kernel
theorem dL_holds_262 : decode cL_holds 262 = .ok (.iconst 0, 1) := by decide +kernel
theorem dL_holds_263 : decode cL_holds 263 = .ok (.if_icmp .ne 7, 3) := by decide +kernel
theorem dL_holds_266 : decode cL_holds 266 = .ok (.iconst 1, 1) := by decide +kernel
theorem dL_holds_267 : decode cL_holds 267 = .ok (.goto 4, 3) := by decide +kernel
theorem dL_holds_270 : decode cL_holds 270 = .ok (.iconst 0, 1) := by decide +kernel
theorem dL_holds_271 : decode cL_holds 271 = .ok (.istore_n 2, 1) := by decide +kernel
theorem dL_holds_272 : decode cL_holds 272 = .ok (.iinc 4 1, 3) := by decide +kernel
theorem dL_holds_275 : decode cL_holds 275 = .ok (.goto (-268), 3) := by decide +kernel
theorem dL_holds_278 : decode cL_holds 278 = .ok (.iload_n 2, 1) := by decide +kernel
theorem dL_holds_279 : decode cL_holds 279 = .ok (.ifCond .eq 22, 3) := by decide +kernel
theorem dL_holds_282 : decode cL_holds 282 = .ok (.iload_n 3, 1) := by decide +kernel
theorem dL_holds_283 : decode cL_holds 283 = .ok (.aload_n 0, 1) := by decide +kernel
theorem dL_holds_284 : decode cL_holds 284 = .ok (.iconst 1, 1) := by decide +kernel
theorem dL_holds_285 : decode cL_holds 285 = .ok (.invokestatic 129, 3) := by decide +kernel
theorem dL_holds_288 : decode cL_holds 288 = .ok (.aload_n 0, 1) := by decide +kernel
theorem dL_holds_289 : decode cL_holds 289 = .ok (.iconst 2, 1) := by decide +kernel
theorem dL_holds_290 : decode cL_holds 290 = .ok (.invokestatic 129, 3) := by decide +kernel
theorem dL_holds_293 : decode cL_holds 293 = .ok (.iadd, 1) := by decide +kernel
theorem dL_holds_294 : decode cL_holds 294 = .ok (.if_icmp .ne 7, 3) := by decide +kernel
theorem dL_holds_297 : decode cL_holds 297 = .ok (.iconst 1, 1) := by decide +kernel
theorem dL_holds_298 : decode cL_holds 298 = .ok (.goto 4, 3) := by decide +kernel
theorem dL_holds_301 : decode cL_holds 301 = .ok (.iconst 0, 1) := by decide +kernel
theorem dL_holds_302 : decode cL_holds 302 = .ok (.istore_n 2, 1) := by decide +kernel
theorem dL_holds_303 : decode cL_holds 303 = .ok (.iload_n 1, 1) := by decide +kernel
theorem dL_holds_304 : decode cL_holds 304 = .ok (.bipush 10, 2) := by decide +kernel
theorem dL_holds_306 : decode cL_holds 306 = .ok (.irem, 1) := by decide +kernel
theorem dL_holds_307 : decode cL_holds 307 = .ok (.istore 4, 2) := by decide +kernel
theorem dL_holds_309 : decode cL_holds 309 = .ok (.iload_n 1, 1) := by decide +kernel
theorem dL_holds_310 : decode cL_holds 310 = .ok (.bipush 10, 2) := by decide +kernel
theorem dL_holds_312 : decode cL_holds 312 = .ok (.idiv, 1) := by decide +kernel
theorem dL_holds_313 : decode cL_holds 313 = .ok (.sipush 360, 3) := by decide +kernel
theorem dL_holds_316 : decode cL_holds 316 = .ok (.irem, 1) := by decide +kernel
theorem dL_holds_317 : decode cL_holds 317 = .ok (.istore 5, 2) := by decide +kernel
theorem dL_holds_319 : decode cL_holds 319 = .ok (.iload_n 1, 1) := by decide +kernel
theorem dL_holds_320 : decode cL_holds 320 = .ok (.sipush 3600, 3) := by decide +kernel
theorem dL_holds_323 : decode cL_holds 323 = .ok (.idiv, 1) := by decide +kernel
theorem dL_holds_324 : decode cL_holds 324 = .ok (.sipush 360, 3) := by decide +kernel
theorem dL_holds_327 : decode cL_holds 327 = .ok (.irem, 1) := by decide +kernel
theorem dL_holds_328 : decode cL_holds 328 = .ok (.istore 6, 2) := by decide +kernel
theorem dL_holds_330 : decode cL_holds 330 = .ok (.aload_n 0, 1) := by decide +kernel
theorem dL_holds_331 : decode cL_holds 331 = .ok (.iload 4, 2) := by decide +kernel
theorem dL_holds_333 : decode cL_holds 333 = .ok (.iload 5, 2) := by decide +kernel
theorem dL_holds_335 : decode cL_holds 335 = .ok (.iload 6, 2) := by decide +kernel
theorem dL_holds_337 : decode cL_holds 337 = .ok (.invokestatic 126, 3) := by decide +kernel
theorem dL_holds_340 : decode cL_holds 340 = .ok (.istore 7, 2) := by decide +kernel
theorem dL_holds_342 : decode cL_holds 342 = .ok (.iload 7, 2) := by decide +kernel
theorem dL_holds_344 : decode cL_holds 344 = .ok (.ifCond .ge 7, 3) := by decide +kernel
theorem dL_holds_347 : decode cL_holds 347 = .ok (.iconst 0, 1) := by decide +kernel
theorem dL_holds_348 : decode cL_holds 348 = .ok (.goto 15, 3) := by decide +kernel
theorem dL_holds_351 : decode cL_holds 351 = .ok (.aload_n 0, 1) := by decide +kernel
theorem dL_holds_352 : decode cL_holds 352 = .ok (.iload 4, 2) := by decide +kernel
theorem dL_holds_354 : decode cL_holds 354 = .ok (.iload 5, 2) := by decide +kernel
theorem dL_holds_356 : decode cL_holds 356 = .ok (.iload 6, 2) := by decide +kernel
theorem dL_holds_358 : decode cL_holds 358 = .ok (.iload 7, 2) := by decide +kernel
theorem dL_holds_360 : decode cL_holds 360 = .ok (.invokestatic 137, 3) := by decide +kernel
theorem dL_holds_363 : decode cL_holds 363 = .ok (.istore 8, 2) := by decide +kernel
theorem dL_holds_365 : decode cL_holds 365 = .ok (.iload_n 2, 1) := by decide +kernel
theorem dL_holds_366 : decode cL_holds 366 = .ok (.ifCond .eq 31, 3) := by decide +kernel
theorem dL_holds_369 : decode cL_holds 369 = .ok (.iload 7, 2) := by decide +kernel
theorem dL_holds_371 : decode cL_holds 371 = .ok (.iconst (-1), 1) := by decide +kernel
theorem dL_holds_372 : decode cL_holds 372 = .ok (.if_icmp .lt 25, 3) := by decide +kernel
theorem dL_holds_375 : decode cL_holds 375 = .ok (.iload 7, 2) := by decide +kernel
theorem dL_holds_377 : decode cL_holds 377 = .ok (.sipush 360, 3) := by decide +kernel
theorem dL_holds_380 : decode cL_holds 380 = .ok (.if_icmp .ge 17, 3) := by decide +kernel
theorem dL_holds_383 : decode cL_holds 383 = .ok (.iload 7, 2) := by decide +kernel
theorem dL_holds_385 : decode cL_holds 385 = .ok (.ifCond .lt 8, 3) := by decide +kernel
theorem dL_holds_388 : decode cL_holds 388 = .ok (.iload 8, 2) := by decide +kernel
theorem dL_holds_390 : decode cL_holds 390 = .ok (.ifCond .le 7, 3) := by decide +kernel
theorem dL_holds_393 : decode cL_holds 393 = .ok (.iconst 1, 1) := by decide +kernel
theorem dL_holds_394 : decode cL_holds 394 = .ok (.goto 4, 3) := by decide +kernel
theorem dL_holds_397 : decode cL_holds 397 = .ok (.iconst 0, 1) := by decide +kernel
theorem dL_holds_398 : decode cL_holds 398 = .ok (.istore_n 2, 1) := by decide +kernel
theorem dL_holds_399 : decode cL_holds 399 = .ok (.iload_n 1, 1) := by decide +kernel
theorem dL_holds_400 : decode cL_holds 400 = .ok (.bipush 20, 2) := by decide +kernel
theorem dL_holds_402 : decode cL_holds 402 = .ok (.irem, 1) := by decide +kernel
theorem dL_holds_403 : decode cL_holds 403 = .ok (.istore 9, 2) := by decide +kernel
theorem dL_holds_405 : decode cL_holds 405 = .ok (.iload 9, 2) := by decide +kernel
theorem dL_holds_407 : decode cL_holds 407 = .ok (.sipush 360, 3) := by decide +kernel
theorem dL_holds_410 : decode cL_holds 410 = .ok (.if_icmp .ge 59, 3) := by decide +kernel
theorem dL_holds_413 : decode cL_holds 413 = .ok (.iload_n 2, 1) := by decide +kernel
theorem dL_holds_414 : decode cL_holds 414 = .ok (.ifCond .eq 55, 3) := by decide +kernel
theorem dL_holds_417 : decode cL_holds 417 = .ok (.aload_n 0, 1) := by decide +kernel
theorem dL_holds_418 : decode cL_holds 418 = .ok (.iload 4, 2) := by decide +kernel
theorem dL_holds_420 : decode cL_holds 420 = .ok (.iload 5, 2) := by decide +kernel
theorem dL_holds_422 : decode cL_holds 422 = .ok (.iload 6, 2) := by decide +kernel
theorem dL_holds_424 : decode cL_holds 424 = .ok (.iload 9, 2) := by decide +kernel
theorem dL_holds_426 : decode cL_holds 426 = .ok (.invokestatic 137, 3) := by decide +kernel
theorem dL_holds_429 : decode cL_holds 429 = .ok (.istore 10, 2) := by decide +kernel
theorem dL_holds_431 : decode cL_holds 431 = .ok (.iload 10, 2) := by decide +kernel
theorem dL_holds_433 : decode cL_holds 433 = .ok (.iload 8, 2) := by decide +kernel
theorem dL_holds_435 : decode cL_holds 435 = .ok (.if_icmp .lt 22, 3) := by decide +kernel
theorem dL_holds_438 : decode cL_holds 438 = .ok (.iload 10, 2) := by decide +kernel
theorem dL_holds_440 : decode cL_holds 440 = .ok (.iload 8, 2) := by decide +kernel
theorem dL_holds_442 : decode cL_holds 442 = .ok (.if_icmp .ne 19, 3) := by decide +kernel
theorem dL_holds_445 : decode cL_holds 445 = .ok (.iload 8, 2) := by decide +kernel
theorem dL_holds_447 : decode cL_holds 447 = .ok (.ifCond .eq 10, 3) := by decide +kernel
theorem dL_holds_450 : decode cL_holds 450 = .ok (.iload 9, 2) := by decide +kernel
theorem dL_holds_452 : decode cL_holds 452 = .ok (.iload 7, 2) := by decide +kernel
theorem dL_holds_454 : decode cL_holds 454 = .ok (.if_icmp .lt 7, 3) := by decide +kernel
theorem dL_holds_457 : decode cL_holds 457 = .ok (.iconst 1, 1) := by decide +kernel
theorem dL_holds_458 : decode cL_holds 458 = .ok (.goto 4, 3) := by decide +kernel
theorem dL_holds_461 : decode cL_holds 461 = .ok (.iconst 0, 1) := by decide +kernel
theorem dL_holds_462 : decode cL_holds 462 = .ok (.istore_n 2, 1) := by decide +kernel
theorem dL_holds_463 : decode cL_holds 463 = .ok (.iinc 9 20, 3) := by decide +kernel
theorem dL_holds_466 : decode cL_holds 466 = .ok (.goto (-61), 3) := by decide +kernel
theorem dL_holds_469 : decode cL_holds 469 = .ok (.aload_n 0, 1) := by decide +kernel
theorem dL_holds_470 : decode cL_holds 470 = .ok (.iload 4, 2) := by decide +kernel
theorem dL_holds_472 : decode cL_holds 472 = .ok (.invokestatic 120, 3) := by decide +kernel
theorem dL_holds_475 : decode cL_holds 475 = .ok (.istore 9, 2) := by decide +kernel
theorem dL_holds_477 : decode cL_holds 477 = .ok (.aload_n 0, 1) := by decide +kernel
theorem dL_holds_478 : decode cL_holds 478 = .ok (.iload 4, 2) := by decide +kernel
theorem dL_holds_480 : decode cL_holds 480 = .ok (.invokestatic 123, 3) := by decide +kernel
theorem dL_holds_483 : decode cL_holds 483 = .ok (.istore 10, 2) := by decide +kernel
theorem dL_holds_485 : decode cL_holds 485 = .ok (.iconst 0, 1) := by decide +kernel
theorem dL_holds_486 : decode cL_holds 486 = .ok (.istore 11, 2) := by decide +kernel
theorem dL_holds_488 : decode cL_holds 488 = .ok (.iload 11, 2) := by decide +kernel
theorem dL_holds_490 : decode cL_holds 490 = .ok (.bipush 19, 2) := by decide +kernel
theorem dL_holds_492 : decode cL_holds 492 = .ok (.if_icmp .ge 153, 3) := by decide +kernel
theorem dL_holds_495 : decode cL_holds 495 = .ok (.iload_n 2, 1) := by decide +kernel
theorem dL_holds_496 : decode cL_holds 496 = .ok (.ifCond .eq 149, 3) := by decide +kernel
theorem dL_holds_499 : decode cL_holds 499 = .ok (.aload_n 0, 1) := by decide +kernel
theorem dL_holds_500 : decode cL_holds 500 = .ok (.iload 11, 2) := by decide +kernel
theorem dL_holds_502 : decode cL_holds 502 = .ok (.iload 4, 2) := by decide +kernel
theorem dL_holds_504 : decode cL_holds 504 = .ok (.invokestatic 114, 3) := by decide +kernel
theorem dL_holds_507 : decode cL_holds 507 = .ok (.aload_n 0, 1) := by decide +kernel
theorem dL_holds_508 : decode cL_holds 508 = .ok (.iload 11, 2) := by decide +kernel
theorem dL_holds_510 : decode cL_holds 510 = .ok (.bipush 18, 2) := by decide +kernel
theorem dL_holds_512 : decode cL_holds 512 = .ok (.if_icmp .ne 9, 3) := by decide +kernel
theorem dL_holds_515 : decode cL_holds 515 = .ok (.sipush 270, 3) := by decide +kernel
theorem dL_holds_518 : decode cL_holds 518 = .ok (.goto 11, 3) := by decide +kernel
theorem dL_holds_521 : decode cL_holds 521 = .ok (.bipush 10, 2) := by decide +kernel
theorem dL_holds_523 : decode cL_holds 523 = .ok (.iload 11, 2) := by decide +kernel
theorem dL_holds_525 : decode cL_holds 525 = .ok (.imul, 1) := by decide +kernel
theorem dL_holds_526 : decode cL_holds 526 = .ok (.bipush 95, 2) := by decide +kernel
theorem dL_holds_528 : decode cL_holds 528 = .ok (.iadd, 1) := by decide +kernel
theorem dL_holds_529 : decode cL_holds 529 = .ok (.invokevirtual 141, 3) := by decide +kernel
theorem dL_holds_532 : decode cL_holds 532 = .ok (.imul, 1) := by decide +kernel
theorem dL_holds_533 : decode cL_holds 533 = .ok (.istore 12, 2) := by decide +kernel
theorem dL_holds_535 : decode cL_holds 535 = .ok (.iload 11, 2) := by decide +kernel
theorem dL_holds_537 : decode cL_holds 537 = .ok (.bipush 9, 2) := by decide +kernel
theorem dL_holds_539 : decode cL_holds 539 = .ok (.if_icmp .ge 46, 3) := by decide +kernel
theorem dL_holds_542 : decode cL_holds 542 = .ok (.iload 12, 2) := by decide +kernel
theorem dL_holds_544 : decode cL_holds 544 = .ok (.iload 9, 2) := by decide +kernel
theorem dL_holds_546 : decode cL_holds 546 = .ok (.ifCond .ge 7, 3) := by decide +kernel
theorem dL_holds_549 : decode cL_holds 549 = .ok (.iconst 0, 1) := by decide +kernel
theorem dL_holds_550 : decode cL_holds 550 = .ok (.goto 24, 3) := by decide +kernel
theorem dL_holds_553 : decode cL_holds 553 = .ok (.aload_n 0, 1) := by decide +kernel
theorem dL_holds_554 : decode cL_holds 554 = .ok (.iload 9, 2) := by decide +kernel
theorem dL_holds_556 : decode cL_holds 556 = .ok (.iload 4, 2) := by decide +kernel
theorem dL_holds_558 : decode cL_holds 558 = .ok (.invokestatic 114, 3) := by decide +kernel
theorem dL_holds_561 : decode cL_holds 561 = .ok (.aload_n 0, 1) := by decide +kernel
theorem dL_holds_562 : decode cL_holds 562 = .ok (.bipush 10, 2) := by decide +kernel
theorem dL_holds_564 : decode cL_holds 564 = .ok (.iload 9, 2) := by decide +kernel
theorem dL_holds_566 : decode cL_holds 566 = .ok (.imul, 1) := by decide +kernel
theorem dL_holds_567 : decode cL_holds 567 = .ok (.bipush 95, 2) := by decide +kernel
theorem dL_holds_569 : decode cL_holds 569 = .ok (.iadd, 1) := by decide +kernel
theorem dL_holds_570 : decode cL_holds 570 = .ok (.invokevirtual 141, 3) := by decide +kernel
theorem dL_holds_573 : decode cL_holds 573 = .ok (.imul, 1) := by decide +kernel
theorem dL_holds_574 : decode cL_holds 574 = .ok (.if_icmp .gt 7, 3) := by decide +kernel
theorem dL_holds_577 : decode cL_holds 577 = .ok (.iconst 1, 1) := by decide +kernel
theorem dL_holds_578 : decode cL_holds 578 = .ok (.goto 60, 3) := by decide +kernel
theorem dL_holds_581 : decode cL_holds 581 = .ok (.iconst 0, 1) := by decide +kernel
theorem dL_holds_582 : decode cL_holds 582 = .ok (.goto 56, 3) := by decide +kernel
theorem dL_holds_585 : decode cL_holds 585 = .ok (.iload 12, 2) := by decide +kernel
theorem dL_holds_587 : decode cL_holds 587 = .ok (.iload 10, 2) := by decide +kernel
theorem dL_holds_589 : decode cL_holds 589 = .ok (.ifCond .ge 7, 3) := by decide +kernel
theorem dL_holds_592 : decode cL_holds 592 = .ok (.iconst 0, 1) := by decide +kernel
theorem dL_holds_593 : decode cL_holds 593 = .ok (.goto 37, 3) := by decide +kernel
theorem dL_holds_596 : decode cL_holds 596 = .ok (.aload_n 0, 1) := by decide +kernel
theorem dL_holds_597 : decode cL_holds 597 = .ok (.iload 10, 2) := by decide +kernel
theorem dL_holds_599 : decode cL_holds 599 = .ok (.iload 4, 2) := by decide +kernel
theorem dL_holds_601 : decode cL_holds 601 = .ok (.invokestatic 114, 3) := by decide +kernel
theorem dL_holds_604 : decode cL_holds 604 = .ok (.aload_n 0, 1) := by decide +kernel
theorem dL_holds_605 : decode cL_holds 605 = .ok (.iload 10, 2) := by decide +kernel
theorem dL_holds_607 : decode cL_holds 607 = .ok (.bipush 18, 2) := by decide +kernel
theorem dL_holds_609 : decode cL_holds 609 = .ok (.if_icmp .ne 9, 3) := by decide +kernel
theorem dL_holds_612 : decode cL_holds 612 = .ok (.sipush 270, 3) := by decide +kernel
theorem dL_holds_615 : decode cL_holds 615 = .ok (.goto 11, 3) := by decide +kernel
theorem dL_holds_618 : decode cL_holds 618 = .ok (.bipush 10, 2) := by decide +kernel
theorem dL_holds_620 : decode cL_holds 620 = .ok (.iload 10, 2) := by decide +kernel
theorem dL_holds_622 : decode cL_holds 622 = .ok (.imul, 1) := by decide +kernel
theorem dL_holds_623 : decode cL_holds 623 = .ok (.bipush 95, 2) := by decide +kernel
theorem dL_holds_625 : decode cL_holds 625 = .ok (.iadd, 1) := by decide +kernel
theorem dL_holds_626 : decode cL_holds 626 = .ok (.invokevirtual 141, 3) := by decide +kernel
theorem dL_holds_629 : decode cL_holds 629 = .ok (.imul, 1) := by decide +kernel
theorem dL_holds_630 : decode cL_holds 630 = .ok (.if_icmp .lt 7, 3) := by decide +kernel
theorem dL_holds_633 : decode cL_holds 633 = .ok (.iconst 1, 1) := by decide +kernel
theorem dL_holds_634 : decode cL_holds 634 = .ok (.goto 4, 3) := by decide +kernel
theorem dL_holds_637 : decode cL_holds 637 = .ok (.iconst 0, 1) := by decide +kernel
theorem dL_holds_638 : decode cL_holds 638 = .ok (.istore_n 2, 1) := by decide +kernel
theorem dL_holds_639 : decode cL_holds 639 = .ok (.iinc 11 1, 3) := by decide +kernel
theorem dL_holds_642 : decode cL_holds 642 = .ok (.goto (-154), 3) := by decide +kernel
theorem dL_holds_645 : decode cL_holds 645 = .ok (.iload_n 2, 1) := by decide +kernel
theorem dL_holds_646 : decode cL_holds 646 = .ok (.ireturn, 1) := by decide +kernel
set_option maxRecDepth 20000 in
theorem ggL_gain_L_open : GoodIn wsL_gain wsL_open := goodIn_r _ [4] (by decide +kernel) (by decide +kernel)
set_option maxRecDepth 20000 in
theorem gL_gain_L_open : GoodIn wsL_gain (va_wsS RL 134 yL_open wsL_open) := goodIn_app (goodIn_of _ (by decide +kernel)) ggL_gain_L_open
set_option maxRecDepth 20000 in
theorem ggL_gain_L_best : GoodIn wsL_gain wsL_best := goodIn_ca (goodIn_r _ [7, 8, 9, 10, 11, 12, 13, 14, 15, 16, 17, 18, 19, 20, 21, 22, 23, 24, 25, 26, 27, 28, 29, 30, 31, 32, 48, 49, 50, 51, 52, 53, 54, 55, 56, 57] (by decide +kernel) (by decide +kernel)) (goodIn_sub (fun _ h => List.mem_cons_of_mem _ (List.mem_append_right _ h)) (by decide +kernel))
set_option maxRecDepth 20000 in
theorem gL_gain_L_best : GoodIn wsL_gain (va_wsS RL 114 yL_best wsL_best) := goodIn_app (goodIn_of _ (by decide +kernel)) ggL_gain_L_best
set_option maxRecDepth 20000 in
theorem ggL_gain_X3_sine : GoodIn wsL_gain wsX3_sine := goodIn_r _ [36, 37, 38, 39, 40, 41, 42, 43, 44, 45, 46, 47, 48, 49, 50, 51, 52, 53, 54, 55, 56, 58] (by decide +kernel) (by decide +kernel)
set_option maxRecDepth 20000 in
theorem gL_gain_X3_sine : GoodIn wsL_gain (wsV RL 141 RX3 yX3_sine wsX3_sine) := goodIn_app (goodIn_of _ (by decide +kernel)) ggL_gain_X3_sine
theorem dL_gain_0 : decode cL_gain 0 = .ok (.aload_n 0, 1) := by decide +kernel
theorem dL_gain_1 : decode cL_gain 1 = .ok (.iload_n 2, 1) := by decide +kernel
theorem dL_gain_2 : decode cL_gain 2 = .ok (.iload 4, 2) := by decide +kernel
theorem dL_gain_4 : decode cL_gain 4 = .ok (.isub, 1) := by decide +kernel
theorem dL_gain_5 : decode cL_gain 5 = .ok (.sipush 360, 3) := by decide +kernel
theorem dL_gain_8 : decode cL_gain 8 = .ok (.iadd, 1) := by decide +kernel
theorem dL_gain_9 : decode cL_gain 9 = .ok (.sipush 360, 3) := by decide +kernel
theorem dL_gain_12 : decode cL_gain 12 = .ok (.irem, 1) := by decide +kernel
theorem dL_gain_13 : decode cL_gain 13 = .ok (.invokestatic 134, 3) := by decide +kernel
theorem dL_gain_16 : decode cL_gain 16 = .ok (.bipush 10, 2) := by decide +kernel
theorem dL_gain_18 : decode cL_gain 18 = .ok (.idiv, 1) := by decide +kernel
theorem dL_gain_19 : decode cL_gain 19 = .ok (.iload_n 1, 1) := by decide +kernel
theorem dL_gain_20 : decode cL_gain 20 = .ok (.invokestatic 114, 3) := by decide +kernel
theorem dL_gain_23 : decode cL_gain 23 = .ok (.aload_n 0, 1) := by decide +kernel
theorem dL_gain_24 : decode cL_gain 24 = .ok (.iload 4, 2) := by decide +kernel
theorem dL_gain_26 : decode cL_gain 26 = .ok (.iload_n 3, 1) := by decide +kernel
theorem dL_gain_27 : decode cL_gain 27 = .ok (.isub, 1) := by decide +kernel
theorem dL_gain_28 : decode cL_gain 28 = .ok (.bipush 90, 2) := by decide +kernel
theorem dL_gain_30 : decode cL_gain 30 = .ok (.iadd, 1) := by decide +kernel
theorem dL_gain_31 : decode cL_gain 31 = .ok (.invokevirtual 141, 3) := by decide +kernel
theorem dL_gain_34 : decode cL_gain 34 = .ok (.imul, 1) := by decide +kernel
theorem dL_gain_35 : decode cL_gain 35 = .ok (.ireturn, 1) := by decide +kernel
set_option maxRecDepth 20000 in
theorem ggL_back_X3_entries : GoodIn wsL_back wsX3_entries := goodIn_r _ [5, 6, 155, 156, 157, 158, 159, 160, 161, 162, 163] (by decide +kernel) (by decide +kernel)
set_option maxRecDepth 20000 in
theorem gL_back_X3_entries : GoodIn wsL_back (wsV RL 78 RX3 yX3_entries wsX3_entries) := goodIn_app (goodIn_of _ (by decide +kernel)) ggL_back_X3_entries
set_option maxRecDepth 20000 in
theorem ggL_back_L_faults : GoodIn wsL_back wsL_faults := goodIn_ca (goodIn_r _ [10, 11, 12, 13, 14, 15, 4, 16, 17, 18, 19, 20, 21, 22, 23, 24, 25, 26, 27, 28, 29, 30, 31, 32, 6, 33, 34, 35, 36, 37, 38, 39, 40, 41, 42, 43, 44, 45, 46, 47, 48, 49, 50, 51, 52, 53, 54, 55, 56, 57, 58, 59, 60, 61, 62, 63, 64, 65, 66, 67, 68, 69, 70, 71, 72, 73, 74, 75, 76, 77, 78, 79, 80, 81, 82, 83, 84, 85, 86, 87, 88, 89, 90, 91, 92, 93, 94, 95, 96, 97, 98, 99, 100, 101, 102, 103, 104, 105, 106, 107, 108, 109, 110, 111, 112, 113, 114, 155, 156, 157, 158, 159, 160, 161, 162, 163, 164, 165, 166, 167, 168, 169, 170, 171, 172, 173, 174] (by decide +kernel) (by decide +kernel)) (goodIn_sub (fun _ h => List.mem_cons_of_mem _ (List.mem_append_left _ (List.mem_append_right _ h))) (by decide +kernel))
set_option maxRecDepth 20000 in
theorem gL_back_L_faults : GoodIn wsL_back (va_wsS RL 88 yL_faults wsL_faults) := goodIn_app (goodIn_of _ (by decide +kernel)) ggL_back_L_faults
set_option maxRecDepth 20000 in
theorem ggL_back_L_speed : GoodIn wsL_back wsL_speed := goodIn_ca (goodIn_r _ [117, 118, 119, 120, 121, 122, 4, 123, 33, 45, 124, 125, 126, 127, 128, 129, 6, 20, 21, 22, 155, 156, 157, 158, 159, 160, 161, 162, 163, 165, 166, 167, 168, 169, 170, 171, 172, 173] (by decide +kernel) (by decide +kernel)) (goodIn_sub (fun _ h => List.mem_cons_of_mem _ (List.mem_append_right _ h)) (by decide +kernel))
set_option maxRecDepth 20000 in
theorem gL_back_L_speed : GoodIn wsL_back (va_wsS RL 95 yL_speed wsL_speed) := goodIn_app (goodIn_of _ (by decide +kernel)) ggL_back_L_speed
set_option maxRecDepth 20000 in
theorem ggL_back_L_angle : GoodIn wsL_back wsL_angle := goodIn_ca (goodIn_r _ [132, 118, 119, 133, 134, 135, 4, 136, 33, 53, 124, 125, 126, 127, 128, 129, 6, 20, 21, 22, 155, 156, 157, 158, 159, 160, 161, 162, 163, 165, 166, 167, 168, 169, 170, 171, 172, 173] (by decide +kernel) (by decide +kernel)) (goodIn_sub (fun _ h => List.mem_cons_of_mem _ (List.mem_append_right _ h)) (by decide +kernel))
set_option maxRecDepth 20000 in
theorem gL_back_L_angle : GoodIn wsL_back (va_wsS RL 100 yL_angle wsL_angle) := goodIn_app (goodIn_of _ (by decide +kernel)) ggL_back_L_angle
set_option maxRecDepth 20000 in
theorem ggL_back_L_east : GoodIn wsL_back wsL_east := goodIn_ca (goodIn_r _ [139, 118, 119, 140, 141, 142, 4, 143, 124, 125, 126, 127, 128, 129, 6, 20, 21, 22, 144, 145, 146, 147, 33, 148, 45, 50, 47, 149, 150, 151, 68, 69, 70, 64, 71, 66, 67, 58, 59, 60, 152, 153, 154, 155, 156, 157, 158, 159, 160, 161, 162, 163, 165, 166, 167, 168, 169, 170, 171, 172, 173, 174] (by decide +kernel) (by decide +kernel)) (goodIn_sub (fun _ h => List.mem_cons_of_mem _ (List.mem_append_right _ h)) (by decide +kernel))
set_option maxRecDepth 20000 in
theorem gL_back_L_east : GoodIn wsL_back (va_wsS RL 110 yL_east wsL_east) := goodIn_app (goodIn_of _ (by decide +kernel)) ggL_back_L_east
theorem dL_back_0 : decode cL_back 0 = .ok (.aload_n 0, 1) := by decide +kernel
theorem dL_back_1 : decode cL_back 1 = .ok (.invokevirtual 78, 3) := by decide +kernel
theorem dL_back_4 : decode cL_back 4 = .ok (.istore_n 2, 1) := by decide +kernel
theorem dL_back_5 : decode cL_back 5 = .ok (.aload_n 0, 1) := by decide +kernel
theorem dL_back_6 : decode cL_back 6 = .ok (.sipush 1000, 3) := by decide +kernel
theorem dL_back_9 : decode cL_back 9 = .ok (.iconst 0, 1) := by decide +kernel
theorem dL_back_10 : decode cL_back 10 = .ok (.iconst 0, 1) := by decide +kernel
theorem dL_back_11 : decode cL_back 11 = .ok (.invokestatic 88, 3) := by decide +kernel
theorem dL_back_14 : decode cL_back 14 = .ok (.istore_n 3, 1) := by decide +kernel
theorem dL_back_15 : decode cL_back 15 = .ok (.iload_n 2, 1) := by decide +kernel
theorem dL_back_16 : decode cL_back 16 = .ok (.ifCond .ne 7, 3) := by decide +kernel
theorem dL_back_19 : decode cL_back 19 = .ok (.iconst 0, 1) := by decide +kernel
theorem dL_back_20 : decode cL_back 20 = .ok (.goto 6, 3) := by decide +kernel
theorem dL_back_23 : decode cL_back 23 = .ok (.iload_n 1, 1) := by decide +kernel
theorem dL_back_24 : decode cL_back 24 = .ok (.iload_n 2, 1) := by decide +kernel
theorem dL_back_25 : decode cL_back 25 = .ok (.irem, 1) := by decide +kernel
theorem dL_back_26 : decode cL_back 26 = .ok (.istore 4, 2) := by decide +kernel
theorem dL_back_28 : decode cL_back 28 = .ok (.iload_n 2, 1) := by decide +kernel
theorem dL_back_29 : decode cL_back 29 = .ok (.ifCond .ne 7, 3) := by decide +kernel
theorem dL_back_32 : decode cL_back 32 = .ok (.iconst 0, 1) := by decide +kernel
theorem dL_back_33 : decode cL_back 33 = .ok (.goto 9, 3) := by decide +kernel
theorem dL_back_36 : decode cL_back 36 = .ok (.aload_n 0, 1) := by decide +kernel
theorem dL_back_37 : decode cL_back 37 = .ok (.iload 4, 2) := by decide +kernel
theorem dL_back_39 : decode cL_back 39 = .ok (.invokestatic 95, 3) := by decide +kernel
theorem dL_back_42 : decode cL_back 42 = .ok (.istore 5, 2) := by decide +kernel
theorem dL_back_44 : decode cL_back 44 = .ok (.iload_n 2, 1) := by decide +kernel
theorem dL_back_45 : decode cL_back 45 = .ok (.ifCond .ne 7, 3) := by decide +kernel
theorem dL_back_48 : decode cL_back 48 = .ok (.iconst 0, 1) := by decide +kernel
theorem dL_back_49 : decode cL_back 49 = .ok (.goto 9, 3) := by decide +kernel
theorem dL_back_52 : decode cL_back 52 = .ok (.aload_n 0, 1) := by decide +kernel
theorem dL_back_53 : decode cL_back 53 = .ok (.iload 4, 2) := by decide +kernel
theorem dL_back_55 : decode cL_back 55 = .ok (.invokestatic 100, 3) := by decide +kernel
theorem dL_back_58 : decode cL_back 58 = .ok (.istore 6, 2) := by decide +kernel
theorem dL_back_60 : decode cL_back 60 = .ok (.iload_n 2, 1) := by decide +kernel
theorem dL_back_61 : decode cL_back 61 = .ok (.ifCond .ne 7, 3) := by decide +kernel
theorem dL_back_64 : decode cL_back 64 = .ok (.iconst 0, 1) := by decide +kernel
theorem dL_back_65 : decode cL_back 65 = .ok (.goto 10, 3) := by decide +kernel
theorem dL_back_68 : decode cL_back 68 = .ok (.aload_n 0, 1) := by decide +kernel
theorem dL_back_69 : decode cL_back 69 = .ok (.iload_n 2, 1) := by decide +kernel
theorem dL_back_70 : decode cL_back 70 = .ok (.iconst 1, 1) := by decide +kernel
theorem dL_back_71 : decode cL_back 71 = .ok (.isub, 1) := by decide +kernel
theorem dL_back_72 : decode cL_back 72 = .ok (.invokestatic 110, 3) := by decide +kernel
theorem dL_back_75 : decode cL_back 75 = .ok (.istore 7, 2) := by decide +kernel
theorem dL_back_77 : decode cL_back 77 = .ok (.iload_n 3, 1) := by decide +kernel
theorem dL_back_78 : decode cL_back 78 = .ok (.sipush 500, 3) := by decide +kernel
theorem dL_back_81 : decode cL_back 81 = .ok (.if_icmp .lt 87, 3) := by decide +kernel
theorem dL_back_84 : decode cL_back 84 = .ok (.iload_n 3, 1) := by decide +kernel
theorem dL_back_85 : decode cL_back 85 = .ok (.sipush 1500, 3) := by decide +kernel
theorem dL_back_88 : decode cL_back 88 = .ok (.if_icmp .gt 80, 3) := by decide +kernel
theorem dL_back_91 : decode cL_back 91 = .ok (.aload_n 0, 1) := by decide +kernel
theorem dL_back_92 : decode cL_back 92 = .ok (.sipush 500, 3) := by decide +kernel
theorem dL_back_95 : decode cL_back 95 = .ok (.iload_n 1, 1) := by decide +kernel
theorem dL_back_96 : decode cL_back 96 = .ok (.sipush 1001, 3) := by decide +kernel
theorem dL_back_99 : decode cL_back 99 = .ok (.irem, 1) := by decide +kernel
theorem dL_back_100 : decode cL_back 100 = .ok (.iadd, 1) := by decide +kernel
theorem dL_back_101 : decode cL_back 101 = .ok (.bipush 20, 2) := by decide +kernel
theorem dL_back_103 : decode cL_back 103 = .ok (.bipush (-20), 2) := by decide +kernel
theorem dL_back_105 : decode cL_back 105 = .ok (.invokestatic 88, 3) := by decide +kernel
theorem dL_back_108 : decode cL_back 108 = .ok (.sipush 1000, 3) := by decide +kernel
theorem dL_back_111 : decode cL_back 111 = .ok (.if_icmp .ne 57, 3) := by decide +kernel
theorem dL_back_114 : decode cL_back 114 = .ok (.iload_n 2, 1) := by decide +kernel
theorem dL_back_115 : decode cL_back 115 = .ok (.ifCond .eq 28, 3) := by decide +kernel
theorem dL_back_118 : decode cL_back 118 = .ok (.aload_n 0, 1) := by decide +kernel
theorem dL_back_119 : decode cL_back 119 = .ok (.iload 4, 2) := by decide +kernel
theorem dL_back_121 : decode cL_back 121 = .ok (.invokestatic 95, 3) := by decide +kernel
theorem dL_back_124 : decode cL_back 124 = .ok (.iload 5, 2) := by decide +kernel
theorem dL_back_126 : decode cL_back 126 = .ok (.sipush 500, 3) := by decide +kernel
theorem dL_back_129 : decode cL_back 129 = .ok (.iload_n 1, 1) := by decide +kernel
theorem dL_back_130 : decode cL_back 130 = .ok (.sipush 1001, 3) := by decide +kernel
theorem dL_back_133 : decode cL_back 133 = .ok (.irem, 1) := by decide +kernel
theorem dL_back_134 : decode cL_back 134 = .ok (.iadd, 1) := by decide +kernel
theorem dL_back_135 : decode cL_back 135 = .ok (.imul, 1) := by decide +kernel
theorem dL_back_136 : decode cL_back 136 = .ok (.sipush 1000, 3) := by decide +kernel
theorem dL_back_139 : decode cL_back 139 = .ok (.idiv, 1) := by decide +kernel
theorem dL_back_140 : decode cL_back 140 = .ok (.if_icmp .ne 28, 3) := by decide +kernel
theorem dL_back_143 : decode cL_back 143 = .ok (.aload_n 0, 1) := by decide +kernel
theorem dL_back_144 : decode cL_back 144 = .ok (.sipush 1000, 3) := by decide +kernel
theorem dL_back_147 : decode cL_back 147 = .ok (.iconst 0, 1) := by decide +kernel
theorem dL_back_148 : decode cL_back 148 = .ok (.iconst 0, 1) := by decide +kernel
theorem dL_back_149 : decode cL_back 149 = .ok (.invokestatic 88, 3) := by decide +kernel
theorem dL_back_152 : decode cL_back 152 = .ok (.sipush 500, 3) := by decide +kernel
theorem dL_back_155 : decode cL_back 155 = .ok (.iload_n 1, 1) := by decide +kernel
theorem dL_back_156 : decode cL_back 156 = .ok (.sipush 1001, 3) := by decide +kernel
theorem dL_back_159 : decode cL_back 159 = .ok (.irem, 1) := by decide +kernel
theorem dL_back_160 : decode cL_back 160 = .ok (.iadd, 1) := by decide +kernel
theorem dL_back_161 : decode cL_back 161 = .ok (.if_icmp .ne 7, 3) := by decide +kernel
theorem dL_back_164 : decode cL_back 164 = .ok (.iconst 1, 1) := by decide +kernel
theorem dL_back_165 : decode cL_back 165 = .ok (.goto 4, 3) := by decide +kernel
theorem dL_back_168 : decode cL_back 168 = .ok (.iconst 0, 1) := by decide +kernel
theorem dL_back_169 : decode cL_back 169 = .ok (.istore 8, 2) := by decide +kernel
theorem dL_back_171 : decode cL_back 171 = .ok (.iload 8, 2) := by decide +kernel
theorem dL_back_173 : decode cL_back 173 = .ok (.ifCond .eq 45, 3) := by decide +kernel
theorem dL_back_176 : decode cL_back 176 = .ok (.iload_n 2, 1) := by decide +kernel
theorem dL_back_177 : decode cL_back 177 = .ok (.ifCond .eq 37, 3) := by decide +kernel
theorem dL_back_180 : decode cL_back 180 = .ok (.aload_n 0, 1) := by decide +kernel
theorem dL_back_181 : decode cL_back 181 = .ok (.iload 4, 2) := by decide +kernel
theorem dL_back_183 : decode cL_back 183 = .ok (.invokestatic 95, 3) := by decide +kernel
theorem dL_back_186 : decode cL_back 186 = .ok (.iload 5, 2) := by decide +kernel
theorem dL_back_188 : decode cL_back 188 = .ok (.if_icmp .ne 30, 3) := by decide +kernel
theorem dL_back_191 : decode cL_back 191 = .ok (.aload_n 0, 1) := by decide +kernel
theorem dL_back_192 : decode cL_back 192 = .ok (.iload 4, 2) := by decide +kernel
theorem dL_back_194 : decode cL_back 194 = .ok (.invokestatic 100, 3) := by decide +kernel
theorem dL_back_197 : decode cL_back 197 = .ok (.iload 6, 2) := by decide +kernel
theorem dL_back_199 : decode cL_back 199 = .ok (.if_icmp .ne 19, 3) := by decide +kernel
theorem dL_back_202 : decode cL_back 202 = .ok (.aload_n 0, 1) := by decide +kernel
theorem dL_back_203 : decode cL_back 203 = .ok (.iload_n 2, 1) := by decide +kernel
theorem dL_back_204 : decode cL_back 204 = .ok (.iconst 1, 1) := by decide +kernel
theorem dL_back_205 : decode cL_back 205 = .ok (.isub, 1) := by decide +kernel
theorem dL_back_206 : decode cL_back 206 = .ok (.invokestatic 110, 3) := by decide +kernel
theorem dL_back_209 : decode cL_back 209 = .ok (.iload 7, 2) := by decide +kernel
theorem dL_back_211 : decode cL_back 211 = .ok (.if_icmp .ne 7, 3) := by decide +kernel
theorem dL_back_214 : decode cL_back 214 = .ok (.iconst 1, 1) := by decide +kernel
theorem dL_back_215 : decode cL_back 215 = .ok (.goto 4, 3) := by decide +kernel
theorem dL_back_218 : decode cL_back 218 = .ok (.iconst 0, 1) := by decide +kernel
theorem dL_back_219 : decode cL_back 219 = .ok (.ireturn, 1) := by decide +kernel
set_option maxRecDepth 20000 in
theorem ggL_law_X3_init : GoodIn wsL_law wsX3_init := goodIn_r _ [6, 7, 8, 9, 10, 11, 12, 13, 14, 15, 16, 17, 18, 19, 20, 21, 3, 22, 23, 24, 25, 26, 27, 28, 29, 30, 31, 32, 33, 34, 35, 36, 37, 370, 361, 362, 363, 364, 365, 366, 367, 368, 369, 371, 372, 373, 374, 375, 376, 377, 378, 379, 380] (by decide +kernel) (by decide +kernel)
set_option maxRecDepth 20000 in
theorem gL_law_X3_init : GoodIn wsL_law (wsX3_init) := ggL_law_X3_init
set_option maxRecDepth 20000 in
theorem ggL_law_L_drawn : GoodIn wsL_law wsL_drawn := goodIn_r _ [41, 42, 43] (by decide +kernel) (by decide +kernel)
set_option maxRecDepth 20000 in
theorem gL_law_L_drawn : GoodIn wsL_law (va_wsS RL 145 yL_drawn wsL_drawn) := goodIn_app (goodIn_of _ (by decide +kernel)) ggL_law_L_drawn
set_option maxRecDepth 20000 in
theorem ggL_law_L_act : GoodIn wsL_law wsL_act := goodIn_ca (goodIn_ca (goodIn_ca (goodIn_r _ [46, 47, 48, 40, 49, 50, 51, 52, 53, 54, 2, 55, 24, 56, 57, 58, 59, 60, 61, 62, 63, 64, 65, 66, 67, 68, 69, 21, 70, 15, 71, 72, 73, 20, 74, 37, 75, 76, 77, 78, 79, 80, 81, 82, 83, 84, 13, 85, 86, 87, 88, 89, 90, 91, 92, 93, 94, 95, 96, 97, 12, 98, 29, 99, 100, 101, 102, 103, 104, 105, 106, 107, 108, 109, 110, 111, 112, 113, 114, 115, 116, 117, 118, 119, 120, 121, 122, 123, 124, 125, 126, 17, 127, 128, 129, 130, 131, 132, 133, 134, 135, 136, 137, 138, 139, 140, 141, 142, 143, 144, 145, 146, 147, 148, 149, 150, 151, 152, 153, 154, 155, 156, 23, 22, 157, 158, 159, 160, 161, 162, 163, 164, 165, 166, 167, 168, 169, 170, 171, 361, 362, 363, 364, 365, 366, 367, 368, 369, 380, 371, 372, 373, 374, 375, 376, 377, 378, 379, 370] (by decide +kernel) (by decide +kernel)) (goodIn_sub (fun _ h => List.mem_append_left _ (List.mem_append_left _ (List.mem_append_right _ h))) (by decide +kernel))) (goodIn_sub (fun _ h => List.mem_append_left _ (List.mem_append_right _ h)) (by decide +kernel))) (goodIn_sub (fun _ h => List.mem_append_right _ h) (by decide +kernel))
set_option maxRecDepth 20000 in
theorem gL_law_L_act : GoodIn wsL_law (va_wsS RL 149 yL_act wsL_act) := goodIn_app (goodIn_of _ (by decide +kernel)) ggL_law_L_act
set_option maxRecDepth 20000 in
theorem ggL_law_L_refuses : GoodIn wsL_law wsL_refuses := goodIn_ca (goodIn_ca (goodIn_ca (goodIn_r _ [174, 51, 150, 164, 175, 176, 177, 2, 178, 70, 160, 161, 40, 162, 50, 163, 165, 166, 167, 168, 169, 170, 15, 171, 79, 81, 84, 83, 21, 58, 59, 60, 61, 62, 63, 64, 65, 157, 158, 159, 75, 76, 77, 78, 24, 80, 56, 82, 57, 13, 85, 86, 87, 88, 89, 90, 91, 92, 93, 94, 95, 96, 97, 12, 98, 29, 99, 100, 101, 102, 103, 104, 105, 106, 107, 108, 109, 110, 111, 112, 113, 114, 115, 116, 117, 20, 118, 37, 119, 120, 121, 122, 123, 124, 125, 126, 17, 127, 128, 129, 130, 131, 132, 133, 134, 135, 136, 137, 138, 139, 140, 141, 142, 143, 144, 145, 47, 48, 49, 52, 53, 54, 55, 66, 67, 68, 69, 71, 72, 73, 74, 146, 147, 148, 149, 151, 152, 153, 154, 155, 156, 23, 22, 179, 180, 181, 182, 183, 184, 185, 186, 187, 188, 189, 190, 191, 192, 193, 194, 195, 196, 197, 198, 199, 200, 201, 202, 203, 204, 205, 206, 207, 208, 209, 210, 211, 212, 213, 214, 215, 216, 217, 218, 219, 220, 221, 222, 223, 224, 225, 226, 227, 228, 229, 230, 231, 232, 233, 234, 235, 236, 237, 238, 239, 240, 241, 242, 243, 244, 245, 246, 247, 248, 249, 250, 251, 252, 253, 254, 255, 256, 257, 258, 259, 260, 261, 262, 263, 264, 265, 266, 267, 268, 269, 270, 271, 272, 273, 274, 275, 276, 277, 278, 279, 280, 281, 282, 283, 284, 285, 286, 287, 288, 289, 290, 291, 292, 293, 294, 295, 296, 297, 298, 299, 300, 301, 302, 303, 304, 305, 306, 307, 308, 309, 310, 311, 312, 313, 314, 315, 316, 317, 318, 319, 320, 321, 322, 323, 324, 325, 326, 327, 328, 329, 330, 361, 362, 363, 364, 365, 366, 367, 368, 369, 371, 372, 373, 374, 375, 376, 377, 378, 379, 370, 380] rfl (by decide +kernel)) (goodIn_sub (fun _ h => List.mem_append_right _ h) (by decide +kernel))) (goodIn_sub (fun _ h => List.mem_append_left _ (List.mem_append_left _ (List.mem_append_right _ h))) (by decide +kernel))) (goodIn_sub (fun _ h => List.mem_append_left _ (List.mem_append_right _ h)) (by decide +kernel))
set_option maxRecDepth 20000 in
theorem gL_law_L_refuses : GoodIn wsL_law (va_wsS RL 153 yL_refuses wsL_refuses) := goodIn_app (goodIn_of _ (by decide +kernel)) ggL_law_L_refuses
set_option maxRecDepth 20000 in
theorem ggL_law_L_alike : GoodIn wsL_law wsL_alike := goodIn_ca (goodIn_ca (goodIn_r _ [333, 175, 176, 177, 2, 178, 70, 334, 335, 336, 337, 338, 339, 340, 341, 15, 218, 219, 220, 17, 221, 132, 233, 129, 130, 131, 133, 134, 135, 136, 122, 137, 342, 343, 93, 344, 324, 325, 40, 326, 50, 51, 327, 328, 329, 330, 61, 62, 63, 64, 65, 229, 230, 231, 232, 241, 242, 243, 244, 80, 245, 121, 123, 171, 179, 180, 181, 149, 150, 182, 183, 184, 185, 186, 187, 188, 189, 155, 156, 58, 59, 60, 190, 191, 192, 193, 194, 195, 196, 86, 197, 198, 199, 200, 201, 202, 203, 87, 204, 205, 206, 207, 208, 209, 210, 82, 88, 89, 90, 91, 92, 94, 211, 212, 213, 214, 215, 216, 217, 222, 223, 224, 225, 226, 227, 228, 234, 235, 236, 237, 238, 239, 240, 246, 247, 248, 249, 250, 251, 252, 253, 254, 255, 256, 13, 23, 22, 257, 100, 101, 102, 12, 103, 29, 99, 258, 259, 260, 261, 262, 263, 264, 265, 266, 267, 268, 269, 270, 271, 272, 273, 274, 21, 275, 276, 277, 278, 279, 280, 281, 282, 283, 20, 284, 37, 294, 295, 296, 297, 298, 299, 300, 301, 302, 303, 304, 305, 306, 307, 95, 96, 97, 98, 308, 309, 310, 311, 312, 313, 314, 361, 362, 363, 364, 365, 366, 367, 368, 369, 371, 372, 373, 374, 375, 376, 377, 378, 379, 370, 380] rfl (by decide +kernel)) (goodIn_sub (fun _ h => List.mem_append_left _ (List.mem_append_left _ (List.mem_append_right _ h))) (by decide +kernel))) (goodIn_sub (fun _ h => List.mem_append_left _ (List.mem_append_right _ h)) (by decide +kernel))
set_option maxRecDepth 20000 in
theorem gL_law_L_alike : GoodIn wsL_law (va_wsS RL 157 yL_alike wsL_alike) := goodIn_app (goodIn_of _ (by decide +kernel)) ggL_law_L_alike
set_option maxRecDepth 20000 in
theorem ggL_law_L_holds : GoodIn wsL_law wsL_holds := goodIn_ca (goodIn_ca (goodIn_r _ [347, 175, 176, 177, 2, 178, 70, 190, 191, 40, 192, 149, 150, 193, 194, 195, 196, 15, 86, 186, 187, 188, 189, 155, 156, 58, 59, 60, 197, 198, 199, 200, 201, 202, 203, 87, 348, 349, 350, 222, 223, 224, 225, 226, 227, 228, 229, 230, 231, 232, 218, 219, 220, 17, 221, 132, 233, 129, 130, 131, 133, 134, 135, 136, 122, 137, 234, 235, 236, 237, 238, 239, 240, 241, 242, 243, 244, 80, 245, 121, 123, 171, 211, 212, 213, 214, 215, 216, 217, 268, 269, 270, 271, 272, 273, 274, 21, 275, 276, 277, 278, 279, 280, 281, 282, 283, 20, 284, 37, 179, 180, 181, 182, 183, 184, 185, 285, 286, 287, 288, 289, 290, 291, 292, 125, 126, 127, 128, 138, 139, 293, 141, 142, 143, 144, 145, 324, 325, 326, 50, 51, 327, 328, 329, 330, 61, 62, 63, 64, 65, 315, 316, 317, 318, 319, 320, 321, 13, 157, 158, 159, 88, 89, 90, 91, 92, 93, 94, 322, 323, 95, 96, 97, 12, 98, 29, 99, 351, 352, 353, 354, 355, 356, 357, 100, 101, 102, 103, 294, 295, 296, 297, 298, 299, 300, 301, 302, 303, 304, 305, 306, 307, 308, 309, 310, 311, 312, 313, 314, 361, 362, 363, 364, 365, 366, 367, 368, 369, 371, 372, 373, 374, 375, 376, 377, 378, 379, 380, 370] rfl (by decide +kernel)) (goodIn_sub (fun _ h => List.mem_append_left _ (List.mem_append_right _ h)) (by decide +kernel))) (goodIn_sub (fun _ h => List.mem_append_left _ (List.mem_append_left _ (List.mem_append_right _ h))) (by decide +kernel))
set_option maxRecDepth 20000 in
theorem gL_law_L_holds : GoodIn wsL_law (va_wsS RL 161 yL_holds wsL_holds) := goodIn_app (goodIn_of _ (by decide +kernel)) ggL_law_L_holds
set_option maxRecDepth 20000 in
theorem ggL_law_L_back : GoodIn wsL_law wsL_back := goodIn_ca (goodIn_ca (goodIn_r _ [360, 175, 176, 177, 2, 178, 70, 47, 48, 40, 49, 50, 51, 52, 53, 54, 55, 24, 56, 57, 58, 59, 60, 61, 62, 63, 64, 65, 66, 67, 68, 69, 21, 15, 71, 72, 73, 20, 74, 37, 75, 76, 77, 78, 79, 80, 81, 82, 83, 84, 13, 85, 86, 87, 88, 89, 90, 91, 92, 93, 94, 95, 96, 97, 12, 98, 29, 99, 100, 101, 102, 103, 104, 105, 106, 107, 108, 109, 110, 111, 112, 113, 114, 115, 116, 117, 118, 119, 120, 121, 122, 123, 124, 125, 126, 17, 127, 128, 129, 130, 131, 132, 133, 134, 135, 136, 137, 138, 139, 140, 141, 142, 143, 144, 145, 179, 180, 181, 149, 150, 182, 183, 184, 185, 186, 187, 188, 189, 155, 156, 197, 198, 199, 200, 201, 202, 203, 246, 247, 248, 249, 250, 251, 252, 253, 254, 255, 256, 171, 23, 22, 257, 258, 259, 260, 361, 362, 363, 364, 365, 366, 367, 368, 369, 380, 371, 372, 373, 374, 375, 376, 377, 378, 379, 370] rfl (by decide +kernel)) (goodIn_sub (fun _ h => List.mem_append_left _ (List.mem_append_left _ (List.mem_append_right _ h))) (by decide +kernel))) (goodIn_sub (fun _ h => List.mem_append_left _ (List.mem_append_right _ h)) (by decide +kernel))
set_option maxRecDepth 20000 in
theorem gL_law_L_back : GoodIn wsL_law (va_wsS RL 164 yL_back wsL_back) := goodIn_app (goodIn_of _ (by decide +kernel)) ggL_law_L_back
